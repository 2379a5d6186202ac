section
-- ===== PART A: goes FIRST, ahead of the names: the tables' words, and 'selects' of the private methods out of them =====
/-- a private method of a class that the tables say can be made, by its rows of tables_1 -/
def lw_okq (q : MethodName × Nat) : Prop := (q.1.cls ≠ "java/lang/invoke/MethodHandle" ∧ q.1.cls ≠ "java/lang/invoke/VarHandle") ∧ Cond.instantiable q.1.cls q.2 ∈ tables_1 ∧ Cond.privateMethod q.1 ∈ tables_1 ∧ Cond.instanceMethod q.1 ∈ tables_1
theorem lw_p0 : lw_okq (⟨"WalkTeller", "finding", "(I)I"⟩, 10) := ⟨⟨by decide +kernel, by decide +kernel⟩, List.mem_of_getElem? (i := 22) (by decide +kernel), List.mem_of_getElem? (i := 184) (by decide +kernel), List.mem_of_getElem? (i := 185) (by decide +kernel)⟩
theorem lw_p1 : lw_okq (⟨"WalkTeller$Net", "join", "(III)V"⟩, 2) := ⟨⟨by decide +kernel, by decide +kernel⟩, List.mem_of_getElem? (i := 87) (by decide +kernel), List.mem_of_getElem? (i := 275) (by decide +kernel), List.mem_of_getElem? (i := 276) (by decide +kernel)⟩
theorem lw_p2 : lw_okq (⟨"WalkTeller$Net", "lessenOne", "([III)Z"⟩, 2) := ⟨⟨by decide +kernel, by decide +kernel⟩, List.mem_of_getElem? (i := 87) (by decide +kernel), List.mem_of_getElem? (i := 289) (by decide +kernel), List.mem_of_getElem? (i := 290) (by decide +kernel)⟩
theorem lw_p3 : lw_okq (⟨"WalkTeller", "timeOrNone", "(I)I"⟩, 10) := ⟨⟨by decide +kernel, by decide +kernel⟩, List.mem_of_getElem? (i := 22) (by decide +kernel), List.mem_of_getElem? (i := 297) (by decide +kernel), List.mem_of_getElem? (i := 298) (by decide +kernel)⟩
theorem lw_p4 : lw_okq (⟨"WalkTeller$Reader", "readPiece", "()LWalkTeller$Piece;"⟩, 3) := ⟨⟨by decide +kernel, by decide +kernel⟩, List.mem_of_getElem? (i := 315) (by decide +kernel), List.mem_of_getElem? (i := 338) (by decide +kernel), List.mem_of_getElem? (i := 339) (by decide +kernel)⟩
theorem lw_p5 : lw_okq (⟨"WalkTeller$Reader", "takeOneOf", "(CI)I"⟩, 3) := ⟨⟨by decide +kernel, by decide +kernel⟩, List.mem_of_getElem? (i := 315) (by decide +kernel), List.mem_of_getElem? (i := 342) (by decide +kernel), List.mem_of_getElem? (i := 343) (by decide +kernel)⟩
theorem lw_p6 : lw_okq (⟨"WalkTeller$Reader", "takeKind", "()I"⟩, 3) := ⟨⟨by decide +kernel, by decide +kernel⟩, List.mem_of_getElem? (i := 315) (by decide +kernel), List.mem_of_getElem? (i := 352) (by decide +kernel), List.mem_of_getElem? (i := 353) (by decide +kernel)⟩
theorem lw_p7 : lw_okq (⟨"WalkTeller$Reader", "takeRising", "(CI)I"⟩, 3) := ⟨⟨by decide +kernel, by decide +kernel⟩, List.mem_of_getElem? (i := 315) (by decide +kernel), List.mem_of_getElem? (i := 405) (by decide +kernel), List.mem_of_getElem? (i := 406) (by decide +kernel)⟩
theorem lw_p8 : lw_okq (⟨"WalkTeller$Reader", "takeSign", "(C)Z"⟩, 3) := ⟨⟨by decide +kernel, by decide +kernel⟩, List.mem_of_getElem? (i := 315) (by decide +kernel), List.mem_of_getElem? (i := 409) (by decide +kernel), List.mem_of_getElem? (i := 410) (by decide +kernel)⟩
theorem lw_p9 : lw_okq (⟨"WalkTeller", "findPiece", "(II)LWalkTeller$Piece;"⟩, 10) := ⟨⟨by decide +kernel, by decide +kernel⟩, List.mem_of_getElem? (i := 22) (by decide +kernel), List.mem_of_getElem? (i := 452) (by decide +kernel), List.mem_of_getElem? (i := 453) (by decide +kernel)⟩
theorem lw_p10 : lw_okq (⟨"WalkTeller", "findEdition", "(I)LWalkTeller$Edition;"⟩, 10) := ⟨⟨by decide +kernel, by decide +kernel⟩, List.mem_of_getElem? (i := 22) (by decide +kernel), List.mem_of_getElem? (i := 456) (by decide +kernel), List.mem_of_getElem? (i := 457) (by decide +kernel)⟩
theorem lw_p11 : lw_okq (⟨"WalkTeller", "searchAnew", "(IIIZ)Z"⟩, 10) := ⟨⟨by decide +kernel, by decide +kernel⟩, List.mem_of_getElem? (i := 22) (by decide +kernel), List.mem_of_getElem? (i := 478) (by decide +kernel), List.mem_of_getElem? (i := 479) (by decide +kernel)⟩
theorem lw_p12 : lw_okq (⟨"WalkTeller$Search", "clearReached", "()V"⟩, 8) := ⟨⟨by decide +kernel, by decide +kernel⟩, List.mem_of_getElem? (i := 81) (by decide +kernel), List.mem_of_getElem? (i := 486) (by decide +kernel), List.mem_of_getElem? (i := 487) (by decide +kernel)⟩
theorem lw_p13 : lw_okq (⟨"WalkTeller$Search", "reachFrom", "(I)V"⟩, 8) := ⟨⟨by decide +kernel, by decide +kernel⟩, List.mem_of_getElem? (i := 81) (by decide +kernel), List.mem_of_getElem? (i := 490) (by decide +kernel), List.mem_of_getElem? (i := 491) (by decide +kernel)⟩
theorem lw_p14 : lw_okq (⟨"WalkTeller$Search", "reachNext", "(II)V"⟩, 8) := ⟨⟨by decide +kernel, by decide +kernel⟩, List.mem_of_getElem? (i := 81) (by decide +kernel), List.mem_of_getElem? (i := 499) (by decide +kernel), List.mem_of_getElem? (i := 500) (by decide +kernel)⟩
theorem lw_p15 : lw_okq (⟨"WalkTeller$Search", "timeSet", "(I)V"⟩, 8) := ⟨⟨by decide +kernel, by decide +kernel⟩, List.mem_of_getElem? (i := 81) (by decide +kernel), List.mem_of_getElem? (i := 512) (by decide +kernel), List.mem_of_getElem? (i := 513) (by decide +kernel)⟩
def lw_privs_1 : List (MethodName × Nat) := [(⟨"WalkTeller", "finding", "(I)I"⟩, 10), (⟨"WalkTeller$Net", "join", "(III)V"⟩, 2), (⟨"WalkTeller$Net", "lessenOne", "([III)Z"⟩, 2), (⟨"WalkTeller", "timeOrNone", "(I)I"⟩, 10), (⟨"WalkTeller$Reader", "readPiece", "()LWalkTeller$Piece;"⟩, 3), (⟨"WalkTeller$Reader", "takeOneOf", "(CI)I"⟩, 3), (⟨"WalkTeller$Reader", "takeKind", "()I"⟩, 3), (⟨"WalkTeller$Reader", "takeRising", "(CI)I"⟩, 3), (⟨"WalkTeller$Reader", "takeSign", "(C)Z"⟩, 3), (⟨"WalkTeller", "findPiece", "(II)LWalkTeller$Piece;"⟩, 10), (⟨"WalkTeller", "findEdition", "(I)LWalkTeller$Edition;"⟩, 10), (⟨"WalkTeller", "searchAnew", "(IIIZ)Z"⟩, 10), (⟨"WalkTeller$Search", "clearReached", "()V"⟩, 8), (⟨"WalkTeller$Search", "reachFrom", "(I)V"⟩, 8), (⟨"WalkTeller$Search", "reachNext", "(II)V"⟩, 8), (⟨"WalkTeller$Search", "timeSet", "(I)V"⟩, 8)]
theorem lw_r1 : ∀ q ∈ lw_privs_1, lw_okq q := List.forall_mem_cons.mpr ⟨lw_p0, List.forall_mem_cons.mpr ⟨lw_p1, List.forall_mem_cons.mpr ⟨lw_p2, List.forall_mem_cons.mpr ⟨lw_p3, List.forall_mem_cons.mpr ⟨lw_p4, List.forall_mem_cons.mpr ⟨lw_p5, List.forall_mem_cons.mpr ⟨lw_p6, List.forall_mem_cons.mpr ⟨lw_p7, List.forall_mem_cons.mpr ⟨lw_p8, List.forall_mem_cons.mpr ⟨lw_p9, List.forall_mem_cons.mpr ⟨lw_p10, List.forall_mem_cons.mpr ⟨lw_p11, List.forall_mem_cons.mpr ⟨lw_p12, List.forall_mem_cons.mpr ⟨lw_p13, List.forall_mem_cons.mpr ⟨lw_p14, List.forall_mem_cons.mpr ⟨lw_p15, fun _ h => absurd h List.not_mem_nil⟩⟩⟩⟩⟩⟩⟩⟩⟩⟩⟩⟩⟩⟩⟩⟩
theorem lw_p16 : lw_okq (⟨"WalkTeller$Search", "timeToldHere", "(II)I"⟩, 8) := ⟨⟨by decide +kernel, by decide +kernel⟩, List.mem_of_getElem? (i := 81) (by decide +kernel), List.mem_of_getElem? (i := 516) (by decide +kernel), List.mem_of_getElem? (i := 517) (by decide +kernel)⟩
theorem lw_p17 : lw_okq (⟨"WalkTeller$Search", "quickestStep", "(II)I"⟩, 8) := ⟨⟨by decide +kernel, by decide +kernel⟩, List.mem_of_getElem? (i := 81) (by decide +kernel), List.mem_of_getElem? (i := 566) (by decide +kernel), List.mem_of_getElem? (i := 567) (by decide +kernel)⟩
theorem lw_p18 : lw_okq (⟨"WalkTeller$Walker", "forgetSightings", "()V"⟩, 9) := ⟨⟨by decide +kernel, by decide +kernel⟩, List.mem_of_getElem? (i := 579) (by decide +kernel), List.mem_of_getElem? (i := 624) (by decide +kernel), List.mem_of_getElem? (i := 625) (by decide +kernel)⟩
theorem lw_p19 : lw_okq (⟨"WalkTeller", "findWalker", "(I)LWalkTeller$Walker;"⟩, 10) := ⟨⟨by decide +kernel, by decide +kernel⟩, List.mem_of_getElem? (i := 22) (by decide +kernel), List.mem_of_getElem? (i := 648) (by decide +kernel), List.mem_of_getElem? (i := 649) (by decide +kernel)⟩
theorem lw_p20 : lw_okq (⟨"WalkTeller", "searchFrom", "(LWalkTeller$Walker;)V"⟩, 10) := ⟨⟨by decide +kernel, by decide +kernel⟩, List.mem_of_getElem? (i := 22) (by decide +kernel), List.mem_of_getElem? (i := 671) (by decide +kernel), List.mem_of_getElem? (i := 672) (by decide +kernel)⟩
theorem lw_p21 : lw_okq (⟨"WalkTeller", "bestNextCorner", "(LWalkTeller$Walker;)I"⟩, 10) := ⟨⟨by decide +kernel, by decide +kernel⟩, List.mem_of_getElem? (i := 22) (by decide +kernel), List.mem_of_getElem? (i := 675) (by decide +kernel), List.mem_of_getElem? (i := 676) (by decide +kernel)⟩
theorem lw_p22 : lw_okq (⟨"WalkTeller", "countWalking", "(I)I"⟩, 10) := ⟨⟨by decide +kernel, by decide +kernel⟩, List.mem_of_getElem? (i := 22) (by decide +kernel), List.mem_of_getElem? (i := 680) (by decide +kernel), List.mem_of_getElem? (i := 681) (by decide +kernel)⟩
theorem lw_p23 : lw_okq (⟨"WalkTeller$Walker", "sight", "(LWalkTeller$Town;II)V"⟩, 9) := ⟨⟨by decide +kernel, by decide +kernel⟩, List.mem_of_getElem? (i := 579) (by decide +kernel), List.mem_of_getElem? (i := 717) (by decide +kernel), List.mem_of_getElem? (i := 718) (by decide +kernel)⟩
theorem lw_p24 : lw_okq (⟨"WalkTellerModel", "finding", "(I)I"⟩, 44) := ⟨⟨by decide +kernel, by decide +kernel⟩, List.mem_of_getElem? (i := 785) (by decide +kernel), List.mem_of_getElem? (i := 934) (by decide +kernel), List.mem_of_getElem? (i := 935) (by decide +kernel)⟩
theorem lw_p25 : lw_okq (⟨"WalkTellerModel", "isCorner", "(I)Z"⟩, 44) := ⟨⟨by decide +kernel, by decide +kernel⟩, List.mem_of_getElem? (i := 785) (by decide +kernel), List.mem_of_getElem? (i := 943) (by decide +kernel), List.mem_of_getElem? (i := 944) (by decide +kernel)⟩
theorem lw_p26 : lw_okq (⟨"WalkTellerModel", "isWay", "(I)Z"⟩, 44) := ⟨⟨by decide +kernel, by decide +kernel⟩, List.mem_of_getElem? (i := 785) (by decide +kernel), List.mem_of_getElem? (i := 951) (by decide +kernel), List.mem_of_getElem? (i := 952) (by decide +kernel)⟩
theorem lw_p27 : lw_okq (⟨"WalkTellerModel", "isOpen", "(IIZ)Z"⟩, 44) := ⟨⟨by decide +kernel, by decide +kernel⟩, List.mem_of_getElem? (i := 785) (by decide +kernel), List.mem_of_getElem? (i := 963) (by decide +kernel), List.mem_of_getElem? (i := 964) (by decide +kernel)⟩
theorem lw_p28 : lw_okq (⟨"WalkTellerModel", "newEdition", "()I"⟩, 44) := ⟨⟨by decide +kernel, by decide +kernel⟩, List.mem_of_getElem? (i := 785) (by decide +kernel), List.mem_of_getElem? (i := 978) (by decide +kernel), List.mem_of_getElem? (i := 979) (by decide +kernel)⟩
theorem lw_p29 : lw_okq (⟨"WalkTellerModel", "readsPiece", "()Z"⟩, 44) := ⟨⟨by decide +kernel, by decide +kernel⟩, List.mem_of_getElem? (i := 785) (by decide +kernel), List.mem_of_getElem? (i := 982) (by decide +kernel), List.mem_of_getElem? (i := 983) (by decide +kernel)⟩
theorem lw_p30 : lw_okq (⟨"WalkTellerModel", "byteAt", "(I)I"⟩, 44) := ⟨⟨by decide +kernel, by decide +kernel⟩, List.mem_of_getElem? (i := 785) (by decide +kernel), List.mem_of_getElem? (i := 986) (by decide +kernel), List.mem_of_getElem? (i := 987) (by decide +kernel)⟩
theorem lw_p31 : lw_okq (⟨"WalkTellerModel", "readsDays", "()Z"⟩, 44) := ⟨⟨by decide +kernel, by decide +kernel⟩, List.mem_of_getElem? (i := 785) (by decide +kernel), List.mem_of_getElem? (i := 993) (by decide +kernel), List.mem_of_getElem? (i := 994) (by decide +kernel)⟩
def lw_privs_2 : List (MethodName × Nat) := [(⟨"WalkTeller$Search", "timeToldHere", "(II)I"⟩, 8), (⟨"WalkTeller$Search", "quickestStep", "(II)I"⟩, 8), (⟨"WalkTeller$Walker", "forgetSightings", "()V"⟩, 9), (⟨"WalkTeller", "findWalker", "(I)LWalkTeller$Walker;"⟩, 10), (⟨"WalkTeller", "searchFrom", "(LWalkTeller$Walker;)V"⟩, 10), (⟨"WalkTeller", "bestNextCorner", "(LWalkTeller$Walker;)I"⟩, 10), (⟨"WalkTeller", "countWalking", "(I)I"⟩, 10), (⟨"WalkTeller$Walker", "sight", "(LWalkTeller$Town;II)V"⟩, 9), (⟨"WalkTellerModel", "finding", "(I)I"⟩, 44), (⟨"WalkTellerModel", "isCorner", "(I)Z"⟩, 44), (⟨"WalkTellerModel", "isWay", "(I)Z"⟩, 44), (⟨"WalkTellerModel", "isOpen", "(IIZ)Z"⟩, 44), (⟨"WalkTellerModel", "newEdition", "()I"⟩, 44), (⟨"WalkTellerModel", "readsPiece", "()Z"⟩, 44), (⟨"WalkTellerModel", "byteAt", "(I)I"⟩, 44), (⟨"WalkTellerModel", "readsDays", "()Z"⟩, 44)]
theorem lw_r2 : ∀ q ∈ lw_privs_2, lw_okq q := List.forall_mem_cons.mpr ⟨lw_p16, List.forall_mem_cons.mpr ⟨lw_p17, List.forall_mem_cons.mpr ⟨lw_p18, List.forall_mem_cons.mpr ⟨lw_p19, List.forall_mem_cons.mpr ⟨lw_p20, List.forall_mem_cons.mpr ⟨lw_p21, List.forall_mem_cons.mpr ⟨lw_p22, List.forall_mem_cons.mpr ⟨lw_p23, List.forall_mem_cons.mpr ⟨lw_p24, List.forall_mem_cons.mpr ⟨lw_p25, List.forall_mem_cons.mpr ⟨lw_p26, List.forall_mem_cons.mpr ⟨lw_p27, List.forall_mem_cons.mpr ⟨lw_p28, List.forall_mem_cons.mpr ⟨lw_p29, List.forall_mem_cons.mpr ⟨lw_p30, List.forall_mem_cons.mpr ⟨lw_p31, fun _ h => absurd h List.not_mem_nil⟩⟩⟩⟩⟩⟩⟩⟩⟩⟩⟩⟩⟩⟩⟩⟩
theorem lw_p32 : lw_okq (⟨"WalkTellerModel", "isPiece", "(II)Z"⟩, 44) := ⟨⟨by decide +kernel, by decide +kernel⟩, List.mem_of_getElem? (i := 785) (by decide +kernel), List.mem_of_getElem? (i := 1002) (by decide +kernel), List.mem_of_getElem? (i := 1003) (by decide +kernel)⟩
theorem lw_p33 : lw_okq (⟨"WalkTellerModel", "isEdition", "(I)Z"⟩, 44) := ⟨⟨by decide +kernel, by decide +kernel⟩, List.mem_of_getElem? (i := 785) (by decide +kernel), List.mem_of_getElem? (i := 1006) (by decide +kernel), List.mem_of_getElem? (i := 1007) (by decide +kernel)⟩
theorem lw_p34 : lw_okq (⟨"WalkTellerModel", "findMoments", "(IIIIZ)V"⟩, 44) := ⟨⟨by decide +kernel, by decide +kernel⟩, List.mem_of_getElem? (i := 785) (by decide +kernel), List.mem_of_getElem? (i := 1019) (by decide +kernel), List.mem_of_getElem? (i := 1020) (by decide +kernel)⟩
theorem lw_p35 : lw_okq (⟨"WalkTellerModel", "meets", "(I)V"⟩, 44) := ⟨⟨by decide +kernel, by decide +kernel⟩, List.mem_of_getElem? (i := 785) (by decide +kernel), List.mem_of_getElem? (i := 1026) (by decide +kernel), List.mem_of_getElem? (i := 1027) (by decide +kernel)⟩
theorem lw_p36 : lw_okq (⟨"WalkTellerModel", "isOver", "(II)Z"⟩, 44) := ⟨⟨by decide +kernel, by decide +kernel⟩, List.mem_of_getElem? (i := 785) (by decide +kernel), List.mem_of_getElem? (i := 1030) (by decide +kernel), List.mem_of_getElem? (i := 1031) (by decide +kernel)⟩
theorem lw_p37 : lw_okq (⟨"WalkTellerModel", "nextPiece", "(IIII)I"⟩, 44) := ⟨⟨by decide +kernel, by decide +kernel⟩, List.mem_of_getElem? (i := 785) (by decide +kernel), List.mem_of_getElem? (i := 1034) (by decide +kernel), List.mem_of_getElem? (i := 1035) (by decide +kernel)⟩
theorem lw_p38 : lw_okq (⟨"WalkTellerModel", "canTell", "(IIIII)Z"⟩, 44) := ⟨⟨by decide +kernel, by decide +kernel⟩, List.mem_of_getElem? (i := 785) (by decide +kernel), List.mem_of_getElem? (i := 1038) (by decide +kernel), List.mem_of_getElem? (i := 1039) (by decide +kernel)⟩
theorem lw_p39 : lw_okq (⟨"WalkTellerModel", "allHeard", "()I"⟩, 44) := ⟨⟨by decide +kernel, by decide +kernel⟩, List.mem_of_getElem? (i := 785) (by decide +kernel), List.mem_of_getElem? (i := 1042) (by decide +kernel), List.mem_of_getElem? (i := 1043) (by decide +kernel)⟩
theorem lw_p40 : lw_okq (⟨"WalkTellerModel", "findTimes", "(IIZ)V"⟩, 44) := ⟨⟨by decide +kernel, by decide +kernel⟩, List.mem_of_getElem? (i := 785) (by decide +kernel), List.mem_of_getElem? (i := 1046) (by decide +kernel), List.mem_of_getElem? (i := 1047) (by decide +kernel)⟩
theorem lw_p41 : lw_okq (⟨"WalkTellerModel", "comesNearer", "([ZIIII)V"⟩, 44) := ⟨⟨by decide +kernel, by decide +kernel⟩, List.mem_of_getElem? (i := 785) (by decide +kernel), List.mem_of_getElem? (i := 1050) (by decide +kernel), List.mem_of_getElem? (i := 1051) (by decide +kernel)⟩
theorem lw_p42 : lw_okq (⟨"WalkTellerModel", "manyCan", "(IIII)I"⟩, 44) := ⟨⟨by decide +kernel, by decide +kernel⟩, List.mem_of_getElem? (i := 785) (by decide +kernel), List.mem_of_getElem? (i := 1054) (by decide +kernel), List.mem_of_getElem? (i := 1055) (by decide +kernel)⟩
theorem lw_p43 : lw_okq (⟨"WalkTellerModel", "canAsk", "(III)Z"⟩, 44) := ⟨⟨by decide +kernel, by decide +kernel⟩, List.mem_of_getElem? (i := 785) (by decide +kernel), List.mem_of_getElem? (i := 1062) (by decide +kernel), List.mem_of_getElem? (i := 1063) (by decide +kernel)⟩
theorem lw_p44 : lw_okq (⟨"WalkTellerModel", "goesTo", "(IIIZ)I"⟩, 44) := ⟨⟨by decide +kernel, by decide +kernel⟩, List.mem_of_getElem? (i := 785) (by decide +kernel), List.mem_of_getElem? (i := 1070) (by decide +kernel), List.mem_of_getElem? (i := 1071) (by decide +kernel)⟩
theorem lw_p45 : lw_okq (⟨"WalkTellerModel", "listens", "(I)I"⟩, 44) := ⟨⟨by decide +kernel, by decide +kernel⟩, List.mem_of_getElem? (i := 785) (by decide +kernel), List.mem_of_getElem? (i := 1079) (by decide +kernel), List.mem_of_getElem? (i := 1080) (by decide +kernel)⟩
theorem lw_p46 : lw_okq (⟨"WalkTellerModel", "isWalker", "(I)Z"⟩, 44) := ⟨⟨by decide +kernel, by decide +kernel⟩, List.mem_of_getElem? (i := 785) (by decide +kernel), List.mem_of_getElem? (i := 1091) (by decide +kernel), List.mem_of_getElem? (i := 1092) (by decide +kernel)⟩
theorem lw_p47 : lw_okq (⟨"WalkTellerModel", "isDone", "(I)Z"⟩, 44) := ⟨⟨by decide +kernel, by decide +kernel⟩, List.mem_of_getElem? (i := 785) (by decide +kernel), List.mem_of_getElem? (i := 1095) (by decide +kernel), List.mem_of_getElem? (i := 1096) (by decide +kernel)⟩
def lw_privs_3 : List (MethodName × Nat) := [(⟨"WalkTellerModel", "isPiece", "(II)Z"⟩, 44), (⟨"WalkTellerModel", "isEdition", "(I)Z"⟩, 44), (⟨"WalkTellerModel", "findMoments", "(IIIIZ)V"⟩, 44), (⟨"WalkTellerModel", "meets", "(I)V"⟩, 44), (⟨"WalkTellerModel", "isOver", "(II)Z"⟩, 44), (⟨"WalkTellerModel", "nextPiece", "(IIII)I"⟩, 44), (⟨"WalkTellerModel", "canTell", "(IIIII)Z"⟩, 44), (⟨"WalkTellerModel", "allHeard", "()I"⟩, 44), (⟨"WalkTellerModel", "findTimes", "(IIZ)V"⟩, 44), (⟨"WalkTellerModel", "comesNearer", "([ZIIII)V"⟩, 44), (⟨"WalkTellerModel", "manyCan", "(IIII)I"⟩, 44), (⟨"WalkTellerModel", "canAsk", "(III)Z"⟩, 44), (⟨"WalkTellerModel", "goesTo", "(IIIZ)I"⟩, 44), (⟨"WalkTellerModel", "listens", "(I)I"⟩, 44), (⟨"WalkTellerModel", "isWalker", "(I)Z"⟩, 44), (⟨"WalkTellerModel", "isDone", "(I)Z"⟩, 44)]
theorem lw_r3 : ∀ q ∈ lw_privs_3, lw_okq q := List.forall_mem_cons.mpr ⟨lw_p32, List.forall_mem_cons.mpr ⟨lw_p33, List.forall_mem_cons.mpr ⟨lw_p34, List.forall_mem_cons.mpr ⟨lw_p35, List.forall_mem_cons.mpr ⟨lw_p36, List.forall_mem_cons.mpr ⟨lw_p37, List.forall_mem_cons.mpr ⟨lw_p38, List.forall_mem_cons.mpr ⟨lw_p39, List.forall_mem_cons.mpr ⟨lw_p40, List.forall_mem_cons.mpr ⟨lw_p41, List.forall_mem_cons.mpr ⟨lw_p42, List.forall_mem_cons.mpr ⟨lw_p43, List.forall_mem_cons.mpr ⟨lw_p44, List.forall_mem_cons.mpr ⟨lw_p45, List.forall_mem_cons.mpr ⟨lw_p46, List.forall_mem_cons.mpr ⟨lw_p47, fun _ h => absurd h List.not_mem_nil⟩⟩⟩⟩⟩⟩⟩⟩⟩⟩⟩⟩⟩⟩⟩⟩
theorem lw_p48 : lw_okq (⟨"WalkTellerModel", "comes", "(II)I"⟩, 44) := ⟨⟨by decide +kernel, by decide +kernel⟩, List.mem_of_getElem? (i := 785) (by decide +kernel), List.mem_of_getElem? (i := 1099) (by decide +kernel), List.mem_of_getElem? (i := 1100) (by decide +kernel)⟩
theorem lw_p49 : lw_okq (⟨"WalkTellerModel", "wayTo", "(II)I"⟩, 44) := ⟨⟨by decide +kernel, by decide +kernel⟩, List.mem_of_getElem? (i := 785) (by decide +kernel), List.mem_of_getElem? (i := 1111) (by decide +kernel), List.mem_of_getElem? (i := 1112) (by decide +kernel)⟩
theorem lw_p50 : lw_okq (⟨"WalkTellerModel", "othersAt", "(II)I"⟩, 44) := ⟨⟨by decide +kernel, by decide +kernel⟩, List.mem_of_getElem? (i := 785) (by decide +kernel), List.mem_of_getElem? (i := 1115) (by decide +kernel), List.mem_of_getElem? (i := 1116) (by decide +kernel)⟩
theorem lw_p51 : lw_okq (⟨"WalkTellerModel", "reads", "(IIII)V"⟩, 44) := ⟨⟨by decide +kernel, by decide +kernel⟩, List.mem_of_getElem? (i := 785) (by decide +kernel), List.mem_of_getElem? (i := 1131) (by decide +kernel), List.mem_of_getElem? (i := 1132) (by decide +kernel)⟩
theorem lw_p52 : lw_okq (⟨"WalkTellerModel", "isPossible", "(IIII)Z"⟩, 44) := ⟨⟨by decide +kernel, by decide +kernel⟩, List.mem_of_getElem? (i := 785) (by decide +kernel), List.mem_of_getElem? (i := 1135) (by decide +kernel), List.mem_of_getElem? (i := 1136) (by decide +kernel)⟩
def lw_privs_4 : List (MethodName × Nat) := [(⟨"WalkTellerModel", "comes", "(II)I"⟩, 44), (⟨"WalkTellerModel", "wayTo", "(II)I"⟩, 44), (⟨"WalkTellerModel", "othersAt", "(II)I"⟩, 44), (⟨"WalkTellerModel", "reads", "(IIII)V"⟩, 44), (⟨"WalkTellerModel", "isPossible", "(IIII)Z"⟩, 44)]
theorem lw_r4 : ∀ q ∈ lw_privs_4, lw_okq q := List.forall_mem_cons.mpr ⟨lw_p48, List.forall_mem_cons.mpr ⟨lw_p49, List.forall_mem_cons.mpr ⟨lw_p50, List.forall_mem_cons.mpr ⟨lw_p51, List.forall_mem_cons.mpr ⟨lw_p52, fun _ h => absurd h List.not_mem_nil⟩⟩⟩⟩⟩
def lw_privs : List (MethodName × Nat) := lw_privs_1 ++ (lw_privs_2 ++ (lw_privs_3 ++ (lw_privs_4)))
def lw_tbl : List Cond := k2_sels lw_privs ++ tables_1
theorem lw_privs_ok : ∀ q ∈ lw_privs, lw_okq q := by
  show ∀ q ∈ lw_privs_1 ++ (lw_privs_2 ++ (lw_privs_3 ++ (lw_privs_4))), lw_okq q
  exact List.forall_mem_append.mpr ⟨lw_r1, List.forall_mem_append.mpr ⟨lw_r2, List.forall_mem_append.mpr ⟨lw_r3, lw_r4⟩⟩⟩
def RX0 : String := "WalkTeller$Edition"
def TX0 : u_T := fun k => match k with
  | 0 => ("WalkTeller$Edition", "pieces", "[LWalkTeller$Piece;", true)
  | 1 => ("WalkTeller$Edition", "pieceCount", "I", false)
  | _ => ("WalkTeller$Edition", "ends", "I", false)
def tyX0 : Nat → FieldType := fun k => match k with
  | 0 => .array (.object "WalkTeller$Piece")
  | 1 => .int
  | _ => .int
abbrev wsX00 : List Cond := u_ws RX0 TX0 3
theorem nmX0 : ∀ a, a < 3 → ∀ b, b < 3 → a ≠ b → (TX0 a).2.1 ≠ (TX0 b).2.1 := by decide +kernel
theorem tyX0_ok : ∀ k, k < 3 → parseFieldDescriptor (TX0 k).2.2.1 = some (tyX0 k) := by decide +kernel
abbrev cX0_init : ByteArray := prog_2_method_1_code
def yX0_init : MethodName := ⟨RX0, "<init>", "()V"⟩
abbrev cX0_addPiece : ByteArray := prog_2_method_2_code
def yX0_addPiece : MethodName := ⟨RX0, "addPiece", "(LWalkTeller$Piece;)V"⟩
abbrev cX0_findPiece : ByteArray := prog_2_method_3_code
def yX0_findPiece : MethodName := ⟨RX0, "findPiece", "(I)LWalkTeller$Piece;"⟩
abbrev cX0_allPieces : ByteArray := prog_2_method_4_code
def yX0_allPieces : MethodName := ⟨RX0, "allPieces", "()I"⟩
abbrev cX0_isOver : ByteArray := prog_2_method_5_code
def yX0_isOver : MethodName := ⟨RX0, "isOver", "(I)Z"⟩
abbrev cX0_nextPiece : ByteArray := prog_2_method_6_code
def yX0_nextPiece : MethodName := ⟨RX0, "nextPiece", "(IIII)I"⟩
abbrev cX0_hasTwoVoices : ByteArray := prog_2_method_7_code
def yX0_hasTwoVoices : MethodName := ⟨RX0, "hasTwoVoices", "(III)Z"⟩
def RX1 : String := "WalkTeller$Net"
def TX1 : u_T := fun k => match k with
  | 0 => ("WalkTeller$Net", "steps", "[I", true)
  | _ => ("WalkTeller$Net", "neighbours", "[I", true)
def tyX1 : Nat → FieldType := fun k => match k with
  | 0 => .array .int
  | _ => .array .int
abbrev wsX10 : List Cond := u_ws RX1 TX1 2
theorem nmX1 : ∀ a, a < 2 → ∀ b, b < 2 → a ≠ b → (TX1 a).2.1 ≠ (TX1 b).2.1 := by decide +kernel
theorem tyX1_ok : ∀ k, k < 2 → parseFieldDescriptor (TX1 k).2.2.1 = some (tyX1 k) := by decide +kernel
abbrev cX1_init : ByteArray := prog_3_method_1_code
def yX1_init : MethodName := ⟨RX1, "<init>", "()V"⟩
abbrev cX1_lay : ByteArray := prog_3_method_2_code
def yX1_lay : MethodName := ⟨RX1, "lay", "(LWalkTeller$Town;IZ)V"⟩
abbrev cX1_join : ByteArray := prog_3_method_3_code
def yX1_join : MethodName := ⟨RX1, "join", "(III)V"⟩
abbrev cX1_step : ByteArray := prog_3_method_4_code
def yX1_step : MethodName := ⟨RX1, "step", "(II)I"⟩
abbrev cX1_lessen : ByteArray := prog_3_method_5_code
def yX1_lessen : MethodName := ⟨RX1, "lessen", "([III)V"⟩
abbrev cX1_lessenOne : ByteArray := prog_3_method_6_code
def yX1_lessenOne : MethodName := ⟨RX1, "lessenOne", "([III)Z"⟩
def RX2 : String := "WalkTeller$Piece"
def TX2 : u_T := fun k => match k with
  | 0 => ("WalkTeller$Piece", "kind", "I", true)
  | 1 => ("WalkTeller$Piece", "corner", "I", true)
  | 2 => ("WalkTeller$Piece", "length", "I", true)
  | 3 => ("WalkTeller$Piece", "needs", "I", true)
  | _ => ("WalkTeller$Piece", "days", "I", true)
def tyX2 : Nat → FieldType := fun k => match k with
  | 0 => .int
  | 1 => .int
  | 2 => .int
  | 3 => .int
  | _ => .int
abbrev wsX20 : List Cond := u_ws RX2 TX2 5
theorem nmX2 : ∀ a, a < 5 → ∀ b, b < 5 → a ≠ b → (TX2 a).2.1 ≠ (TX2 b).2.1 := by decide +kernel
theorem tyX2_ok : ∀ k, k < 5 → parseFieldDescriptor (TX2 k).2.2.1 = some (tyX2 k) := by decide +kernel
abbrev cX2_init : ByteArray := prog_4_method_1_code
def yX2_init : MethodName := ⟨RX2, "<init>", "(IIIII)V"⟩
abbrev cX2_isOfKind : ByteArray := prog_4_method_2_code
def yX2_isOfKind : MethodName := ⟨RX2, "isOfKind", "(I)Z"⟩
abbrev cX2_fits : ByteArray := prog_4_method_3_code
def yX2_fits : MethodName := ⟨RX2, "fits", "(III)Z"⟩
def RX3 : String := "WalkTeller$Reader"
def TX3 : u_T := fun k => match k with
  | 0 => ("WalkTeller$Reader", "tape", "LWalkTeller$Tape;", true)
  | 1 => ("WalkTeller$Reader", "cornerCount", "I", true)
  | _ => ("WalkTeller$Reader", "place", "I", false)
def tyX3 : Nat → FieldType := fun k => match k with
  | 0 => .object "WalkTeller$Tape"
  | 1 => .int
  | _ => .int
abbrev wsX30 : List Cond := u_ws RX3 TX3 3
theorem nmX3 : ∀ a, a < 3 → ∀ b, b < 3 → a ≠ b → (TX3 a).2.1 ≠ (TX3 b).2.1 := by decide +kernel
theorem tyX3_ok : ∀ k, k < 3 → parseFieldDescriptor (TX3 k).2.2.1 = some (tyX3 k) := by decide +kernel
abbrev cX3_init : ByteArray := prog_5_method_1_code
def yX3_init : MethodName := ⟨RX3, "<init>", "(LWalkTeller$Tape;I)V"⟩
abbrev cX3_readEdition : ByteArray := prog_5_method_2_code
def yX3_readEdition : MethodName := ⟨RX3, "readEdition", "()LWalkTeller$Edition;"⟩
abbrev cX3_readPiece : ByteArray := prog_5_method_3_code
def yX3_readPiece : MethodName := ⟨RX3, "readPiece", "()LWalkTeller$Piece;"⟩
abbrev cX3_takeSign : ByteArray := prog_5_method_4_code
def yX3_takeSign : MethodName := ⟨RX3, "takeSign", "(C)Z"⟩
abbrev cX3_takeKind : ByteArray := prog_5_method_5_code
def yX3_takeKind : MethodName := ⟨RX3, "takeKind", "()I"⟩
abbrev cX3_takeOneOf : ByteArray := prog_5_method_6_code
def yX3_takeOneOf : MethodName := ⟨RX3, "takeOneOf", "(CI)I"⟩
abbrev cX3_takeRising : ByteArray := prog_5_method_7_code
def yX3_takeRising : MethodName := ⟨RX3, "takeRising", "(CI)I"⟩
def RX4 : String := "WalkTeller$Search"
def TX4 : u_T := fun k => match k with
  | 0 => ("WalkTeller$Search", "net", "LWalkTeller$Net;", true)
  | 1 => ("WalkTeller$Search", "distances", "[I", true)
  | 2 => ("WalkTeller$Search", "reached", "[I", false)
  | 3 => ("WalkTeller$Search", "times", "[I", false)
  | 4 => ("WalkTeller$Search", "edition", "LWalkTeller$Edition;", false)
  | 5 => ("WalkTeller$Search", "day", "I", false)
  | 6 => ("WalkTeller$Search", "firstSet", "I", false)
  | _ => ("WalkTeller$Search", "setCount", "I", false)
def tyX4 : Nat → FieldType := fun k => match k with
  | 0 => .object "WalkTeller$Net"
  | 1 => .array .int
  | 2 => .array .int
  | 3 => .array .int
  | 4 => .object "WalkTeller$Edition"
  | 5 => .int
  | 6 => .int
  | _ => .int
abbrev wsX40 : List Cond := u_ws RX4 TX4 8
theorem nmX4 : ∀ a, a < 8 → ∀ b, b < 8 → a ≠ b → (TX4 a).2.1 ≠ (TX4 b).2.1 := by decide +kernel
theorem tyX4_ok : ∀ k, k < 8 → parseFieldDescriptor (TX4 k).2.2.1 = some (tyX4 k) := by decide +kernel
abbrev cX4_init : ByteArray := prog_6_method_1_code
def yX4_init : MethodName := ⟨RX4, "<init>", "()V"⟩
abbrev cX4_distance : ByteArray := prog_6_method_2_code
def yX4_distance : MethodName := ⟨RX4, "distance", "(LWalkTeller$Town;IIIZ)I"⟩
abbrev cX4_explore : ByteArray := prog_6_method_3_code
def yX4_explore : MethodName := ⟨RX4, "explore", "(LWalkTeller$Town;LWalkTeller$Edition;IIIZ)V"⟩
abbrev cX4_clearReached : ByteArray := prog_6_method_4_code
def yX4_clearReached : MethodName := ⟨RX4, "clearReached", "()V"⟩
abbrev cX4_reachFrom : ByteArray := prog_6_method_5_code
def yX4_reachFrom : MethodName := ⟨RX4, "reachFrom", "(I)V"⟩
abbrev cX4_reachNext : ByteArray := prog_6_method_6_code
def yX4_reachNext : MethodName := ⟨RX4, "reachNext", "(II)V"⟩
abbrev cX4_timeSet : ByteArray := prog_6_method_7_code
def yX4_timeSet : MethodName := ⟨RX4, "timeSet", "(I)V"⟩
abbrev cX4_timeToldHere : ByteArray := prog_6_method_8_code
def yX4_timeToldHere : MethodName := ⟨RX4, "timeToldHere", "(II)I"⟩
abbrev cX4_timeFrom : ByteArray := prog_6_method_9_code
def yX4_timeFrom : MethodName := ⟨RX4, "timeFrom", "(II)I"⟩
abbrev cX4_timeBy : ByteArray := prog_6_method_10_code
def yX4_timeBy : MethodName := ⟨RX4, "timeBy", "(III)I"⟩
abbrev cX4_countMoments : ByteArray := prog_6_method_11_code
def yX4_countMoments : MethodName := ⟨RX4, "countMoments", "()I"⟩
abbrev cX4_countDeadEnds : ByteArray := prog_6_method_12_code
def yX4_countDeadEnds : MethodName := ⟨RX4, "countDeadEnds", "()I"⟩
abbrev cX4_countTwoVoices : ByteArray := prog_6_method_13_code
def yX4_countTwoVoices : MethodName := ⟨RX4, "countTwoVoices", "()I"⟩
abbrev cX4_heardInSome : ByteArray := prog_6_method_14_code
def yX4_heardInSome : MethodName := ⟨RX4, "heardInSome", "()I"⟩
abbrev cX4_cornerOnQuickest : ByteArray := prog_6_method_15_code
def yX4_cornerOnQuickest : MethodName := ⟨RX4, "cornerOnQuickest", "(II)I"⟩
abbrev cX4_quickestStep : ByteArray := prog_6_method_16_code
def yX4_quickestStep : MethodName := ⟨RX4, "quickestStep", "(II)I"⟩
def RX5 : String := "WalkTeller$Sheet"
def TX5 : u_T := fun k => match k with
  | 0 => ("WalkTeller$Sheet", "bits", "I", true)
  | _ => ("WalkTeller$Sheet", "numbers", "[I", true)
def tyX5 : Nat → FieldType := fun k => match k with
  | 0 => .int
  | _ => .array .int
abbrev wsX50 : List Cond := u_ws RX5 TX5 2
theorem nmX5 : ∀ a, a < 2 → ∀ b, b < 2 → a ≠ b → (TX5 a).2.1 ≠ (TX5 b).2.1 := by decide +kernel
theorem tyX5_ok : ∀ k, k < 2 → parseFieldDescriptor (TX5 k).2.2.1 = some (tyX5 k) := by decide +kernel
abbrev cX5_init : ByteArray := prog_7_method_1_code
def yX5_init : MethodName := ⟨RX5, "<init>", "(II)V"⟩
abbrev cX5_lowestBits : ByteArray := prog_7_method_2_code
def yX5_lowestBits : MethodName := ⟨RX5, "lowestBits", "(I)I"⟩
abbrev cX5_hasRange : ByteArray := prog_7_method_3_code
def yX5_hasRange : MethodName := ⟨RX5, "hasRange", "(II)Z"⟩
def RX6 : String := "WalkTeller$Tape"
def TX6 : u_T := fun k => match k with
  | 0 => ("WalkTeller$Tape", "bytes", "[B", true)
  | _ => ("WalkTeller$Tape", "length", "I", false)
def tyX6 : Nat → FieldType := fun k => match k with
  | 0 => .array .byte
  | _ => .int
abbrev wsX60 : List Cond := u_ws RX6 TX6 2
theorem nmX6 : ∀ a, a < 2 → ∀ b, b < 2 → a ≠ b → (TX6 a).2.1 ≠ (TX6 b).2.1 := by decide +kernel
theorem tyX6_ok : ∀ k, k < 2 → parseFieldDescriptor (TX6 k).2.2.1 = some (tyX6 k) := by decide +kernel
abbrev cX6_init : ByteArray := prog_8_method_1_code
def yX6_init : MethodName := ⟨RX6, "<init>", "()V"⟩
abbrev cX6_append : ByteArray := prog_8_method_2_code
def yX6_append : MethodName := ⟨RX6, "append", "(JI)V"⟩
abbrev cX6_byteAt : ByteArray := prog_8_method_3_code
def yX6_byteAt : MethodName := ⟨RX6, "byteAt", "(I)I"⟩
def RX7 : String := "WalkTeller$Town"
def TX7 : u_T := fun k => match k with
  | 0 => ("WalkTeller$Town", "xs", "[I", true)
  | 1 => ("WalkTeller$Town", "ys", "[I", true)
  | 2 => ("WalkTeller$Town", "ways", "[LWalkTeller$Way;", true)
  | 3 => ("WalkTeller$Town", "cornerCount", "I", false)
  | _ => ("WalkTeller$Town", "wayCount", "I", false)
def tyX7 : Nat → FieldType := fun k => match k with
  | 0 => .array .int
  | 1 => .array .int
  | 2 => .array (.object "WalkTeller$Way")
  | 3 => .int
  | _ => .int
abbrev wsX70 : List Cond := u_ws RX7 TX7 5
theorem nmX7 : ∀ a, a < 5 → ∀ b, b < 5 → a ≠ b → (TX7 a).2.1 ≠ (TX7 b).2.1 := by decide +kernel
theorem tyX7_ok : ∀ k, k < 5 → parseFieldDescriptor (TX7 k).2.2.1 = some (tyX7 k) := by decide +kernel
abbrev cX7_init : ByteArray := prog_9_method_1_code
def yX7_init : MethodName := ⟨RX7, "<init>", "()V"⟩
abbrev cX7_addCorner : ByteArray := prog_9_method_2_code
def yX7_addCorner : MethodName := ⟨RX7, "addCorner", "(II)I"⟩
abbrev cX7_addWay : ByteArray := prog_9_method_3_code
def yX7_addWay : MethodName := ⟨RX7, "addWay", "(LWalkTeller$Way;)I"⟩
abbrev cX7_hasCorner : ByteArray := prog_9_method_4_code
def yX7_hasCorner : MethodName := ⟨RX7, "hasCorner", "(I)Z"⟩
abbrev cX7_findWay : ByteArray := prog_9_method_5_code
def yX7_findWay : MethodName := ⟨RX7, "findWay", "(I)LWalkTeller$Way;"⟩
abbrev cX7_isJoined : ByteArray := prog_9_method_6_code
def yX7_isJoined : MethodName := ⟨RX7, "isJoined", "(IIIZ)Z"⟩
abbrev cX7_possibleCorners : ByteArray := prog_9_method_7_code
def yX7_possibleCorners : MethodName := ⟨RX7, "possibleCorners", "(III)I"⟩
def RX8 : String := "WalkTeller$Walker"
def TX8 : u_T := fun k => match k with
  | 0 => ("WalkTeller$Walker", "edition", "LWalkTeller$Edition;", true)
  | 1 => ("WalkTeller$Walker", "editionNumber", "I", true)
  | 2 => ("WalkTeller$Walker", "stairs", "Z", true)
  | 3 => ("WalkTeller$Walker", "corner", "I", false)
  | 4 => ("WalkTeller$Walker", "heard", "I", false)
  | 5 => ("WalkTeller$Walker", "time", "I", false)
  | 6 => ("WalkTeller$Walker", "lastTold", "I", false)
  | 7 => ("WalkTeller$Walker", "sighted", "I", false)
  | _ => ("WalkTeller$Walker", "sightings", "I", false)
def tyX8 : Nat → FieldType := fun k => match k with
  | 0 => .object "WalkTeller$Edition"
  | 1 => .int
  | 2 => .boolean
  | 3 => .int
  | 4 => .int
  | 5 => .int
  | 6 => .int
  | 7 => .int
  | _ => .int
abbrev wsX80 : List Cond := u_ws RX8 TX8 9
theorem nmX8 : ∀ a, a < 9 → ∀ b, b < 9 → a ≠ b → (TX8 a).2.1 ≠ (TX8 b).2.1 := by decide +kernel
theorem tyX8_ok : ∀ k, k < 9 → parseFieldDescriptor (TX8 k).2.2.1 = some (tyX8 k) := by decide +kernel
abbrev cX8_init : ByteArray := prog_10_method_1_code
def yX8_init : MethodName := ⟨RX8, "<init>", "(LWalkTeller$Edition;IZ)V"⟩
abbrev cX8_isOver : ByteArray := prog_10_method_2_code
def yX8_isOver : MethodName := ⟨RX8, "isOver", "()Z"⟩
abbrev cX8_listen : ByteArray := prog_10_method_3_code
def yX8_listen : MethodName := ⟨RX8, "listen", "(I)I"⟩
abbrev cX8_arrive : ByteArray := prog_10_method_4_code
def yX8_arrive : MethodName := ⟨RX8, "arrive", "(II)I"⟩
abbrev cX8_takeReading : ByteArray := prog_10_method_5_code
def yX8_takeReading : MethodName := ⟨RX8, "takeReading", "(LWalkTeller$Town;IIII)V"⟩
abbrev cX8_sight : ByteArray := prog_10_method_6_code
def yX8_sight : MethodName := ⟨RX8, "sight", "(LWalkTeller$Town;II)V"⟩
abbrev cX8_forgetSightings : ByteArray := prog_10_method_7_code
def yX8_forgetSightings : MethodName := ⟨RX8, "forgetSightings", "()V"⟩
def RX9 : String := "WalkTeller$Way"
def TX9 : u_T := fun k => match k with
  | 0 => ("WalkTeller$Way", "a", "I", true)
  | 1 => ("WalkTeller$Way", "b", "I", true)
  | 2 => ("WalkTeller$Way", "length", "I", true)
  | 3 => ("WalkTeller$Way", "stairs", "Z", true)
  | _ => ("WalkTeller$Way", "shutDays", "I", false)
def tyX9 : Nat → FieldType := fun k => match k with
  | 0 => .int
  | 1 => .int
  | 2 => .int
  | 3 => .boolean
  | _ => .int
abbrev wsX90 : List Cond := u_ws RX9 TX9 5
theorem nmX9 : ∀ a, a < 5 → ∀ b, b < 5 → a ≠ b → (TX9 a).2.1 ≠ (TX9 b).2.1 := by decide +kernel
theorem tyX9_ok : ∀ k, k < 5 → parseFieldDescriptor (TX9 k).2.2.1 = some (tyX9 k) := by decide +kernel
abbrev cX9_init : ByteArray := prog_11_method_1_code
def yX9_init : MethodName := ⟨RX9, "<init>", "(IIIZ)V"⟩
abbrev cX9_leadsFrom : ByteArray := prog_11_method_2_code
def yX9_leadsFrom : MethodName := ⟨RX9, "leadsFrom", "(I)Z"⟩
abbrev cX9_otherEnd : ByteArray := prog_11_method_3_code
def yX9_otherEnd : MethodName := ⟨RX9, "otherEnd", "(I)I"⟩
abbrev cX9_isShut : ByteArray := prog_11_method_4_code
def yX9_isShut : MethodName := ⟨RX9, "isShut", "(I)Z"⟩
abbrev cX9_isFor : ByteArray := prog_11_method_5_code
def yX9_isFor : MethodName := ⟨RX9, "isFor", "(Z)Z"⟩
abbrev cX9_isOpen : ByteArray := prog_11_method_6_code
def yX9_isOpen : MethodName := ⟨RX9, "isOpen", "(IZ)Z"⟩
def RX10 : String := "WalkTeller"
def TX10 : u_T := fun k => match k with
  | 0 => ("WalkTeller", "town", "LWalkTeller$Town;", true)
  | 1 => ("WalkTeller", "tape", "LWalkTeller$Tape;", true)
  | 2 => ("WalkTeller", "editions", "[LWalkTeller$Edition;", true)
  | 3 => ("WalkTeller", "walkers", "[LWalkTeller$Walker;", true)
  | 4 => ("WalkTeller", "sheets", "[LWalkTeller$Sheet;", true)
  | 5 => ("WalkTeller", "search", "LWalkTeller$Search;", true)
  | 6 => ("WalkTeller", "editionCount", "I", false)
  | 7 => ("WalkTeller", "walkerCount", "I", false)
  | 8 => ("WalkTeller", "dayNow", "I", false)
  | _ => ("WalkTeller", "findings", "I", false)
def tyX10 : Nat → FieldType := fun k => match k with
  | 0 => .object "WalkTeller$Town"
  | 1 => .object "WalkTeller$Tape"
  | 2 => .array (.object "WalkTeller$Edition")
  | 3 => .array (.object "WalkTeller$Walker")
  | 4 => .array (.object "WalkTeller$Sheet")
  | 5 => .object "WalkTeller$Search"
  | 6 => .int
  | 7 => .int
  | 8 => .int
  | _ => .int
abbrev wsX100 : List Cond := u_ws RX10 TX10 10
theorem nmX10 : ∀ a, a < 10 → ∀ b, b < 10 → a ≠ b → (TX10 a).2.1 ≠ (TX10 b).2.1 := by decide +kernel
theorem tyX10_ok : ∀ k, k < 10 → parseFieldDescriptor (TX10 k).2.2.1 = some (tyX10 k) := by decide +kernel
abbrev cX10_init : ByteArray := prog_1_method_1_code
def yX10_init : MethodName := ⟨RX10, "<init>", "()V"⟩
abbrev cX10_corner : ByteArray := prog_1_method_2_code
def yX10_corner : MethodName := ⟨RX10, "corner", "(II)I"⟩
abbrev cX10_way : ByteArray := prog_1_method_3_code
def yX10_way : MethodName := ⟨RX10, "way", "(IIIZ)I"⟩
abbrev cX10_shut : ByteArray := prog_1_method_4_code
def yX10_shut : MethodName := ⟨RX10, "shut", "(II)I"⟩
abbrev cX10_far : ByteArray := prog_1_method_5_code
def yX10_far : MethodName := ⟨RX10, "far", "(IIIZ)I"⟩
abbrev cX10_feed : ByteArray := prog_1_method_6_code
def yX10_feed : MethodName := ⟨RX10, "feed", "(JI)I"⟩
abbrev cX10_story : ByteArray := prog_1_method_7_code
def yX10_story : MethodName := ⟨RX10, "story", "()I"⟩
abbrev cX10_as : ByteArray := prog_1_method_8_code
def yX10_as : MethodName := ⟨RX10, "as", "(III)I"⟩
abbrev cX10_of : ByteArray := prog_1_method_9_code
def yX10_of : MethodName := ⟨RX10, "of", "(III)I"⟩
abbrev cX10_check : ByteArray := prog_1_method_10_code
def yX10_check : MethodName := ⟨RX10, "check", "(IIIZI)I"⟩
abbrev cX10_quickest : ByteArray := prog_1_method_11_code
def yX10_quickest : MethodName := ⟨RX10, "quickest", "(IIIZ)I"⟩
abbrev cX10_route : ByteArray := prog_1_method_12_code
def yX10_route : MethodName := ⟨RX10, "route", "(IIIZI)I"⟩
abbrev cX10_walker : ByteArray := prog_1_method_13_code
def yX10_walker : MethodName := ⟨RX10, "walker", "(IZ)I"⟩
abbrev cX10_today : ByteArray := prog_1_method_14_code
def yX10_today : MethodName := ⟨RX10, "today", "(I)I"⟩
abbrev cX10_go : ByteArray := prog_1_method_15_code
def yX10_go : MethodName := ⟨RX10, "go", "(II)I"⟩
abbrev cX10_about : ByteArray := prog_1_method_16_code
def yX10_about : MethodName := ⟨RX10, "about", "(II)I"⟩
abbrev cX10_offer : ByteArray := prog_1_method_17_code
def yX10_offer : MethodName := ⟨RX10, "offer", "(I)I"⟩
abbrev cX10_rest : ByteArray := prog_1_method_18_code
def yX10_rest : MethodName := ⟨RX10, "rest", "(I)I"⟩
abbrev cX10_lost : ByteArray := prog_1_method_19_code
def yX10_lost : MethodName := ⟨RX10, "lost", "(I)I"⟩
abbrev cX10_seen : ByteArray := prog_1_method_20_code
def yX10_seen : MethodName := ⟨RX10, "seen", "(IIII)I"⟩
abbrev cX10_sheet : ByteArray := prog_1_method_21_code
def yX10_sheet : MethodName := ⟨RX10, "sheet", "(III)I"⟩
abbrev cX10_write : ByteArray := prog_1_method_22_code
def yX10_write : MethodName := ⟨RX10, "write", "(III)I"⟩
abbrev cX10_copy : ByteArray := prog_1_method_23_code
def yX10_copy : MethodName := ⟨RX10, "copy", "(IIIII)I"⟩
abbrev cX10_trace : ByteArray := prog_1_method_24_code
def yX10_trace : MethodName := ⟨RX10, "trace", "(II)I"⟩
abbrev cX10_told : ByteArray := prog_1_method_25_code
def yX10_told : MethodName := ⟨RX10, "told", "(I)I"⟩
abbrev cX10_finding : ByteArray := prog_1_method_26_code
def yX10_finding : MethodName := ⟨RX10, "finding", "(I)I"⟩
abbrev cX10_timeOrNone : ByteArray := prog_1_method_27_code
def yX10_timeOrNone : MethodName := ⟨RX10, "timeOrNone", "(I)I"⟩
abbrev cX10_findEdition : ByteArray := prog_1_method_28_code
def yX10_findEdition : MethodName := ⟨RX10, "findEdition", "(I)LWalkTeller$Edition;"⟩
abbrev cX10_findPiece : ByteArray := prog_1_method_29_code
def yX10_findPiece : MethodName := ⟨RX10, "findPiece", "(II)LWalkTeller$Piece;"⟩
abbrev cX10_findWalker : ByteArray := prog_1_method_30_code
def yX10_findWalker : MethodName := ⟨RX10, "findWalker", "(I)LWalkTeller$Walker;"⟩
abbrev cX10_searchAnew : ByteArray := prog_1_method_31_code
def yX10_searchAnew : MethodName := ⟨RX10, "searchAnew", "(IIIZ)Z"⟩
abbrev cX10_searchFrom : ByteArray := prog_1_method_32_code
def yX10_searchFrom : MethodName := ⟨RX10, "searchFrom", "(LWalkTeller$Walker;)V"⟩
abbrev cX10_bestNextCorner : ByteArray := prog_1_method_33_code
def yX10_bestNextCorner : MethodName := ⟨RX10, "bestNextCorner", "(LWalkTeller$Walker;)I"⟩
abbrev cX10_countWalking : ByteArray := prog_1_method_34_code
def yX10_countWalking : MethodName := ⟨RX10, "countWalking", "(I)I"⟩
abbrev cX10_isWithin : ByteArray := prog_1_method_35_code
def yX10_isWithin : MethodName := ⟨RX10, "isWithin", "(III)Z"⟩
abbrev cX10_isDay : ByteArray := prog_1_method_36_code
def yX10_isDay : MethodName := ⟨RX10, "isDay", "(I)Z"⟩
abbrev cX10_isDoubt : ByteArray := prog_1_method_37_code
def yX10_isDoubt : MethodName := ⟨RX10, "isDoubt", "(I)Z"⟩
abbrev cX10_isSheet : ByteArray := prog_1_method_38_code
def yX10_isSheet : MethodName := ⟨RX10, "isSheet", "(I)Z"⟩
abbrev cX10_isSheetBits : ByteArray := prog_1_method_39_code
def yX10_isSheetBits : MethodName := ⟨RX10, "isSheetBits", "(I)Z"⟩
abbrev cX10_has : ByteArray := prog_1_method_40_code
def yX10_has : MethodName := ⟨RX10, "has", "(II)Z"⟩
def RX11 : String := "WalkTellerModel"
def TX11 : u_T := fun k => match k with
  | 0 => ("WalkTellerModel", "corners", "I", false)
  | 1 => ("WalkTellerModel", "atX", "[I", true)
  | 2 => ("WalkTellerModel", "atY", "[I", true)
  | 3 => ("WalkTellerModel", "ways", "I", false)
  | 4 => ("WalkTellerModel", "oneEnd", "[I", true)
  | 5 => ("WalkTellerModel", "otherEnd", "[I", true)
  | 6 => ("WalkTellerModel", "lengths", "[I", true)
  | 7 => ("WalkTellerModel", "hasStairs", "[Z", true)
  | 8 => ("WalkTellerModel", "shuts", "[I", true)
  | 9 => ("WalkTellerModel", "editions", "I", false)
  | 10 => ("WalkTellerModel", "pieces", "[I", true)
  | 11 => ("WalkTellerModel", "kindOf", "[I", true)
  | 12 => ("WalkTellerModel", "cornerOf", "[I", true)
  | 13 => ("WalkTellerModel", "lengthOf", "[I", true)
  | 14 => ("WalkTellerModel", "needsOf", "[I", true)
  | 15 => ("WalkTellerModel", "daysOf", "[I", true)
  | 16 => ("WalkTellerModel", "tape", "[I", true)
  | 17 => ("WalkTellerModel", "taped", "I", false)
  | 18 => ("WalkTellerModel", "walkers", "I", false)
  | 19 => ("WalkTellerModel", "cornerNow", "[I", true)
  | 20 => ("WalkTellerModel", "heard", "[I", true)
  | 21 => ("WalkTellerModel", "took", "[I", true)
  | 22 => ("WalkTellerModel", "editionNow", "[I", true)
  | 23 => ("WalkTellerModel", "climbs", "[Z", true)
  | 24 => ("WalkTellerModel", "last", "[I", true)
  | 25 => ("WalkTellerModel", "alone", "[I", true)
  | 26 => ("WalkTellerModel", "often", "[I", true)
  | 27 => ("WalkTellerModel", "dayNow", "I", false)
  | 28 => ("WalkTellerModel", "bits", "[I", true)
  | 29 => ("WalkTellerModel", "sizes", "[I", true)
  | 30 => ("WalkTellerModel", "sheets", "[I", true)
  | 31 => ("WalkTellerModel", "findings", "I", false)
  | 32 => ("WalkTellerModel", "read", "I", false)
  | 33 => ("WalkTellerModel", "at", "I", false)
  | 34 => ("WalkTellerModel", "readKind", "[I", true)
  | 35 => ("WalkTellerModel", "readCorner", "[I", true)
  | 36 => ("WalkTellerModel", "readLength", "[I", true)
  | 37 => ("WalkTellerModel", "readNeeds", "[I", true)
  | 38 => ("WalkTellerModel", "readDays", "[I", true)
  | 39 => ("WalkTellerModel", "times", "[I", true)
  | 40 => ("WalkTellerModel", "met", "[Z", true)
  | 41 => ("WalkTellerModel", "row", "[I", true)
  | 42 => ("WalkTellerModel", "many", "I", false)
  | _ => ("WalkTellerModel", "carried", "[I", true)
def tyX11 : Nat → FieldType := fun k => match k with
  | 0 => .int
  | 1 => .array .int
  | 2 => .array .int
  | 3 => .int
  | 4 => .array .int
  | 5 => .array .int
  | 6 => .array .int
  | 7 => .array .boolean
  | 8 => .array .int
  | 9 => .int
  | 10 => .array .int
  | 11 => .array .int
  | 12 => .array .int
  | 13 => .array .int
  | 14 => .array .int
  | 15 => .array .int
  | 16 => .array .int
  | 17 => .int
  | 18 => .int
  | 19 => .array .int
  | 20 => .array .int
  | 21 => .array .int
  | 22 => .array .int
  | 23 => .array .boolean
  | 24 => .array .int
  | 25 => .array .int
  | 26 => .array .int
  | 27 => .int
  | 28 => .array .int
  | 29 => .array .int
  | 30 => .array .int
  | 31 => .int
  | 32 => .int
  | 33 => .int
  | 34 => .array .int
  | 35 => .array .int
  | 36 => .array .int
  | 37 => .array .int
  | 38 => .array .int
  | 39 => .array .int
  | 40 => .array .boolean
  | 41 => .array .int
  | 42 => .int
  | _ => .array .int
abbrev wsX110 : List Cond := u_ws RX11 TX11 44
theorem nmX11 : ∀ a, a < 44 → ∀ b, b < 44 → a ≠ b → (TX11 a).2.1 ≠ (TX11 b).2.1 := by decide +kernel
theorem tyX11_ok : ∀ k, k < 44 → parseFieldDescriptor (TX11 k).2.2.1 = some (tyX11 k) := by decide +kernel
abbrev cX11_init : ByteArray := prog_13_method_1_code
def yX11_init : MethodName := ⟨RX11, "<init>", "()V"⟩
abbrev cX11_finding : ByteArray := prog_13_method_2_code
def yX11_finding : MethodName := ⟨RX11, "finding", "(I)I"⟩
abbrev cX11_within : ByteArray := prog_13_method_3_code
def yX11_within : MethodName := ⟨RX11, "within", "(III)Z"⟩
abbrev cX11_isCorner : ByteArray := prog_13_method_4_code
def yX11_isCorner : MethodName := ⟨RX11, "isCorner", "(I)Z"⟩
abbrev cX11_isWay : ByteArray := prog_13_method_5_code
def yX11_isWay : MethodName := ⟨RX11, "isWay", "(I)Z"⟩
abbrev cX11_isWalker : ByteArray := prog_13_method_6_code
def yX11_isWalker : MethodName := ⟨RX11, "isWalker", "(I)Z"⟩
abbrev cX11_isDay : ByteArray := prog_13_method_7_code
def yX11_isDay : MethodName := ⟨RX11, "isDay", "(I)Z"⟩
abbrev cX11_corner : ByteArray := prog_13_method_8_code
def yX11_corner : MethodName := ⟨RX11, "corner", "(II)I"⟩
abbrev cX11_way : ByteArray := prog_13_method_9_code
def yX11_way : MethodName := ⟨RX11, "way", "(IIIZ)I"⟩
abbrev cX11_shut : ByteArray := prog_13_method_10_code
def yX11_shut : MethodName := ⟨RX11, "shut", "(II)I"⟩
abbrev cX11_isOpen : ByteArray := prog_13_method_11_code
def yX11_isOpen : MethodName := ⟨RX11, "isOpen", "(IIZ)Z"⟩
abbrev cX11_far : ByteArray := prog_13_method_12_code
def yX11_far : MethodName := ⟨RX11, "far", "(IIIZ)I"⟩
abbrev cX11_feed : ByteArray := prog_13_method_13_code
def yX11_feed : MethodName := ⟨RX11, "feed", "(JI)I"⟩
abbrev cX11_byteAt : ByteArray := prog_13_method_14_code
def yX11_byteAt : MethodName := ⟨RX11, "byteAt", "(I)I"⟩
abbrev cX11_kindBy : ByteArray := prog_13_method_15_code
def yX11_kindBy : MethodName := ⟨RX11, "kindBy", "(I)I"⟩
abbrev cX11_readsPiece : ByteArray := prog_13_method_16_code
def yX11_readsPiece : MethodName := ⟨RX11, "readsPiece", "()Z"⟩
abbrev cX11_readsDays : ByteArray := prog_13_method_17_code
def yX11_readsDays : MethodName := ⟨RX11, "readsDays", "()Z"⟩
abbrev cX11_newEdition : ByteArray := prog_13_method_18_code
def yX11_newEdition : MethodName := ⟨RX11, "newEdition", "()I"⟩
abbrev cX11_story : ByteArray := prog_13_method_19_code
def yX11_story : MethodName := ⟨RX11, "story", "()I"⟩
abbrev cX11_isEdition : ByteArray := prog_13_method_20_code
def yX11_isEdition : MethodName := ⟨RX11, "isEdition", "(I)Z"⟩
abbrev cX11_isPiece : ByteArray := prog_13_method_21_code
def yX11_isPiece : MethodName := ⟨RX11, "isPiece", "(II)Z"⟩
abbrev cX11_as : ByteArray := prog_13_method_22_code
def yX11_as : MethodName := ⟨RX11, "as", "(III)I"⟩
abbrev cX11_of : ByteArray := prog_13_method_23_code
def yX11_of : MethodName := ⟨RX11, "of", "(III)I"⟩
abbrev cX11_canTell : ByteArray := prog_13_method_24_code
def yX11_canTell : MethodName := ⟨RX11, "canTell", "(IIIII)Z"⟩
abbrev cX11_manyCan : ByteArray := prog_13_method_25_code
def yX11_manyCan : MethodName := ⟨RX11, "manyCan", "(IIII)I"⟩
abbrev cX11_nextPiece : ByteArray := prog_13_method_26_code
def yX11_nextPiece : MethodName := ⟨RX11, "nextPiece", "(IIII)I"⟩
abbrev cX11_isOver : ByteArray := prog_13_method_27_code
def yX11_isOver : MethodName := ⟨RX11, "isOver", "(II)Z"⟩
abbrev cX11_momentOf : ByteArray := prog_13_method_28_code
def yX11_momentOf : MethodName := ⟨RX11, "momentOf", "(II)I"⟩
abbrev cX11_findTimes : ByteArray := prog_13_method_29_code
def yX11_findTimes : MethodName := ⟨RX11, "findTimes", "(IIZ)V"⟩
abbrev cX11_comesNearer : ByteArray := prog_13_method_30_code
def yX11_comesNearer : MethodName := ⟨RX11, "comesNearer", "([ZIIII)V"⟩
abbrev cX11_meets : ByteArray := prog_13_method_31_code
def yX11_meets : MethodName := ⟨RX11, "meets", "(I)V"⟩
abbrev cX11_findMoments : ByteArray := prog_13_method_32_code
def yX11_findMoments : MethodName := ⟨RX11, "findMoments", "(IIIIZ)V"⟩
abbrev cX11_allHeard : ByteArray := prog_13_method_33_code
def yX11_allHeard : MethodName := ⟨RX11, "allHeard", "()I"⟩
abbrev cX11_check : ByteArray := prog_13_method_34_code
def yX11_check : MethodName := ⟨RX11, "check", "(IIIZI)I"⟩
abbrev cX11_canAsk : ByteArray := prog_13_method_35_code
def yX11_canAsk : MethodName := ⟨RX11, "canAsk", "(III)Z"⟩
abbrev cX11_quickest : ByteArray := prog_13_method_36_code
def yX11_quickest : MethodName := ⟨RX11, "quickest", "(IIIZ)I"⟩
abbrev cX11_goesTo : ByteArray := prog_13_method_37_code
def yX11_goesTo : MethodName := ⟨RX11, "goesTo", "(IIIZ)I"⟩
abbrev cX11_route : ByteArray := prog_13_method_38_code
def yX11_route : MethodName := ⟨RX11, "route", "(IIIZI)I"⟩
abbrev cX11_listens : ByteArray := prog_13_method_39_code
def yX11_listens : MethodName := ⟨RX11, "listens", "(I)I"⟩
abbrev cX11_isDone : ByteArray := prog_13_method_40_code
def yX11_isDone : MethodName := ⟨RX11, "isDone", "(I)Z"⟩
abbrev cX11_walker : ByteArray := prog_13_method_41_code
def yX11_walker : MethodName := ⟨RX11, "walker", "(IZ)I"⟩
abbrev cX11_today : ByteArray := prog_13_method_42_code
def yX11_today : MethodName := ⟨RX11, "today", "(I)I"⟩
abbrev cX11_comes : ByteArray := prog_13_method_43_code
def yX11_comes : MethodName := ⟨RX11, "comes", "(II)I"⟩
abbrev cX11_go : ByteArray := prog_13_method_44_code
def yX11_go : MethodName := ⟨RX11, "go", "(II)I"⟩
abbrev cX11_about : ByteArray := prog_13_method_45_code
def yX11_about : MethodName := ⟨RX11, "about", "(II)I"⟩
abbrev cX11_wayTo : ByteArray := prog_13_method_46_code
def yX11_wayTo : MethodName := ⟨RX11, "wayTo", "(II)I"⟩
abbrev cX11_othersAt : ByteArray := prog_13_method_47_code
def yX11_othersAt : MethodName := ⟨RX11, "othersAt", "(II)I"⟩
abbrev cX11_offer : ByteArray := prog_13_method_48_code
def yX11_offer : MethodName := ⟨RX11, "offer", "(I)I"⟩
abbrev cX11_rest : ByteArray := prog_13_method_49_code
def yX11_rest : MethodName := ⟨RX11, "rest", "(I)I"⟩
abbrev cX11_lost : ByteArray := prog_13_method_50_code
def yX11_lost : MethodName := ⟨RX11, "lost", "(I)I"⟩
abbrev cX11_isPossible : ByteArray := prog_13_method_51_code
def yX11_isPossible : MethodName := ⟨RX11, "isPossible", "(IIII)Z"⟩
abbrev cX11_reads : ByteArray := prog_13_method_52_code
def yX11_reads : MethodName := ⟨RX11, "reads", "(IIII)V"⟩
abbrev cX11_seen : ByteArray := prog_13_method_53_code
def yX11_seen : MethodName := ⟨RX11, "seen", "(IIII)I"⟩
abbrev cX11_isSheet : ByteArray := prog_13_method_54_code
def yX11_isSheet : MethodName := ⟨RX11, "isSheet", "(I)Z"⟩
abbrev cX11_sheet : ByteArray := prog_13_method_55_code
def yX11_sheet : MethodName := ⟨RX11, "sheet", "(III)I"⟩
abbrev cX11_write : ByteArray := prog_13_method_56_code
def yX11_write : MethodName := ⟨RX11, "write", "(III)I"⟩
abbrev cX11_copy : ByteArray := prog_13_method_57_code
def yX11_copy : MethodName := ⟨RX11, "copy", "(IIIII)I"⟩
abbrev cX11_trace : ByteArray := prog_13_method_58_code
def yX11_trace : MethodName := ⟨RX11, "trace", "(II)I"⟩
abbrev cX11_told : ByteArray := prog_13_method_59_code
def yX11_told : MethodName := ⟨RX11, "told", "(I)I"⟩
def RJ6 : String := "java/lang/Integer"
abbrev cJ6_numberOfTrailingZeros_0f7a4 : ByteArray := prog_14_method_48_code
def yJ6_numberOfTrailingZeros_0f7a4 : MethodName := ⟨RJ6, "numberOfTrailingZeros", "(I)I"⟩
abbrev cJ6_bitCount_0f7a4 : ByteArray := prog_14_method_49_code
def yJ6_bitCount_0f7a4 : MethodName := ⟨RJ6, "bitCount", "(I)I"⟩
def RJ9 : String := "java/lang/Math"
abbrev cJ9_abs_067f4 : ByteArray := prog_15_method_61_code
def yJ9_abs_067f4 : MethodName := ⟨RJ9, "abs", "(J)J"⟩
abbrev cJ9_max_7cf53 : ByteArray := prog_15_method_65_code
def yJ9_max_7cf53 : MethodName := ⟨RJ9, "max", "(II)I"⟩
abbrev cJ9_min_7cf53 : ByteArray := prog_15_method_69_code
def yJ9_min_7cf53 : MethodName := ⟨RJ9, "min", "(II)I"⟩
def RJ0 : String := "java/lang/String"
abbrev cJ0_length_8abf5 : ByteArray := prog_16_method_54_code
def yJ0_length_8abf5 : MethodName := ⟨RJ0, "length", "()I"⟩
abbrev cJ0_charAt_5068e : ByteArray := prog_16_method_56_code
def yJ0_charAt_5068e : MethodName := ⟨RJ0, "charAt", "(I)C"⟩
abbrev cJ0_coder_7d493 : ByteArray := prog_16_method_152_code
def yJ0_coder_7d493 : MethodName := ⟨RJ0, "coder", "()B"⟩
abbrev cJ0_isLatin1_aae02 : ByteArray := prog_16_method_154_code
def yJ0_isLatin1_aae02 : MethodName := ⟨RJ0, "isLatin1", "()Z"⟩
abbrev cJ0_checkIndex_df160 : ByteArray := prog_16_method_155_code
def yJ0_checkIndex_df160 : MethodName := ⟨RJ0, "checkIndex", "(II)V"⟩
def RJ1 : String := "java/lang/StringLatin1"
abbrev cJ1_charAt_3b067 : ByteArray := prog_17_method_2_code
def yJ1_charAt_3b067 : MethodName := ⟨RJ1, "charAt", "([BI)C"⟩
def RJ2 : String := "java/lang/StringUTF16"
abbrev cJ2_getChar_3b067 : ByteArray := prog_18_method_5_code
def yJ2_getChar_3b067 : MethodName := ⟨RJ2, "getChar", "([BI)C"⟩
abbrev cJ2_length_9d52b : ByteArray := prog_18_method_6_code
def yJ2_length_9d52b : MethodName := ⟨RJ2, "length", "([B)I"⟩
abbrev cJ2_charAt_3b067 : ByteArray := prog_18_method_83_code
def yJ2_charAt_3b067 : MethodName := ⟨RJ2, "charAt", "([BI)C"⟩
abbrev cJ2_checkIndex_2214a : ByteArray := prog_18_method_91_code
def yJ2_checkIndex_2214a : MethodName := ⟨RJ2, "checkIndex", "(I[B)V"⟩
def RJ10 : String := "java/lang/System"
def RJ7 : String := "java/util/Arrays"
abbrev cJ7_fill_53178 : ByteArray := prog_20_method_103_code
def yJ7_fill_53178 : MethodName := ⟨RJ7, "fill", "([II)V"⟩
def RJ3 : String := "jdk/internal/util/Preconditions"
abbrev cJ3_checkIndex_8e157 : ByteArray := prog_21_method_11_code
def yJ3_checkIndex_8e157 : MethodName := ⟨RJ3, "checkIndex", "(IILjava/util/function/BiFunction;)I"⟩
abbrev vwCl : List vw_C := [(RX0, TX0, 3), (RX1, TX1, 2), (RX2, TX2, 5), (RX3, TX3, 3), (RX4, TX4, 8), (RX5, TX5, 2), (RX6, TX6, 2), (RX7, TX7, 5), (RX8, TX8, 9), (RX9, TX9, 5), (RX10, TX10, 10), (RX11, TX11, 44)]
def R_law : String := "WalkTellerLaw"
end
section
theorem dX0_init_0 : decode cX0_init 0 = .ok (.aload_n 0, 1) := by decide +kernel
theorem dX0_init_1 : decode cX0_init 1 = .ok (.invokespecial 3, 3) := by decide +kernel
theorem dX0_init_4 : decode cX0_init 4 = .ok (.aload_n 0, 1) := by decide +kernel
theorem dX0_init_5 : decode cX0_init 5 = .ok (.bipush 12, 2) := by decide +kernel
theorem dX0_init_7 : decode cX0_init 7 = .ok (.anewarray 9, 3) := by decide +kernel
theorem dX0_init_10 : decode cX0_init 10 = .ok (.putfield 11, 3) := by decide +kernel
theorem dX0_init_13 : decode cX0_init 13 = .ok (.aload_n 0, 1) := by decide +kernel
theorem dX0_init_14 : decode cX0_init 14 = .ok (.iconst 0, 1) := by decide +kernel
theorem dX0_init_15 : decode cX0_init 15 = .ok (.putfield 17, 3) := by decide +kernel
theorem dX0_init_18 : decode cX0_init 18 = .ok (.aload_n 0, 1) := by decide +kernel
theorem dX0_init_19 : decode cX0_init 19 = .ok (.iconst 0, 1) := by decide +kernel
theorem dX0_init_20 : decode cX0_init 20 = .ok (.putfield 21, 3) := by decide +kernel
theorem dX0_init_23 : decode cX0_init 23 = .ok (.return_, 1) := by decide +kernel
theorem dX0_addPiece_0 : decode cX0_addPiece 0 = .ok (.aload_n 1, 1) := by decide +kernel
theorem dX0_addPiece_1 : decode cX0_addPiece 1 = .ok (.getfield 24, 3) := by decide +kernel
theorem dX0_addPiece_4 : decode cX0_addPiece 4 = .ok (.iconst 3, 1) := by decide +kernel
theorem dX0_addPiece_5 : decode cX0_addPiece 5 = .ok (.if_icmp .ne 18, 3) := by decide +kernel
theorem dX0_addPiece_8 : decode cX0_addPiece 8 = .ok (.aload_n 0, 1) := by decide +kernel
theorem dX0_addPiece_9 : decode cX0_addPiece 9 = .ok (.dup, 1) := by decide +kernel
theorem dX0_addPiece_10 : decode cX0_addPiece 10 = .ok (.getfield 21, 3) := by decide +kernel
theorem dX0_addPiece_13 : decode cX0_addPiece 13 = .ok (.iconst 1, 1) := by decide +kernel
theorem dX0_addPiece_14 : decode cX0_addPiece 14 = .ok (.aload_n 0, 1) := by decide +kernel
theorem dX0_addPiece_15 : decode cX0_addPiece 15 = .ok (.getfield 17, 3) := by decide +kernel
theorem dX0_addPiece_18 : decode cX0_addPiece 18 = .ok (.ishl, 1) := by decide +kernel
theorem dX0_addPiece_19 : decode cX0_addPiece 19 = .ok (.ior, 1) := by decide +kernel
theorem dX0_addPiece_20 : decode cX0_addPiece 20 = .ok (.putfield 21, 3) := by decide +kernel
theorem dX0_addPiece_23 : decode cX0_addPiece 23 = .ok (.aload_n 0, 1) := by decide +kernel
theorem dX0_addPiece_24 : decode cX0_addPiece 24 = .ok (.getfield 11, 3) := by decide +kernel
theorem dX0_addPiece_27 : decode cX0_addPiece 27 = .ok (.aload_n 0, 1) := by decide +kernel
theorem dX0_addPiece_28 : decode cX0_addPiece 28 = .ok (.getfield 17, 3) := by decide +kernel
theorem dX0_addPiece_31 : decode cX0_addPiece 31 = .ok (.aload_n 1, 1) := by decide +kernel
theorem dX0_addPiece_32 : decode cX0_addPiece 32 = .ok (.aastore, 1) := by decide +kernel
theorem dX0_addPiece_33 : decode cX0_addPiece 33 = .ok (.aload_n 0, 1) := by decide +kernel
theorem dX0_addPiece_34 : decode cX0_addPiece 34 = .ok (.dup, 1) := by decide +kernel
theorem dX0_addPiece_35 : decode cX0_addPiece 35 = .ok (.getfield 17, 3) := by decide +kernel
theorem dX0_addPiece_38 : decode cX0_addPiece 38 = .ok (.iconst 1, 1) := by decide +kernel
theorem dX0_addPiece_39 : decode cX0_addPiece 39 = .ok (.iadd, 1) := by decide +kernel
theorem dX0_addPiece_40 : decode cX0_addPiece 40 = .ok (.putfield 17, 3) := by decide +kernel
theorem dX0_addPiece_43 : decode cX0_addPiece 43 = .ok (.return_, 1) := by decide +kernel
theorem dX0_findPiece_0 : decode cX0_findPiece 0 = .ok (.iload_n 1, 1) := by decide +kernel
theorem dX0_findPiece_1 : decode cX0_findPiece 1 = .ok (.iconst 0, 1) := by decide +kernel
theorem dX0_findPiece_2 : decode cX0_findPiece 2 = .ok (.aload_n 0, 1) := by decide +kernel
theorem dX0_findPiece_3 : decode cX0_findPiece 3 = .ok (.getfield 17, 3) := by decide +kernel
theorem dX0_findPiece_6 : decode cX0_findPiece 6 = .ok (.iconst 1, 1) := by decide +kernel
theorem dX0_findPiece_7 : decode cX0_findPiece 7 = .ok (.isub, 1) := by decide +kernel
theorem dX0_findPiece_8 : decode cX0_findPiece 8 = .ok (.invokestatic 27, 3) := by decide +kernel
theorem dX0_findPiece_11 : decode cX0_findPiece 11 = .ok (.ifCond .eq 12, 3) := by decide +kernel
theorem dX0_findPiece_14 : decode cX0_findPiece 14 = .ok (.aload_n 0, 1) := by decide +kernel
theorem dX0_findPiece_15 : decode cX0_findPiece 15 = .ok (.getfield 11, 3) := by decide +kernel
theorem dX0_findPiece_18 : decode cX0_findPiece 18 = .ok (.iload_n 1, 1) := by decide +kernel
theorem dX0_findPiece_19 : decode cX0_findPiece 19 = .ok (.aaload, 1) := by decide +kernel
theorem dX0_findPiece_20 : decode cX0_findPiece 20 = .ok (.goto 4, 3) := by decide +kernel
theorem dX0_findPiece_23 : decode cX0_findPiece 23 = .ok (.aconst_null, 1) := by decide +kernel
theorem dX0_findPiece_24 : decode cX0_findPiece 24 = .ok (.areturn, 1) := by decide +kernel
theorem dX0_allPieces_0 : decode cX0_allPieces 0 = .ok (.iconst 1, 1) := by decide +kernel
theorem dX0_allPieces_1 : decode cX0_allPieces 1 = .ok (.aload_n 0, 1) := by decide +kernel
theorem dX0_allPieces_2 : decode cX0_allPieces 2 = .ok (.getfield 17, 3) := by decide +kernel
theorem dX0_allPieces_5 : decode cX0_allPieces 5 = .ok (.ishl, 1) := by decide +kernel
theorem dX0_allPieces_6 : decode cX0_allPieces 6 = .ok (.iconst 1, 1) := by decide +kernel
theorem dX0_allPieces_7 : decode cX0_allPieces 7 = .ok (.isub, 1) := by decide +kernel
theorem dX0_allPieces_8 : decode cX0_allPieces 8 = .ok (.ireturn, 1) := by decide +kernel
theorem dX0_isOver_0 : decode cX0_isOver 0 = .ok (.iload_n 1, 1) := by decide +kernel
theorem dX0_isOver_1 : decode cX0_isOver 1 = .ok (.aload_n 0, 1) := by decide +kernel
theorem dX0_isOver_2 : decode cX0_isOver 2 = .ok (.getfield 21, 3) := by decide +kernel
theorem dX0_isOver_5 : decode cX0_isOver 5 = .ok (.iand, 1) := by decide +kernel
theorem dX0_isOver_6 : decode cX0_isOver 6 = .ok (.ifCond .eq 7, 3) := by decide +kernel
theorem dX0_isOver_9 : decode cX0_isOver 9 = .ok (.iconst 1, 1) := by decide +kernel
theorem dX0_isOver_10 : decode cX0_isOver 10 = .ok (.goto 4, 3) := by decide +kernel
theorem dX0_isOver_13 : decode cX0_isOver 13 = .ok (.iconst 0, 1) := by decide +kernel
theorem dX0_isOver_14 : decode cX0_isOver 14 = .ok (.ireturn, 1) := by decide +kernel
theorem dX0_nextPiece_0 : decode cX0_nextPiece 0 = .ok (.iload_n 1, 1) := by decide +kernel
theorem dX0_nextPiece_1 : decode cX0_nextPiece 1 = .ok (.istore 5, 2) := by decide +kernel
theorem dX0_nextPiece_3 : decode cX0_nextPiece 3 = .ok (.iload 5, 2) := by decide +kernel
theorem dX0_nextPiece_5 : decode cX0_nextPiece 5 = .ok (.aload_n 0, 1) := by decide +kernel
theorem dX0_nextPiece_6 : decode cX0_nextPiece 6 = .ok (.getfield 17, 3) := by decide +kernel
theorem dX0_nextPiece_9 : decode cX0_nextPiece 9 = .ok (.if_icmp .ge 38, 3) := by decide +kernel
theorem dX0_nextPiece_12 : decode cX0_nextPiece 12 = .ok (.iload_n 3, 1) := by decide +kernel
theorem dX0_nextPiece_13 : decode cX0_nextPiece 13 = .ok (.iload 5, 2) := by decide +kernel
theorem dX0_nextPiece_15 : decode cX0_nextPiece 15 = .ok (.invokestatic 31, 3) := by decide +kernel
theorem dX0_nextPiece_18 : decode cX0_nextPiece 18 = .ok (.ifCond .ne 23, 3) := by decide +kernel
theorem dX0_nextPiece_21 : decode cX0_nextPiece 21 = .ok (.aload_n 0, 1) := by decide +kernel
theorem dX0_nextPiece_22 : decode cX0_nextPiece 22 = .ok (.getfield 11, 3) := by decide +kernel
theorem dX0_nextPiece_25 : decode cX0_nextPiece 25 = .ok (.iload 5, 2) := by decide +kernel
theorem dX0_nextPiece_27 : decode cX0_nextPiece 27 = .ok (.aaload, 1) := by decide +kernel
theorem dX0_nextPiece_28 : decode cX0_nextPiece 28 = .ok (.iload_n 2, 1) := by decide +kernel
theorem dX0_nextPiece_29 : decode cX0_nextPiece 29 = .ok (.iload_n 3, 1) := by decide +kernel
theorem dX0_nextPiece_30 : decode cX0_nextPiece 30 = .ok (.iload 4, 2) := by decide +kernel
theorem dX0_nextPiece_32 : decode cX0_nextPiece 32 = .ok (.invokevirtual 35, 3) := by decide +kernel
theorem dX0_nextPiece_35 : decode cX0_nextPiece 35 = .ok (.ifCond .eq 6, 3) := by decide +kernel
theorem dX0_nextPiece_38 : decode cX0_nextPiece 38 = .ok (.iload 5, 2) := by decide +kernel
theorem dX0_nextPiece_40 : decode cX0_nextPiece 40 = .ok (.ireturn, 1) := by decide +kernel
theorem dX0_nextPiece_41 : decode cX0_nextPiece 41 = .ok (.iinc 5 1, 3) := by decide +kernel
theorem dX0_nextPiece_44 : decode cX0_nextPiece 44 = .ok (.goto (-41), 3) := by decide +kernel
theorem dX0_nextPiece_47 : decode cX0_nextPiece 47 = .ok (.iconst (-1), 1) := by decide +kernel
theorem dX0_nextPiece_48 : decode cX0_nextPiece 48 = .ok (.ireturn, 1) := by decide +kernel
theorem dX0_hasTwoVoices_0 : decode cX0_hasTwoVoices 0 = .ok (.aload_n 0, 1) := by decide +kernel
theorem dX0_hasTwoVoices_1 : decode cX0_hasTwoVoices 1 = .ok (.iconst 0, 1) := by decide +kernel
theorem dX0_hasTwoVoices_2 : decode cX0_hasTwoVoices 2 = .ok (.iload_n 1, 1) := by decide +kernel
theorem dX0_hasTwoVoices_3 : decode cX0_hasTwoVoices 3 = .ok (.iload_n 2, 1) := by decide +kernel
theorem dX0_hasTwoVoices_4 : decode cX0_hasTwoVoices 4 = .ok (.iload_n 3, 1) := by decide +kernel
theorem dX0_hasTwoVoices_5 : decode cX0_hasTwoVoices 5 = .ok (.invokevirtual 38, 3) := by decide +kernel
theorem dX0_hasTwoVoices_8 : decode cX0_hasTwoVoices 8 = .ok (.istore 4, 2) := by decide +kernel
theorem dX0_hasTwoVoices_10 : decode cX0_hasTwoVoices 10 = .ok (.iload 4, 2) := by decide +kernel
theorem dX0_hasTwoVoices_12 : decode cX0_hasTwoVoices 12 = .ok (.ifCond .lt 21, 3) := by decide +kernel
theorem dX0_hasTwoVoices_15 : decode cX0_hasTwoVoices 15 = .ok (.aload_n 0, 1) := by decide +kernel
theorem dX0_hasTwoVoices_16 : decode cX0_hasTwoVoices 16 = .ok (.iload 4, 2) := by decide +kernel
theorem dX0_hasTwoVoices_18 : decode cX0_hasTwoVoices 18 = .ok (.iconst 1, 1) := by decide +kernel
theorem dX0_hasTwoVoices_19 : decode cX0_hasTwoVoices 19 = .ok (.iadd, 1) := by decide +kernel
theorem dX0_hasTwoVoices_20 : decode cX0_hasTwoVoices 20 = .ok (.iload_n 1, 1) := by decide +kernel
theorem dX0_hasTwoVoices_21 : decode cX0_hasTwoVoices 21 = .ok (.iload_n 2, 1) := by decide +kernel
theorem dX0_hasTwoVoices_22 : decode cX0_hasTwoVoices 22 = .ok (.iload_n 3, 1) := by decide +kernel
theorem dX0_hasTwoVoices_23 : decode cX0_hasTwoVoices 23 = .ok (.invokevirtual 38, 3) := by decide +kernel
theorem dX0_hasTwoVoices_26 : decode cX0_hasTwoVoices 26 = .ok (.ifCond .lt 7, 3) := by decide +kernel
theorem dX0_hasTwoVoices_29 : decode cX0_hasTwoVoices 29 = .ok (.iconst 1, 1) := by decide +kernel
theorem dX0_hasTwoVoices_30 : decode cX0_hasTwoVoices 30 = .ok (.goto 4, 3) := by decide +kernel
theorem dX0_hasTwoVoices_33 : decode cX0_hasTwoVoices 33 = .ok (.iconst 0, 1) := by decide +kernel
theorem dX0_hasTwoVoices_34 : decode cX0_hasTwoVoices 34 = .ok (.ireturn, 1) := by decide +kernel
theorem dX1_init_0 : decode cX1_init 0 = .ok (.aload_n 0, 1) := by decide +kernel
theorem dX1_init_1 : decode cX1_init 1 = .ok (.invokespecial 3, 3) := by decide +kernel
theorem dX1_init_4 : decode cX1_init 4 = .ok (.aload_n 0, 1) := by decide +kernel
theorem dX1_init_5 : decode cX1_init 5 = .ok (.bipush 64, 2) := by decide +kernel
theorem dX1_init_7 : decode cX1_init 7 = .ok (.newarray .int, 2) := by decide +kernel
theorem dX1_init_9 : decode cX1_init 9 = .ok (.putfield 9, 3) := by decide +kernel
theorem dX1_init_12 : decode cX1_init 12 = .ok (.aload_n 0, 1) := by decide +kernel
theorem dX1_init_13 : decode cX1_init 13 = .ok (.bipush 8, 2) := by decide +kernel
theorem dX1_init_15 : decode cX1_init 15 = .ok (.newarray .int, 2) := by decide +kernel
theorem dX1_init_17 : decode cX1_init 17 = .ok (.putfield 15, 3) := by decide +kernel
theorem dX1_init_20 : decode cX1_init 20 = .ok (.return_, 1) := by decide +kernel
theorem dX1_lay_0 : decode cX1_lay 0 = .ok (.aload_n 0, 1) := by decide +kernel
theorem dX1_lay_1 : decode cX1_lay 1 = .ok (.getfield 9, 3) := by decide +kernel
theorem dX1_lay_4 : decode cX1_lay 4 = .ok (.ldc 18, 2) := by decide +kernel
theorem dX1_lay_6 : decode cX1_lay 6 = .ok (.invokestatic 19, 3) := by decide +kernel
theorem dX1_lay_9 : decode cX1_lay 9 = .ok (.aload_n 0, 1) := by decide +kernel
theorem dX1_lay_10 : decode cX1_lay 10 = .ok (.getfield 15, 3) := by decide +kernel
theorem dX1_lay_13 : decode cX1_lay 13 = .ok (.iconst 0, 1) := by decide +kernel
theorem dX1_lay_14 : decode cX1_lay 14 = .ok (.invokestatic 19, 3) := by decide +kernel
theorem dX1_lay_17 : decode cX1_lay 17 = .ok (.iconst 0, 1) := by decide +kernel
theorem dX1_lay_18 : decode cX1_lay 18 = .ok (.istore 4, 2) := by decide +kernel
theorem dX1_lay_20 : decode cX1_lay 20 = .ok (.iload 4, 2) := by decide +kernel
theorem dX1_lay_22 : decode cX1_lay 22 = .ok (.aload_n 1, 1) := by decide +kernel
theorem dX1_lay_23 : decode cX1_lay 23 = .ok (.getfield 25, 3) := by decide +kernel
theorem dX1_lay_26 : decode cX1_lay 26 = .ok (.if_icmp .ge 66, 3) := by decide +kernel
theorem dX1_lay_29 : decode cX1_lay 29 = .ok (.aload_n 1, 1) := by decide +kernel
theorem dX1_lay_30 : decode cX1_lay 30 = .ok (.getfield 31, 3) := by decide +kernel
theorem dX1_lay_33 : decode cX1_lay 33 = .ok (.iload 4, 2) := by decide +kernel
theorem dX1_lay_35 : decode cX1_lay 35 = .ok (.aaload, 1) := by decide +kernel
theorem dX1_lay_36 : decode cX1_lay 36 = .ok (.astore 5, 2) := by decide +kernel
theorem dX1_lay_38 : decode cX1_lay 38 = .ok (.aload 5, 2) := by decide +kernel
theorem dX1_lay_40 : decode cX1_lay 40 = .ok (.iload_n 2, 1) := by decide +kernel
theorem dX1_lay_41 : decode cX1_lay 41 = .ok (.iload_n 3, 1) := by decide +kernel
theorem dX1_lay_42 : decode cX1_lay 42 = .ok (.invokevirtual 35, 3) := by decide +kernel
theorem dX1_lay_45 : decode cX1_lay 45 = .ok (.ifCond .eq 41, 3) := by decide +kernel
theorem dX1_lay_48 : decode cX1_lay 48 = .ok (.aload_n 0, 1) := by decide +kernel
theorem dX1_lay_49 : decode cX1_lay 49 = .ok (.aload 5, 2) := by decide +kernel
theorem dX1_lay_51 : decode cX1_lay 51 = .ok (.getfield 41, 3) := by decide +kernel
theorem dX1_lay_54 : decode cX1_lay 54 = .ok (.aload 5, 2) := by decide +kernel
theorem dX1_lay_56 : decode cX1_lay 56 = .ok (.getfield 44, 3) := by decide +kernel
theorem dX1_lay_59 : decode cX1_lay 59 = .ok (.aload 5, 2) := by decide +kernel
theorem dX1_lay_61 : decode cX1_lay 61 = .ok (.getfield 47, 3) := by decide +kernel
theorem dX1_lay_64 : decode cX1_lay 64 = .ok (.invokevirtual 50, 3) := by decide +kernel
theorem dX1_lay_67 : decode cX1_lay 67 = .ok (.aload_n 0, 1) := by decide +kernel
theorem dX1_lay_68 : decode cX1_lay 68 = .ok (.aload 5, 2) := by decide +kernel
theorem dX1_lay_70 : decode cX1_lay 70 = .ok (.getfield 44, 3) := by decide +kernel
theorem dX1_lay_73 : decode cX1_lay 73 = .ok (.aload 5, 2) := by decide +kernel
theorem dX1_lay_75 : decode cX1_lay 75 = .ok (.getfield 41, 3) := by decide +kernel
theorem dX1_lay_78 : decode cX1_lay 78 = .ok (.aload 5, 2) := by decide +kernel
theorem dX1_lay_80 : decode cX1_lay 80 = .ok (.getfield 47, 3) := by decide +kernel
theorem dX1_lay_83 : decode cX1_lay 83 = .ok (.invokevirtual 50, 3) := by decide +kernel
theorem dX1_lay_86 : decode cX1_lay 86 = .ok (.iinc 4 1, 3) := by decide +kernel
theorem dX1_lay_89 : decode cX1_lay 89 = .ok (.goto (-69), 3) := by decide +kernel
theorem dX1_lay_92 : decode cX1_lay 92 = .ok (.return_, 1) := by decide +kernel
theorem dX1_join_0 : decode cX1_join 0 = .ok (.iload_n 1, 1) := by decide +kernel
theorem dX1_join_1 : decode cX1_join 1 = .ok (.bipush 8, 2) := by decide +kernel
theorem dX1_join_3 : decode cX1_join 3 = .ok (.imul, 1) := by decide +kernel
theorem dX1_join_4 : decode cX1_join 4 = .ok (.iload_n 2, 1) := by decide +kernel
theorem dX1_join_5 : decode cX1_join 5 = .ok (.iadd, 1) := by decide +kernel
theorem dX1_join_6 : decode cX1_join 6 = .ok (.istore 4, 2) := by decide +kernel
theorem dX1_join_8 : decode cX1_join 8 = .ok (.aload_n 0, 1) := by decide +kernel
theorem dX1_join_9 : decode cX1_join 9 = .ok (.getfield 9, 3) := by decide +kernel
theorem dX1_join_12 : decode cX1_join 12 = .ok (.iload 4, 2) := by decide +kernel
theorem dX1_join_14 : decode cX1_join 14 = .ok (.aload_n 0, 1) := by decide +kernel
theorem dX1_join_15 : decode cX1_join 15 = .ok (.getfield 9, 3) := by decide +kernel
theorem dX1_join_18 : decode cX1_join 18 = .ok (.iload 4, 2) := by decide +kernel
theorem dX1_join_20 : decode cX1_join 20 = .ok (.iaload, 1) := by decide +kernel
theorem dX1_join_21 : decode cX1_join 21 = .ok (.iload_n 3, 1) := by decide +kernel
theorem dX1_join_22 : decode cX1_join 22 = .ok (.invokestatic 54, 3) := by decide +kernel
theorem dX1_join_25 : decode cX1_join 25 = .ok (.iastore, 1) := by decide +kernel
theorem dX1_join_26 : decode cX1_join 26 = .ok (.aload_n 0, 1) := by decide +kernel
theorem dX1_join_27 : decode cX1_join 27 = .ok (.getfield 15, 3) := by decide +kernel
theorem dX1_join_30 : decode cX1_join 30 = .ok (.iload_n 1, 1) := by decide +kernel
theorem dX1_join_31 : decode cX1_join 31 = .ok (.dup2, 1) := by decide +kernel
theorem dX1_join_32 : decode cX1_join 32 = .ok (.iaload, 1) := by decide +kernel
theorem dX1_join_33 : decode cX1_join 33 = .ok (.iconst 1, 1) := by decide +kernel
theorem dX1_join_34 : decode cX1_join 34 = .ok (.iload_n 2, 1) := by decide +kernel
theorem dX1_join_35 : decode cX1_join 35 = .ok (.ishl, 1) := by decide +kernel
theorem dX1_join_36 : decode cX1_join 36 = .ok (.ior, 1) := by decide +kernel
theorem dX1_join_37 : decode cX1_join 37 = .ok (.iastore, 1) := by decide +kernel
theorem dX1_join_38 : decode cX1_join 38 = .ok (.return_, 1) := by decide +kernel
theorem dX1_step_0 : decode cX1_step 0 = .ok (.aload_n 0, 1) := by decide +kernel
theorem dX1_step_1 : decode cX1_step 1 = .ok (.getfield 9, 3) := by decide +kernel
theorem dX1_step_4 : decode cX1_step 4 = .ok (.iload_n 1, 1) := by decide +kernel
theorem dX1_step_5 : decode cX1_step 5 = .ok (.bipush 8, 2) := by decide +kernel
theorem dX1_step_7 : decode cX1_step 7 = .ok (.imul, 1) := by decide +kernel
theorem dX1_step_8 : decode cX1_step 8 = .ok (.iload_n 2, 1) := by decide +kernel
theorem dX1_step_9 : decode cX1_step 9 = .ok (.iadd, 1) := by decide +kernel
theorem dX1_step_10 : decode cX1_step 10 = .ok (.iaload, 1) := by decide +kernel
theorem dX1_step_11 : decode cX1_step 11 = .ok (.ireturn, 1) := by decide +kernel
theorem dX1_lessen_0 : decode cX1_lessen 0 = .ok (.iload_n 3, 1) := by decide +kernel
theorem dX1_lessen_1 : decode cX1_lessen 1 = .ok (.ifCond .eq 7, 3) := by decide +kernel
theorem dX1_lessen_4 : decode cX1_lessen 4 = .ok (.iconst 1, 1) := by decide +kernel
theorem dX1_lessen_5 : decode cX1_lessen 5 = .ok (.goto 4, 3) := by decide +kernel
theorem dX1_lessen_8 : decode cX1_lessen 8 = .ok (.iconst 0, 1) := by decide +kernel
theorem dX1_lessen_9 : decode cX1_lessen 9 = .ok (.istore 4, 2) := by decide +kernel
theorem dX1_lessen_11 : decode cX1_lessen 11 = .ok (.iconst 0, 1) := by decide +kernel
theorem dX1_lessen_12 : decode cX1_lessen 12 = .ok (.istore 5, 2) := by decide +kernel
theorem dX1_lessen_14 : decode cX1_lessen 14 = .ok (.iload 5, 2) := by decide +kernel
theorem dX1_lessen_16 : decode cX1_lessen 16 = .ok (.bipush 8, 2) := by decide +kernel
theorem dX1_lessen_18 : decode cX1_lessen 18 = .ok (.if_icmp .ge 56, 3) := by decide +kernel
theorem dX1_lessen_21 : decode cX1_lessen 21 = .ok (.iload 4, 2) := by decide +kernel
theorem dX1_lessen_23 : decode cX1_lessen 23 = .ok (.ifCond .eq 51, 3) := by decide +kernel
theorem dX1_lessen_26 : decode cX1_lessen 26 = .ok (.iconst 0, 1) := by decide +kernel
theorem dX1_lessen_27 : decode cX1_lessen 27 = .ok (.istore 4, 2) := by decide +kernel
theorem dX1_lessen_29 : decode cX1_lessen 29 = .ok (.iconst 0, 1) := by decide +kernel
theorem dX1_lessen_30 : decode cX1_lessen 30 = .ok (.istore 6, 2) := by decide +kernel
theorem dX1_lessen_32 : decode cX1_lessen 32 = .ok (.iload 6, 2) := by decide +kernel
theorem dX1_lessen_34 : decode cX1_lessen 34 = .ok (.bipush 8, 2) := by decide +kernel
theorem dX1_lessen_36 : decode cX1_lessen 36 = .ok (.if_icmp .ge 32, 3) := by decide +kernel
theorem dX1_lessen_39 : decode cX1_lessen 39 = .ok (.iload_n 3, 1) := by decide +kernel
theorem dX1_lessen_40 : decode cX1_lessen 40 = .ok (.iload 6, 2) := by decide +kernel
theorem dX1_lessen_42 : decode cX1_lessen 42 = .ok (.invokestatic 60, 3) := by decide +kernel
theorem dX1_lessen_45 : decode cX1_lessen 45 = .ok (.ifCond .eq 17, 3) := by decide +kernel
theorem dX1_lessen_48 : decode cX1_lessen 48 = .ok (.aload_n 0, 1) := by decide +kernel
theorem dX1_lessen_49 : decode cX1_lessen 49 = .ok (.aload_n 1, 1) := by decide +kernel
theorem dX1_lessen_50 : decode cX1_lessen 50 = .ok (.iload_n 2, 1) := by decide +kernel
theorem dX1_lessen_51 : decode cX1_lessen 51 = .ok (.iload 6, 2) := by decide +kernel
theorem dX1_lessen_53 : decode cX1_lessen 53 = .ok (.invokevirtual 64, 3) := by decide +kernel
theorem dX1_lessen_56 : decode cX1_lessen 56 = .ok (.ifCond .eq 6, 3) := by decide +kernel
theorem dX1_lessen_59 : decode cX1_lessen 59 = .ok (.iconst 1, 1) := by decide +kernel
theorem dX1_lessen_60 : decode cX1_lessen 60 = .ok (.istore 4, 2) := by decide +kernel
theorem dX1_lessen_62 : decode cX1_lessen 62 = .ok (.iinc 6 1, 3) := by decide +kernel
theorem dX1_lessen_65 : decode cX1_lessen 65 = .ok (.goto (-33), 3) := by decide +kernel
theorem dX1_lessen_68 : decode cX1_lessen 68 = .ok (.iinc 5 1, 3) := by decide +kernel
theorem dX1_lessen_71 : decode cX1_lessen 71 = .ok (.goto (-57), 3) := by decide +kernel
theorem dX1_lessen_74 : decode cX1_lessen 74 = .ok (.return_, 1) := by decide +kernel
theorem dX1_lessenOne_0 : decode cX1_lessenOne 0 = .ok (.aload_n 1, 1) := by decide +kernel
theorem dX1_lessenOne_1 : decode cX1_lessenOne 1 = .ok (.iload_n 2, 1) := by decide +kernel
theorem dX1_lessenOne_2 : decode cX1_lessenOne 2 = .ok (.iload_n 3, 1) := by decide +kernel
theorem dX1_lessenOne_3 : decode cX1_lessenOne 3 = .ok (.iadd, 1) := by decide +kernel
theorem dX1_lessenOne_4 : decode cX1_lessenOne 4 = .ok (.iaload, 1) := by decide +kernel
theorem dX1_lessenOne_5 : decode cX1_lessenOne 5 = .ok (.istore 4, 2) := by decide +kernel
theorem dX1_lessenOne_7 : decode cX1_lessenOne 7 = .ok (.iconst 0, 1) := by decide +kernel
theorem dX1_lessenOne_8 : decode cX1_lessenOne 8 = .ok (.istore 5, 2) := by decide +kernel
theorem dX1_lessenOne_10 : decode cX1_lessenOne 10 = .ok (.iload 5, 2) := by decide +kernel
theorem dX1_lessenOne_12 : decode cX1_lessenOne 12 = .ok (.bipush 8, 2) := by decide +kernel
theorem dX1_lessenOne_14 : decode cX1_lessenOne 14 = .ok (.if_icmp .ge 44, 3) := by decide +kernel
theorem dX1_lessenOne_17 : decode cX1_lessenOne 17 = .ok (.aload_n 0, 1) := by decide +kernel
theorem dX1_lessenOne_18 : decode cX1_lessenOne 18 = .ok (.getfield 15, 3) := by decide +kernel
theorem dX1_lessenOne_21 : decode cX1_lessenOne 21 = .ok (.iload_n 3, 1) := by decide +kernel
theorem dX1_lessenOne_22 : decode cX1_lessenOne 22 = .ok (.iaload, 1) := by decide +kernel
theorem dX1_lessenOne_23 : decode cX1_lessenOne 23 = .ok (.iload 5, 2) := by decide +kernel
theorem dX1_lessenOne_25 : decode cX1_lessenOne 25 = .ok (.invokestatic 60, 3) := by decide +kernel
theorem dX1_lessenOne_28 : decode cX1_lessenOne 28 = .ok (.ifCond .eq 24, 3) := by decide +kernel
theorem dX1_lessenOne_31 : decode cX1_lessenOne 31 = .ok (.iload 4, 2) := by decide +kernel
theorem dX1_lessenOne_33 : decode cX1_lessenOne 33 = .ok (.aload_n 0, 1) := by decide +kernel
theorem dX1_lessenOne_34 : decode cX1_lessenOne 34 = .ok (.iload_n 3, 1) := by decide +kernel
theorem dX1_lessenOne_35 : decode cX1_lessenOne 35 = .ok (.iload 5, 2) := by decide +kernel
theorem dX1_lessenOne_37 : decode cX1_lessenOne 37 = .ok (.invokevirtual 68, 3) := by decide +kernel
theorem dX1_lessenOne_40 : decode cX1_lessenOne 40 = .ok (.aload_n 1, 1) := by decide +kernel
theorem dX1_lessenOne_41 : decode cX1_lessenOne 41 = .ok (.iload_n 2, 1) := by decide +kernel
theorem dX1_lessenOne_42 : decode cX1_lessenOne 42 = .ok (.iload 5, 2) := by decide +kernel
theorem dX1_lessenOne_44 : decode cX1_lessenOne 44 = .ok (.iadd, 1) := by decide +kernel
theorem dX1_lessenOne_45 : decode cX1_lessenOne 45 = .ok (.iaload, 1) := by decide +kernel
theorem dX1_lessenOne_46 : decode cX1_lessenOne 46 = .ok (.iadd, 1) := by decide +kernel
theorem dX1_lessenOne_47 : decode cX1_lessenOne 47 = .ok (.invokestatic 54, 3) := by decide +kernel
theorem dX1_lessenOne_50 : decode cX1_lessenOne 50 = .ok (.istore 4, 2) := by decide +kernel
theorem dX1_lessenOne_52 : decode cX1_lessenOne 52 = .ok (.iinc 5 1, 3) := by decide +kernel
theorem dX1_lessenOne_55 : decode cX1_lessenOne 55 = .ok (.goto (-45), 3) := by decide +kernel
theorem dX1_lessenOne_58 : decode cX1_lessenOne 58 = .ok (.iload 4, 2) := by decide +kernel
theorem dX1_lessenOne_60 : decode cX1_lessenOne 60 = .ok (.aload_n 1, 1) := by decide +kernel
theorem dX1_lessenOne_61 : decode cX1_lessenOne 61 = .ok (.iload_n 2, 1) := by decide +kernel
theorem dX1_lessenOne_62 : decode cX1_lessenOne 62 = .ok (.iload_n 3, 1) := by decide +kernel
theorem dX1_lessenOne_63 : decode cX1_lessenOne 63 = .ok (.iadd, 1) := by decide +kernel
theorem dX1_lessenOne_64 : decode cX1_lessenOne 64 = .ok (.iaload, 1) := by decide +kernel
theorem dX1_lessenOne_65 : decode cX1_lessenOne 65 = .ok (.if_icmp .ge 7, 3) := by decide +kernel
theorem dX1_lessenOne_68 : decode cX1_lessenOne 68 = .ok (.iconst 1, 1) := by decide +kernel
theorem dX1_lessenOne_69 : decode cX1_lessenOne 69 = .ok (.goto 4, 3) := by decide +kernel
theorem dX1_lessenOne_72 : decode cX1_lessenOne 72 = .ok (.iconst 0, 1) := by decide +kernel
theorem dX1_lessenOne_73 : decode cX1_lessenOne 73 = .ok (.istore 5, 2) := by decide +kernel
theorem dX1_lessenOne_75 : decode cX1_lessenOne 75 = .ok (.aload_n 1, 1) := by decide +kernel
theorem dX1_lessenOne_76 : decode cX1_lessenOne 76 = .ok (.iload_n 2, 1) := by decide +kernel
theorem dX1_lessenOne_77 : decode cX1_lessenOne 77 = .ok (.iload_n 3, 1) := by decide +kernel
theorem dX1_lessenOne_78 : decode cX1_lessenOne 78 = .ok (.iadd, 1) := by decide +kernel
theorem dX1_lessenOne_79 : decode cX1_lessenOne 79 = .ok (.iload 4, 2) := by decide +kernel
theorem dX1_lessenOne_81 : decode cX1_lessenOne 81 = .ok (.iastore, 1) := by decide +kernel
theorem dX1_lessenOne_82 : decode cX1_lessenOne 82 = .ok (.iload 5, 2) := by decide +kernel
theorem dX1_lessenOne_84 : decode cX1_lessenOne 84 = .ok (.ireturn, 1) := by decide +kernel
theorem dX2_init_0 : decode cX2_init 0 = .ok (.aload_n 0, 1) := by decide +kernel
theorem dX2_init_1 : decode cX2_init 1 = .ok (.invokespecial 3, 3) := by decide +kernel
theorem dX2_init_4 : decode cX2_init 4 = .ok (.aload_n 0, 1) := by decide +kernel
theorem dX2_init_5 : decode cX2_init 5 = .ok (.iload_n 1, 1) := by decide +kernel
theorem dX2_init_6 : decode cX2_init 6 = .ok (.putfield 9, 3) := by decide +kernel
theorem dX2_init_9 : decode cX2_init 9 = .ok (.aload_n 0, 1) := by decide +kernel
theorem dX2_init_10 : decode cX2_init 10 = .ok (.iload_n 2, 1) := by decide +kernel
theorem dX2_init_11 : decode cX2_init 11 = .ok (.putfield 15, 3) := by decide +kernel
theorem dX2_init_14 : decode cX2_init 14 = .ok (.aload_n 0, 1) := by decide +kernel
theorem dX2_init_15 : decode cX2_init 15 = .ok (.iload_n 3, 1) := by decide +kernel
theorem dX2_init_16 : decode cX2_init 16 = .ok (.putfield 18, 3) := by decide +kernel
theorem dX2_init_19 : decode cX2_init 19 = .ok (.aload_n 0, 1) := by decide +kernel
theorem dX2_init_20 : decode cX2_init 20 = .ok (.iload 4, 2) := by decide +kernel
theorem dX2_init_22 : decode cX2_init 22 = .ok (.putfield 21, 3) := by decide +kernel
theorem dX2_init_25 : decode cX2_init 25 = .ok (.aload_n 0, 1) := by decide +kernel
theorem dX2_init_26 : decode cX2_init 26 = .ok (.iload 5, 2) := by decide +kernel
theorem dX2_init_28 : decode cX2_init 28 = .ok (.putfield 24, 3) := by decide +kernel
theorem dX2_init_31 : decode cX2_init 31 = .ok (.return_, 1) := by decide +kernel
theorem dX2_isOfKind_0 : decode cX2_isOfKind 0 = .ok (.iload_n 1, 1) := by decide +kernel
theorem dX2_isOfKind_1 : decode cX2_isOfKind 1 = .ok (.aload_n 0, 1) := by decide +kernel
theorem dX2_isOfKind_2 : decode cX2_isOfKind 2 = .ok (.getfield 9, 3) := by decide +kernel
theorem dX2_isOfKind_5 : decode cX2_isOfKind 5 = .ok (.if_icmp .eq 20, 3) := by decide +kernel
theorem dX2_isOfKind_8 : decode cX2_isOfKind 8 = .ok (.iload_n 1, 1) := by decide +kernel
theorem dX2_isOfKind_9 : decode cX2_isOfKind 9 = .ok (.ifCond .eq 16, 3) := by decide +kernel
theorem dX2_isOfKind_12 : decode cX2_isOfKind 12 = .ok (.iload_n 1, 1) := by decide +kernel
theorem dX2_isOfKind_13 : decode cX2_isOfKind 13 = .ok (.iconst 2, 1) := by decide +kernel
theorem dX2_isOfKind_14 : decode cX2_isOfKind 14 = .ok (.if_icmp .ne 15, 3) := by decide +kernel
theorem dX2_isOfKind_17 : decode cX2_isOfKind 17 = .ok (.aload_n 0, 1) := by decide +kernel
theorem dX2_isOfKind_18 : decode cX2_isOfKind 18 = .ok (.getfield 9, 3) := by decide +kernel
theorem dX2_isOfKind_21 : decode cX2_isOfKind 21 = .ok (.iconst 3, 1) := by decide +kernel
theorem dX2_isOfKind_22 : decode cX2_isOfKind 22 = .ok (.if_icmp .ne 7, 3) := by decide +kernel
theorem dX2_isOfKind_25 : decode cX2_isOfKind 25 = .ok (.iconst 1, 1) := by decide +kernel
theorem dX2_isOfKind_26 : decode cX2_isOfKind 26 = .ok (.goto 4, 3) := by decide +kernel
theorem dX2_isOfKind_29 : decode cX2_isOfKind 29 = .ok (.iconst 0, 1) := by decide +kernel
theorem dX2_isOfKind_30 : decode cX2_isOfKind 30 = .ok (.ireturn, 1) := by decide +kernel
theorem dX2_fits_0 : decode cX2_fits 0 = .ok (.aload_n 0, 1) := by decide +kernel
theorem dX2_fits_1 : decode cX2_fits 1 = .ok (.getfield 15, 3) := by decide +kernel
theorem dX2_fits_4 : decode cX2_fits 4 = .ok (.iload_n 1, 1) := by decide +kernel
theorem dX2_fits_5 : decode cX2_fits 5 = .ok (.if_icmp .ne 14, 3) := by decide +kernel
theorem dX2_fits_8 : decode cX2_fits 8 = .ok (.aload_n 0, 1) := by decide +kernel
theorem dX2_fits_9 : decode cX2_fits 9 = .ok (.getfield 24, 3) := by decide +kernel
theorem dX2_fits_12 : decode cX2_fits 12 = .ok (.iload_n 3, 1) := by decide +kernel
theorem dX2_fits_13 : decode cX2_fits 13 = .ok (.ishr, 1) := by decide +kernel
theorem dX2_fits_14 : decode cX2_fits 14 = .ok (.iconst 1, 1) := by decide +kernel
theorem dX2_fits_15 : decode cX2_fits 15 = .ok (.iand, 1) := by decide +kernel
theorem dX2_fits_16 : decode cX2_fits 16 = .ok (.ifCond .ne 5, 3) := by decide +kernel
theorem dX2_fits_19 : decode cX2_fits 19 = .ok (.iconst 0, 1) := by decide +kernel
theorem dX2_fits_20 : decode cX2_fits 20 = .ok (.ireturn, 1) := by decide +kernel
theorem dX2_fits_21 : decode cX2_fits 21 = .ok (.aload_n 0, 1) := by decide +kernel
theorem dX2_fits_22 : decode cX2_fits 22 = .ok (.getfield 9, 3) := by decide +kernel
theorem dX2_fits_25 : decode cX2_fits 25 = .ok (.iconst 2, 1) := by decide +kernel
theorem dX2_fits_26 : decode cX2_fits 26 = .ok (.if_icmp .eq 11, 3) := by decide +kernel
theorem dX2_fits_29 : decode cX2_fits 29 = .ok (.aload_n 0, 1) := by decide +kernel
theorem dX2_fits_30 : decode cX2_fits 30 = .ok (.getfield 9, 3) := by decide +kernel
theorem dX2_fits_33 : decode cX2_fits 33 = .ok (.iconst 3, 1) := by decide +kernel
theorem dX2_fits_34 : decode cX2_fits 34 = .ok (.if_icmp .ne 25, 3) := by decide +kernel
theorem dX2_fits_37 : decode cX2_fits 37 = .ok (.aload_n 0, 1) := by decide +kernel
theorem dX2_fits_38 : decode cX2_fits 38 = .ok (.getfield 21, 3) := by decide +kernel
theorem dX2_fits_41 : decode cX2_fits 41 = .ok (.ifCond .eq 12, 3) := by decide +kernel
theorem dX2_fits_44 : decode cX2_fits 44 = .ok (.aload_n 0, 1) := by decide +kernel
theorem dX2_fits_45 : decode cX2_fits 45 = .ok (.getfield 21, 3) := by decide +kernel
theorem dX2_fits_48 : decode cX2_fits 48 = .ok (.iload_n 2, 1) := by decide +kernel
theorem dX2_fits_49 : decode cX2_fits 49 = .ok (.iand, 1) := by decide +kernel
theorem dX2_fits_50 : decode cX2_fits 50 = .ok (.ifCond .eq 7, 3) := by decide +kernel
theorem dX2_fits_53 : decode cX2_fits 53 = .ok (.iconst 1, 1) := by decide +kernel
theorem dX2_fits_54 : decode cX2_fits 54 = .ok (.goto 4, 3) := by decide +kernel
theorem dX2_fits_57 : decode cX2_fits 57 = .ok (.iconst 0, 1) := by decide +kernel
theorem dX2_fits_58 : decode cX2_fits 58 = .ok (.ireturn, 1) := by decide +kernel
theorem dX2_fits_59 : decode cX2_fits 59 = .ok (.aload_n 0, 1) := by decide +kernel
theorem dX2_fits_60 : decode cX2_fits 60 = .ok (.getfield 21, 3) := by decide +kernel
theorem dX2_fits_63 : decode cX2_fits 63 = .ok (.iload_n 2, 1) := by decide +kernel
theorem dX2_fits_64 : decode cX2_fits 64 = .ok (.iconst (-1), 1) := by decide +kernel
theorem dX2_fits_65 : decode cX2_fits 65 = .ok (.ixor, 1) := by decide +kernel
theorem dX2_fits_66 : decode cX2_fits 66 = .ok (.iand, 1) := by decide +kernel
theorem dX2_fits_67 : decode cX2_fits 67 = .ok (.ifCond .ne 7, 3) := by decide +kernel
theorem dX2_fits_70 : decode cX2_fits 70 = .ok (.iconst 1, 1) := by decide +kernel
theorem dX2_fits_71 : decode cX2_fits 71 = .ok (.goto 4, 3) := by decide +kernel
theorem dX2_fits_74 : decode cX2_fits 74 = .ok (.iconst 0, 1) := by decide +kernel
theorem dX2_fits_75 : decode cX2_fits 75 = .ok (.ireturn, 1) := by decide +kernel
theorem dX3_init_0 : decode cX3_init 0 = .ok (.aload_n 0, 1) := by decide +kernel
theorem dX3_init_1 : decode cX3_init 1 = .ok (.invokespecial 3, 3) := by decide +kernel
theorem dX3_init_4 : decode cX3_init 4 = .ok (.aload_n 0, 1) := by decide +kernel
theorem dX3_init_5 : decode cX3_init 5 = .ok (.iconst 0, 1) := by decide +kernel
theorem dX3_init_6 : decode cX3_init 6 = .ok (.putfield 9, 3) := by decide +kernel
theorem dX3_init_9 : decode cX3_init 9 = .ok (.aload_n 0, 1) := by decide +kernel
theorem dX3_init_10 : decode cX3_init 10 = .ok (.aload_n 1, 1) := by decide +kernel
theorem dX3_init_11 : decode cX3_init 11 = .ok (.putfield 15, 3) := by decide +kernel
theorem dX3_init_14 : decode cX3_init 14 = .ok (.aload_n 0, 1) := by decide +kernel
theorem dX3_init_15 : decode cX3_init 15 = .ok (.iload_n 2, 1) := by decide +kernel
theorem dX3_init_16 : decode cX3_init 16 = .ok (.putfield 19, 3) := by decide +kernel
theorem dX3_init_19 : decode cX3_init 19 = .ok (.return_, 1) := by decide +kernel
theorem dX3_readEdition_0 : decode cX3_readEdition 0 = .ok (.new 22, 3) := by decide +kernel
theorem dX3_readEdition_3 : decode cX3_readEdition 3 = .ok (.dup, 1) := by decide +kernel
theorem dX3_readEdition_4 : decode cX3_readEdition 4 = .ok (.invokespecial 24, 3) := by decide +kernel
theorem dX3_readEdition_7 : decode cX3_readEdition 7 = .ok (.astore_n 1, 1) := by decide +kernel
theorem dX3_readEdition_8 : decode cX3_readEdition 8 = .ok (.iconst 0, 1) := by decide +kernel
theorem dX3_readEdition_9 : decode cX3_readEdition 9 = .ok (.istore_n 2, 1) := by decide +kernel
theorem dX3_readEdition_10 : decode cX3_readEdition 10 = .ok (.iload_n 2, 1) := by decide +kernel
theorem dX3_readEdition_11 : decode cX3_readEdition 11 = .ok (.bipush 12, 2) := by decide +kernel
theorem dX3_readEdition_13 : decode cX3_readEdition 13 = .ok (.if_icmp .ge 41, 3) := by decide +kernel
theorem dX3_readEdition_16 : decode cX3_readEdition 16 = .ok (.aload_n 0, 1) := by decide +kernel
theorem dX3_readEdition_17 : decode cX3_readEdition 17 = .ok (.invokevirtual 25, 3) := by decide +kernel
theorem dX3_readEdition_20 : decode cX3_readEdition 20 = .ok (.astore_n 3, 1) := by decide +kernel
theorem dX3_readEdition_21 : decode cX3_readEdition 21 = .ok (.aload_n 3, 1) := by decide +kernel
theorem dX3_readEdition_22 : decode cX3_readEdition 22 = .ok (.ifnonnull 5, 3) := by decide +kernel
theorem dX3_readEdition_25 : decode cX3_readEdition 25 = .ok (.aconst_null, 1) := by decide +kernel
theorem dX3_readEdition_26 : decode cX3_readEdition 26 = .ok (.areturn, 1) := by decide +kernel
theorem dX3_readEdition_27 : decode cX3_readEdition 27 = .ok (.aload_n 1, 1) := by decide +kernel
theorem dX3_readEdition_28 : decode cX3_readEdition 28 = .ok (.aload_n 3, 1) := by decide +kernel
theorem dX3_readEdition_29 : decode cX3_readEdition 29 = .ok (.invokevirtual 29, 3) := by decide +kernel
theorem dX3_readEdition_32 : decode cX3_readEdition 32 = .ok (.aload_n 0, 1) := by decide +kernel
theorem dX3_readEdition_33 : decode cX3_readEdition 33 = .ok (.getfield 9, 3) := by decide +kernel
theorem dX3_readEdition_36 : decode cX3_readEdition 36 = .ok (.aload_n 0, 1) := by decide +kernel
theorem dX3_readEdition_37 : decode cX3_readEdition 37 = .ok (.getfield 15, 3) := by decide +kernel
theorem dX3_readEdition_40 : decode cX3_readEdition 40 = .ok (.getfield 33, 3) := by decide +kernel
theorem dX3_readEdition_43 : decode cX3_readEdition 43 = .ok (.if_icmp .ne 5, 3) := by decide +kernel
theorem dX3_readEdition_46 : decode cX3_readEdition 46 = .ok (.aload_n 1, 1) := by decide +kernel
theorem dX3_readEdition_47 : decode cX3_readEdition 47 = .ok (.areturn, 1) := by decide +kernel
theorem dX3_readEdition_48 : decode cX3_readEdition 48 = .ok (.iinc 2 1, 3) := by decide +kernel
theorem dX3_readEdition_51 : decode cX3_readEdition 51 = .ok (.goto (-41), 3) := by decide +kernel
theorem dX3_readEdition_54 : decode cX3_readEdition 54 = .ok (.aconst_null, 1) := by decide +kernel
theorem dX3_readEdition_55 : decode cX3_readEdition 55 = .ok (.areturn, 1) := by decide +kernel
theorem dX3_readPiece_0 : decode cX3_readPiece 0 = .ok (.aload_n 0, 1) := by decide +kernel
theorem dX3_readPiece_1 : decode cX3_readPiece 1 = .ok (.bipush 48, 2) := by decide +kernel
theorem dX3_readPiece_3 : decode cX3_readPiece 3 = .ok (.aload_n 0, 1) := by decide +kernel
theorem dX3_readPiece_4 : decode cX3_readPiece 4 = .ok (.getfield 19, 3) := by decide +kernel
theorem dX3_readPiece_7 : decode cX3_readPiece 7 = .ok (.invokevirtual 38, 3) := by decide +kernel
theorem dX3_readPiece_10 : decode cX3_readPiece 10 = .ok (.istore_n 1, 1) := by decide +kernel
theorem dX3_readPiece_11 : decode cX3_readPiece 11 = .ok (.iload_n 1, 1) := by decide +kernel
theorem dX3_readPiece_12 : decode cX3_readPiece 12 = .ok (.ifCond .ge 5, 3) := by decide +kernel
theorem dX3_readPiece_15 : decode cX3_readPiece 15 = .ok (.aconst_null, 1) := by decide +kernel
theorem dX3_readPiece_16 : decode cX3_readPiece 16 = .ok (.areturn, 1) := by decide +kernel
theorem dX3_readPiece_17 : decode cX3_readPiece 17 = .ok (.aload_n 0, 1) := by decide +kernel
theorem dX3_readPiece_18 : decode cX3_readPiece 18 = .ok (.invokevirtual 42, 3) := by decide +kernel
theorem dX3_readPiece_21 : decode cX3_readPiece 21 = .ok (.istore_n 2, 1) := by decide +kernel
theorem dX3_readPiece_22 : decode cX3_readPiece 22 = .ok (.iload_n 2, 1) := by decide +kernel
theorem dX3_readPiece_23 : decode cX3_readPiece 23 = .ok (.ifCond .ge 5, 3) := by decide +kernel
theorem dX3_readPiece_26 : decode cX3_readPiece 26 = .ok (.aconst_null, 1) := by decide +kernel
theorem dX3_readPiece_27 : decode cX3_readPiece 27 = .ok (.areturn, 1) := by decide +kernel
theorem dX3_readPiece_28 : decode cX3_readPiece 28 = .ok (.aload_n 0, 1) := by decide +kernel
theorem dX3_readPiece_29 : decode cX3_readPiece 29 = .ok (.bipush 49, 2) := by decide +kernel
theorem dX3_readPiece_31 : decode cX3_readPiece 31 = .ok (.bipush 9, 2) := by decide +kernel
theorem dX3_readPiece_33 : decode cX3_readPiece 33 = .ok (.invokevirtual 38, 3) := by decide +kernel
theorem dX3_readPiece_36 : decode cX3_readPiece 36 = .ok (.iconst 1, 1) := by decide +kernel
theorem dX3_readPiece_37 : decode cX3_readPiece 37 = .ok (.iadd, 1) := by decide +kernel
theorem dX3_readPiece_38 : decode cX3_readPiece 38 = .ok (.istore_n 3, 1) := by decide +kernel
theorem dX3_readPiece_39 : decode cX3_readPiece 39 = .ok (.iload_n 3, 1) := by decide +kernel
theorem dX3_readPiece_40 : decode cX3_readPiece 40 = .ok (.iconst 1, 1) := by decide +kernel
theorem dX3_readPiece_41 : decode cX3_readPiece 41 = .ok (.if_icmp .ge 5, 3) := by decide +kernel
theorem dX3_readPiece_44 : decode cX3_readPiece 44 = .ok (.aconst_null, 1) := by decide +kernel
theorem dX3_readPiece_45 : decode cX3_readPiece 45 = .ok (.areturn, 1) := by decide +kernel
theorem dX3_readPiece_46 : decode cX3_readPiece 46 = .ok (.aload_n 0, 1) := by decide +kernel
theorem dX3_readPiece_47 : decode cX3_readPiece 47 = .ok (.bipush 97, 2) := by decide +kernel
theorem dX3_readPiece_49 : decode cX3_readPiece 49 = .ok (.bipush 12, 2) := by decide +kernel
theorem dX3_readPiece_51 : decode cX3_readPiece 51 = .ok (.invokevirtual 46, 3) := by decide +kernel
theorem dX3_readPiece_54 : decode cX3_readPiece 54 = .ok (.istore 4, 2) := by decide +kernel
theorem dX3_readPiece_56 : decode cX3_readPiece 56 = .ok (.bipush 127, 2) := by decide +kernel
theorem dX3_readPiece_58 : decode cX3_readPiece 58 = .ok (.istore 5, 2) := by decide +kernel
theorem dX3_readPiece_60 : decode cX3_readPiece 60 = .ok (.iload_n 2, 1) := by decide +kernel
theorem dX3_readPiece_61 : decode cX3_readPiece 61 = .ok (.iconst 1, 1) := by decide +kernel
theorem dX3_readPiece_62 : decode cX3_readPiece 62 = .ok (.if_icmp .ne 22, 3) := by decide +kernel
theorem dX3_readPiece_65 : decode cX3_readPiece 65 = .ok (.aload_n 0, 1) := by decide +kernel
theorem dX3_readPiece_66 : decode cX3_readPiece 66 = .ok (.bipush 64, 2) := by decide +kernel
theorem dX3_readPiece_68 : decode cX3_readPiece 68 = .ok (.invokevirtual 49, 3) := by decide +kernel
theorem dX3_readPiece_71 : decode cX3_readPiece 71 = .ok (.ifCond .eq 13, 3) := by decide +kernel
theorem dX3_readPiece_74 : decode cX3_readPiece 74 = .ok (.aload_n 0, 1) := by decide +kernel
theorem dX3_readPiece_75 : decode cX3_readPiece 75 = .ok (.bipush 48, 2) := by decide +kernel
theorem dX3_readPiece_77 : decode cX3_readPiece 77 = .ok (.bipush 7, 2) := by decide +kernel
theorem dX3_readPiece_79 : decode cX3_readPiece 79 = .ok (.invokevirtual 46, 3) := by decide +kernel
theorem dX3_readPiece_82 : decode cX3_readPiece 82 = .ok (.istore 5, 2) := by decide +kernel
theorem dX3_readPiece_84 : decode cX3_readPiece 84 = .ok (.iload 5, 2) := by decide +kernel
theorem dX3_readPiece_86 : decode cX3_readPiece 86 = .ok (.ifCond .eq 12, 3) := by decide +kernel
theorem dX3_readPiece_89 : decode cX3_readPiece 89 = .ok (.aload_n 0, 1) := by decide +kernel
theorem dX3_readPiece_90 : decode cX3_readPiece 90 = .ok (.bipush 59, 2) := by decide +kernel
theorem dX3_readPiece_92 : decode cX3_readPiece 92 = .ok (.invokevirtual 49, 3) := by decide +kernel
theorem dX3_readPiece_95 : decode cX3_readPiece 95 = .ok (.ifCond .ne 5, 3) := by decide +kernel
theorem dX3_readPiece_98 : decode cX3_readPiece 98 = .ok (.aconst_null, 1) := by decide +kernel
theorem dX3_readPiece_99 : decode cX3_readPiece 99 = .ok (.areturn, 1) := by decide +kernel
theorem dX3_readPiece_100 : decode cX3_readPiece 100 = .ok (.new 53, 3) := by decide +kernel
theorem dX3_readPiece_103 : decode cX3_readPiece 103 = .ok (.dup, 1) := by decide +kernel
theorem dX3_readPiece_104 : decode cX3_readPiece 104 = .ok (.iload_n 2, 1) := by decide +kernel
theorem dX3_readPiece_105 : decode cX3_readPiece 105 = .ok (.iload_n 1, 1) := by decide +kernel
theorem dX3_readPiece_106 : decode cX3_readPiece 106 = .ok (.iload_n 3, 1) := by decide +kernel
theorem dX3_readPiece_107 : decode cX3_readPiece 107 = .ok (.iload 4, 2) := by decide +kernel
theorem dX3_readPiece_109 : decode cX3_readPiece 109 = .ok (.iload 5, 2) := by decide +kernel
theorem dX3_readPiece_111 : decode cX3_readPiece 111 = .ok (.invokespecial 55, 3) := by decide +kernel
theorem dX3_readPiece_114 : decode cX3_readPiece 114 = .ok (.areturn, 1) := by decide +kernel
theorem dX3_takeSign_0 : decode cX3_takeSign 0 = .ok (.aload_n 0, 1) := by decide +kernel
theorem dX3_takeSign_1 : decode cX3_takeSign 1 = .ok (.iload_n 1, 1) := by decide +kernel
theorem dX3_takeSign_2 : decode cX3_takeSign 2 = .ok (.iconst 1, 1) := by decide +kernel
theorem dX3_takeSign_3 : decode cX3_takeSign 3 = .ok (.invokevirtual 38, 3) := by decide +kernel
theorem dX3_takeSign_6 : decode cX3_takeSign 6 = .ok (.ifCond .ne 7, 3) := by decide +kernel
theorem dX3_takeSign_9 : decode cX3_takeSign 9 = .ok (.iconst 1, 1) := by decide +kernel
theorem dX3_takeSign_10 : decode cX3_takeSign 10 = .ok (.goto 4, 3) := by decide +kernel
theorem dX3_takeSign_13 : decode cX3_takeSign 13 = .ok (.iconst 0, 1) := by decide +kernel
theorem dX3_takeSign_14 : decode cX3_takeSign 14 = .ok (.ireturn, 1) := by decide +kernel
theorem dX3_takeKind_0 : decode cX3_takeKind 0 = .ok (.aload_n 0, 1) := by decide +kernel
theorem dX3_takeKind_1 : decode cX3_takeKind 1 = .ok (.getfield 15, 3) := by decide +kernel
theorem dX3_takeKind_4 : decode cX3_takeKind 4 = .ok (.aload_n 0, 1) := by decide +kernel
theorem dX3_takeKind_5 : decode cX3_takeKind 5 = .ok (.getfield 9, 3) := by decide +kernel
theorem dX3_takeKind_8 : decode cX3_takeKind 8 = .ok (.invokevirtual 58, 3) := by decide +kernel
theorem dX3_takeKind_11 : decode cX3_takeKind 11 = .ok (.istore_n 1, 1) := by decide +kernel
theorem dX3_takeKind_12 : decode cX3_takeKind 12 = .ok (.iconst 0, 1) := by decide +kernel
theorem dX3_takeKind_13 : decode cX3_takeKind 13 = .ok (.istore_n 2, 1) := by decide +kernel
theorem dX3_takeKind_14 : decode cX3_takeKind 14 = .ok (.iload_n 2, 1) := by decide +kernel
theorem dX3_takeKind_15 : decode cX3_takeKind 15 = .ok (.ldc 62, 2) := by decide +kernel
theorem dX3_takeKind_17 : decode cX3_takeKind 17 = .ok (.invokevirtual 64, 3) := by decide +kernel
theorem dX3_takeKind_20 : decode cX3_takeKind 20 = .ok (.if_icmp .ge 31, 3) := by decide +kernel
theorem dX3_takeKind_23 : decode cX3_takeKind 23 = .ok (.ldc 62, 2) := by decide +kernel
theorem dX3_takeKind_25 : decode cX3_takeKind 25 = .ok (.iload_n 2, 1) := by decide +kernel
theorem dX3_takeKind_26 : decode cX3_takeKind 26 = .ok (.invokevirtual 68, 3) := by decide +kernel
theorem dX3_takeKind_29 : decode cX3_takeKind 29 = .ok (.iload_n 1, 1) := by decide +kernel
theorem dX3_takeKind_30 : decode cX3_takeKind 30 = .ok (.if_icmp .ne 15, 3) := by decide +kernel
theorem dX3_takeKind_33 : decode cX3_takeKind 33 = .ok (.aload_n 0, 1) := by decide +kernel
theorem dX3_takeKind_34 : decode cX3_takeKind 34 = .ok (.dup, 1) := by decide +kernel
theorem dX3_takeKind_35 : decode cX3_takeKind 35 = .ok (.getfield 9, 3) := by decide +kernel
theorem dX3_takeKind_38 : decode cX3_takeKind 38 = .ok (.iconst 1, 1) := by decide +kernel
theorem dX3_takeKind_39 : decode cX3_takeKind 39 = .ok (.iadd, 1) := by decide +kernel
theorem dX3_takeKind_40 : decode cX3_takeKind 40 = .ok (.putfield 9, 3) := by decide +kernel
theorem dX3_takeKind_43 : decode cX3_takeKind 43 = .ok (.iload_n 2, 1) := by decide +kernel
theorem dX3_takeKind_44 : decode cX3_takeKind 44 = .ok (.ireturn, 1) := by decide +kernel
theorem dX3_takeKind_45 : decode cX3_takeKind 45 = .ok (.iinc 2 1, 3) := by decide +kernel
theorem dX3_takeKind_48 : decode cX3_takeKind 48 = .ok (.goto (-34), 3) := by decide +kernel
theorem dX3_takeKind_51 : decode cX3_takeKind 51 = .ok (.iconst (-1), 1) := by decide +kernel
theorem dX3_takeKind_52 : decode cX3_takeKind 52 = .ok (.ireturn, 1) := by decide +kernel
theorem dX3_takeOneOf_0 : decode cX3_takeOneOf 0 = .ok (.aload_n 0, 1) := by decide +kernel
theorem dX3_takeOneOf_1 : decode cX3_takeOneOf 1 = .ok (.getfield 15, 3) := by decide +kernel
theorem dX3_takeOneOf_4 : decode cX3_takeOneOf 4 = .ok (.aload_n 0, 1) := by decide +kernel
theorem dX3_takeOneOf_5 : decode cX3_takeOneOf 5 = .ok (.getfield 9, 3) := by decide +kernel
theorem dX3_takeOneOf_8 : decode cX3_takeOneOf 8 = .ok (.invokevirtual 58, 3) := by decide +kernel
theorem dX3_takeOneOf_11 : decode cX3_takeOneOf 11 = .ok (.iload_n 1, 1) := by decide +kernel
theorem dX3_takeOneOf_12 : decode cX3_takeOneOf 12 = .ok (.isub, 1) := by decide +kernel
theorem dX3_takeOneOf_13 : decode cX3_takeOneOf 13 = .ok (.istore_n 3, 1) := by decide +kernel
theorem dX3_takeOneOf_14 : decode cX3_takeOneOf 14 = .ok (.iload_n 3, 1) := by decide +kernel
theorem dX3_takeOneOf_15 : decode cX3_takeOneOf 15 = .ok (.iconst 0, 1) := by decide +kernel
theorem dX3_takeOneOf_16 : decode cX3_takeOneOf 16 = .ok (.iload_n 2, 1) := by decide +kernel
theorem dX3_takeOneOf_17 : decode cX3_takeOneOf 17 = .ok (.iconst 1, 1) := by decide +kernel
theorem dX3_takeOneOf_18 : decode cX3_takeOneOf 18 = .ok (.isub, 1) := by decide +kernel
theorem dX3_takeOneOf_19 : decode cX3_takeOneOf 19 = .ok (.invokestatic 72, 3) := by decide +kernel
theorem dX3_takeOneOf_22 : decode cX3_takeOneOf 22 = .ok (.ifCond .ne 5, 3) := by decide +kernel
theorem dX3_takeOneOf_25 : decode cX3_takeOneOf 25 = .ok (.iconst (-1), 1) := by decide +kernel
theorem dX3_takeOneOf_26 : decode cX3_takeOneOf 26 = .ok (.ireturn, 1) := by decide +kernel
theorem dX3_takeOneOf_27 : decode cX3_takeOneOf 27 = .ok (.aload_n 0, 1) := by decide +kernel
theorem dX3_takeOneOf_28 : decode cX3_takeOneOf 28 = .ok (.dup, 1) := by decide +kernel
theorem dX3_takeOneOf_29 : decode cX3_takeOneOf 29 = .ok (.getfield 9, 3) := by decide +kernel
theorem dX3_takeOneOf_32 : decode cX3_takeOneOf 32 = .ok (.iconst 1, 1) := by decide +kernel
theorem dX3_takeOneOf_33 : decode cX3_takeOneOf 33 = .ok (.iadd, 1) := by decide +kernel
theorem dX3_takeOneOf_34 : decode cX3_takeOneOf 34 = .ok (.putfield 9, 3) := by decide +kernel
theorem dX3_takeOneOf_37 : decode cX3_takeOneOf 37 = .ok (.iload_n 3, 1) := by decide +kernel
theorem dX3_takeOneOf_38 : decode cX3_takeOneOf 38 = .ok (.ireturn, 1) := by decide +kernel
theorem dX3_takeRising_0 : decode cX3_takeRising 0 = .ok (.iconst 0, 1) := by decide +kernel
theorem dX3_takeRising_1 : decode cX3_takeRising 1 = .ok (.istore_n 3, 1) := by decide +kernel
theorem dX3_takeRising_2 : decode cX3_takeRising 2 = .ok (.iconst 0, 1) := by decide +kernel
theorem dX3_takeRising_3 : decode cX3_takeRising 3 = .ok (.istore 4, 2) := by decide +kernel
theorem dX3_takeRising_5 : decode cX3_takeRising 5 = .ok (.iconst 0, 1) := by decide +kernel
theorem dX3_takeRising_6 : decode cX3_takeRising 6 = .ok (.istore 5, 2) := by decide +kernel
theorem dX3_takeRising_8 : decode cX3_takeRising 8 = .ok (.iload 5, 2) := by decide +kernel
theorem dX3_takeRising_10 : decode cX3_takeRising 10 = .ok (.iload_n 2, 1) := by decide +kernel
theorem dX3_takeRising_11 : decode cX3_takeRising 11 = .ok (.if_icmp .ge 63, 3) := by decide +kernel
theorem dX3_takeRising_14 : decode cX3_takeRising 14 = .ok (.aload_n 0, 1) := by decide +kernel
theorem dX3_takeRising_15 : decode cX3_takeRising 15 = .ok (.getfield 15, 3) := by decide +kernel
theorem dX3_takeRising_18 : decode cX3_takeRising 18 = .ok (.aload_n 0, 1) := by decide +kernel
theorem dX3_takeRising_19 : decode cX3_takeRising 19 = .ok (.getfield 9, 3) := by decide +kernel
theorem dX3_takeRising_22 : decode cX3_takeRising 22 = .ok (.invokevirtual 58, 3) := by decide +kernel
theorem dX3_takeRising_25 : decode cX3_takeRising 25 = .ok (.iload_n 1, 1) := by decide +kernel
theorem dX3_takeRising_26 : decode cX3_takeRising 26 = .ok (.isub, 1) := by decide +kernel
theorem dX3_takeRising_27 : decode cX3_takeRising 27 = .ok (.istore 6, 2) := by decide +kernel
theorem dX3_takeRising_29 : decode cX3_takeRising 29 = .ok (.iload 6, 2) := by decide +kernel
theorem dX3_takeRising_31 : decode cX3_takeRising 31 = .ok (.iload 4, 2) := by decide +kernel
theorem dX3_takeRising_33 : decode cX3_takeRising 33 = .ok (.iload_n 2, 1) := by decide +kernel
theorem dX3_takeRising_34 : decode cX3_takeRising 34 = .ok (.iconst 1, 1) := by decide +kernel
theorem dX3_takeRising_35 : decode cX3_takeRising 35 = .ok (.isub, 1) := by decide +kernel
theorem dX3_takeRising_36 : decode cX3_takeRising 36 = .ok (.invokestatic 72, 3) := by decide +kernel
theorem dX3_takeRising_39 : decode cX3_takeRising 39 = .ok (.ifCond .ne 6, 3) := by decide +kernel
theorem dX3_takeRising_42 : decode cX3_takeRising 42 = .ok (.goto 32, 3) := by decide +kernel
theorem dX3_takeRising_45 : decode cX3_takeRising 45 = .ok (.iload_n 3, 1) := by decide +kernel
theorem dX3_takeRising_46 : decode cX3_takeRising 46 = .ok (.iconst 1, 1) := by decide +kernel
theorem dX3_takeRising_47 : decode cX3_takeRising 47 = .ok (.iload 6, 2) := by decide +kernel
theorem dX3_takeRising_49 : decode cX3_takeRising 49 = .ok (.ishl, 1) := by decide +kernel
theorem dX3_takeRising_50 : decode cX3_takeRising 50 = .ok (.ior, 1) := by decide +kernel
theorem dX3_takeRising_51 : decode cX3_takeRising 51 = .ok (.istore_n 3, 1) := by decide +kernel
theorem dX3_takeRising_52 : decode cX3_takeRising 52 = .ok (.iload 6, 2) := by decide +kernel
theorem dX3_takeRising_54 : decode cX3_takeRising 54 = .ok (.iconst 1, 1) := by decide +kernel
theorem dX3_takeRising_55 : decode cX3_takeRising 55 = .ok (.iadd, 1) := by decide +kernel
theorem dX3_takeRising_56 : decode cX3_takeRising 56 = .ok (.istore 4, 2) := by decide +kernel
theorem dX3_takeRising_58 : decode cX3_takeRising 58 = .ok (.aload_n 0, 1) := by decide +kernel
theorem dX3_takeRising_59 : decode cX3_takeRising 59 = .ok (.dup, 1) := by decide +kernel
theorem dX3_takeRising_60 : decode cX3_takeRising 60 = .ok (.getfield 9, 3) := by decide +kernel
theorem dX3_takeRising_63 : decode cX3_takeRising 63 = .ok (.iconst 1, 1) := by decide +kernel
theorem dX3_takeRising_64 : decode cX3_takeRising 64 = .ok (.iadd, 1) := by decide +kernel
theorem dX3_takeRising_65 : decode cX3_takeRising 65 = .ok (.putfield 9, 3) := by decide +kernel
theorem dX3_takeRising_68 : decode cX3_takeRising 68 = .ok (.iinc 5 1, 3) := by decide +kernel
theorem dX3_takeRising_71 : decode cX3_takeRising 71 = .ok (.goto (-63), 3) := by decide +kernel
theorem dX3_takeRising_74 : decode cX3_takeRising 74 = .ok (.iload_n 3, 1) := by decide +kernel
theorem dX3_takeRising_75 : decode cX3_takeRising 75 = .ok (.ireturn, 1) := by decide +kernel
theorem dX4_init_0 : decode cX4_init 0 = .ok (.aload_n 0, 1) := by decide +kernel
theorem dX4_init_1 : decode cX4_init 1 = .ok (.invokespecial 3, 3) := by decide +kernel
theorem dX4_init_4 : decode cX4_init 4 = .ok (.aload_n 0, 1) := by decide +kernel
theorem dX4_init_5 : decode cX4_init 5 = .ok (.new 9, 3) := by decide +kernel
theorem dX4_init_8 : decode cX4_init 8 = .ok (.dup, 1) := by decide +kernel
theorem dX4_init_9 : decode cX4_init 9 = .ok (.invokespecial 11, 3) := by decide +kernel
theorem dX4_init_12 : decode cX4_init 12 = .ok (.putfield 12, 3) := by decide +kernel
theorem dX4_init_15 : decode cX4_init 15 = .ok (.aload_n 0, 1) := by decide +kernel
theorem dX4_init_16 : decode cX4_init 16 = .ok (.bipush 8, 2) := by decide +kernel
theorem dX4_init_18 : decode cX4_init 18 = .ok (.newarray .int, 2) := by decide +kernel
theorem dX4_init_20 : decode cX4_init 20 = .ok (.putfield 18, 3) := by decide +kernel
theorem dX4_init_23 : decode cX4_init 23 = .ok (.aload_n 0, 1) := by decide +kernel
theorem dX4_init_24 : decode cX4_init 24 = .ok (.iconst 1, 1) := by decide +kernel
theorem dX4_init_25 : decode cX4_init 25 = .ok (.newarray .int, 2) := by decide +kernel
theorem dX4_init_27 : decode cX4_init 27 = .ok (.putfield 22, 3) := by decide +kernel
theorem dX4_init_30 : decode cX4_init 30 = .ok (.aload_n 0, 1) := by decide +kernel
theorem dX4_init_31 : decode cX4_init 31 = .ok (.bipush 8, 2) := by decide +kernel
theorem dX4_init_33 : decode cX4_init 33 = .ok (.newarray .int, 2) := by decide +kernel
theorem dX4_init_35 : decode cX4_init 35 = .ok (.putfield 25, 3) := by decide +kernel
theorem dX4_init_38 : decode cX4_init 38 = .ok (.aload_n 0, 1) := by decide +kernel
theorem dX4_init_39 : decode cX4_init 39 = .ok (.new 28, 3) := by decide +kernel
theorem dX4_init_42 : decode cX4_init 42 = .ok (.dup, 1) := by decide +kernel
theorem dX4_init_43 : decode cX4_init 43 = .ok (.invokespecial 30, 3) := by decide +kernel
theorem dX4_init_46 : decode cX4_init 46 = .ok (.putfield 31, 3) := by decide +kernel
theorem dX4_init_49 : decode cX4_init 49 = .ok (.aload_n 0, 1) := by decide +kernel
theorem dX4_init_50 : decode cX4_init 50 = .ok (.iconst 0, 1) := by decide +kernel
theorem dX4_init_51 : decode cX4_init 51 = .ok (.putfield 35, 3) := by decide +kernel
theorem dX4_init_54 : decode cX4_init 54 = .ok (.aload_n 0, 1) := by decide +kernel
theorem dX4_init_55 : decode cX4_init 55 = .ok (.iconst 0, 1) := by decide +kernel
theorem dX4_init_56 : decode cX4_init 56 = .ok (.putfield 39, 3) := by decide +kernel
theorem dX4_init_59 : decode cX4_init 59 = .ok (.aload_n 0, 1) := by decide +kernel
theorem dX4_init_60 : decode cX4_init 60 = .ok (.iconst 1, 1) := by decide +kernel
theorem dX4_init_61 : decode cX4_init 61 = .ok (.putfield 42, 3) := by decide +kernel
theorem dX4_init_64 : decode cX4_init 64 = .ok (.return_, 1) := by decide +kernel
theorem dX4_distance_0 : decode cX4_distance 0 = .ok (.aload_n 0, 1) := by decide +kernel
theorem dX4_distance_1 : decode cX4_distance 1 = .ok (.getfield 12, 3) := by decide +kernel
theorem dX4_distance_4 : decode cX4_distance 4 = .ok (.aload_n 1, 1) := by decide +kernel
theorem dX4_distance_5 : decode cX4_distance 5 = .ok (.iload 4, 2) := by decide +kernel
theorem dX4_distance_7 : decode cX4_distance 7 = .ok (.iload 5, 2) := by decide +kernel
theorem dX4_distance_9 : decode cX4_distance 9 = .ok (.invokevirtual 45, 3) := by decide +kernel
theorem dX4_distance_12 : decode cX4_distance 12 = .ok (.aload_n 0, 1) := by decide +kernel
theorem dX4_distance_13 : decode cX4_distance 13 = .ok (.getfield 18, 3) := by decide +kernel
theorem dX4_distance_16 : decode cX4_distance 16 = .ok (.ldc 49, 2) := by decide +kernel
theorem dX4_distance_18 : decode cX4_distance 18 = .ok (.invokestatic 50, 3) := by decide +kernel
theorem dX4_distance_21 : decode cX4_distance 21 = .ok (.aload_n 0, 1) := by decide +kernel
theorem dX4_distance_22 : decode cX4_distance 22 = .ok (.getfield 18, 3) := by decide +kernel
theorem dX4_distance_25 : decode cX4_distance 25 = .ok (.iload_n 3, 1) := by decide +kernel
theorem dX4_distance_26 : decode cX4_distance 26 = .ok (.iconst 0, 1) := by decide +kernel
theorem dX4_distance_27 : decode cX4_distance 27 = .ok (.iastore, 1) := by decide +kernel
theorem dX4_distance_28 : decode cX4_distance 28 = .ok (.aload_n 0, 1) := by decide +kernel
theorem dX4_distance_29 : decode cX4_distance 29 = .ok (.getfield 12, 3) := by decide +kernel
theorem dX4_distance_32 : decode cX4_distance 32 = .ok (.aload_n 0, 1) := by decide +kernel
theorem dX4_distance_33 : decode cX4_distance 33 = .ok (.getfield 18, 3) := by decide +kernel
theorem dX4_distance_36 : decode cX4_distance 36 = .ok (.iconst 0, 1) := by decide +kernel
theorem dX4_distance_37 : decode cX4_distance 37 = .ok (.iconst 1, 1) := by decide +kernel
theorem dX4_distance_38 : decode cX4_distance 38 = .ok (.iload_n 3, 1) := by decide +kernel
theorem dX4_distance_39 : decode cX4_distance 39 = .ok (.ishl, 1) := by decide +kernel
theorem dX4_distance_40 : decode cX4_distance 40 = .ok (.iconst (-1), 1) := by decide +kernel
theorem dX4_distance_41 : decode cX4_distance 41 = .ok (.ixor, 1) := by decide +kernel
theorem dX4_distance_42 : decode cX4_distance 42 = .ok (.invokevirtual 56, 3) := by decide +kernel
theorem dX4_distance_45 : decode cX4_distance 45 = .ok (.aload_n 0, 1) := by decide +kernel
theorem dX4_distance_46 : decode cX4_distance 46 = .ok (.getfield 18, 3) := by decide +kernel
theorem dX4_distance_49 : decode cX4_distance 49 = .ok (.iload_n 2, 1) := by decide +kernel
theorem dX4_distance_50 : decode cX4_distance 50 = .ok (.iaload, 1) := by decide +kernel
theorem dX4_distance_51 : decode cX4_distance 51 = .ok (.ireturn, 1) := by decide +kernel
theorem dX4_explore_0 : decode cX4_explore 0 = .ok (.aload_n 0, 1) := by decide +kernel
theorem dX4_explore_1 : decode cX4_explore 1 = .ok (.getfield 12, 3) := by decide +kernel
theorem dX4_explore_4 : decode cX4_explore 4 = .ok (.aload_n 1, 1) := by decide +kernel
theorem dX4_explore_5 : decode cX4_explore 5 = .ok (.iload 5, 2) := by decide +kernel
theorem dX4_explore_7 : decode cX4_explore 7 = .ok (.iload 6, 2) := by decide +kernel
theorem dX4_explore_9 : decode cX4_explore 9 = .ok (.invokevirtual 45, 3) := by decide +kernel
theorem dX4_explore_12 : decode cX4_explore 12 = .ok (.aload_n 0, 1) := by decide +kernel
theorem dX4_explore_13 : decode cX4_explore 13 = .ok (.aload_n 2, 1) := by decide +kernel
theorem dX4_explore_14 : decode cX4_explore 14 = .ok (.putfield 31, 3) := by decide +kernel
theorem dX4_explore_17 : decode cX4_explore 17 = .ok (.aload_n 0, 1) := by decide +kernel
theorem dX4_explore_18 : decode cX4_explore 18 = .ok (.iload 5, 2) := by decide +kernel
theorem dX4_explore_20 : decode cX4_explore 20 = .ok (.putfield 35, 3) := by decide +kernel
theorem dX4_explore_23 : decode cX4_explore 23 = .ok (.aload_n 0, 1) := by decide +kernel
theorem dX4_explore_24 : decode cX4_explore 24 = .ok (.iload 4, 2) := by decide +kernel
theorem dX4_explore_26 : decode cX4_explore 26 = .ok (.putfield 39, 3) := by decide +kernel
theorem dX4_explore_29 : decode cX4_explore 29 = .ok (.aload_n 0, 1) := by decide +kernel
theorem dX4_explore_30 : decode cX4_explore 30 = .ok (.iconst 1, 1) := by decide +kernel
theorem dX4_explore_31 : decode cX4_explore 31 = .ok (.aload_n 2, 1) := by decide +kernel
theorem dX4_explore_32 : decode cX4_explore 32 = .ok (.getfield 60, 3) := by decide +kernel
theorem dX4_explore_35 : decode cX4_explore 35 = .ok (.ishl, 1) := by decide +kernel
theorem dX4_explore_36 : decode cX4_explore 36 = .ok (.putfield 42, 3) := by decide +kernel
theorem dX4_explore_39 : decode cX4_explore 39 = .ok (.aload_n 0, 1) := by decide +kernel
theorem dX4_explore_40 : decode cX4_explore 40 = .ok (.invokevirtual 63, 3) := by decide +kernel
theorem dX4_explore_43 : decode cX4_explore 43 = .ok (.aload_n 0, 1) := by decide +kernel
theorem dX4_explore_44 : decode cX4_explore 44 = .ok (.getfield 22, 3) := by decide +kernel
theorem dX4_explore_47 : decode cX4_explore 47 = .ok (.iload 4, 2) := by decide +kernel
theorem dX4_explore_49 : decode cX4_explore 49 = .ok (.iconst 1, 1) := by decide +kernel
theorem dX4_explore_50 : decode cX4_explore 50 = .ok (.iload_n 3, 1) := by decide +kernel
theorem dX4_explore_51 : decode cX4_explore 51 = .ok (.ishl, 1) := by decide +kernel
theorem dX4_explore_52 : decode cX4_explore 52 = .ok (.iastore, 1) := by decide +kernel
theorem dX4_explore_53 : decode cX4_explore 53 = .ok (.aload_n 0, 1) := by decide +kernel
theorem dX4_explore_54 : decode cX4_explore 54 = .ok (.getfield 39, 3) := by decide +kernel
theorem dX4_explore_57 : decode cX4_explore 57 = .ok (.istore 7, 2) := by decide +kernel
theorem dX4_explore_59 : decode cX4_explore 59 = .ok (.iload 7, 2) := by decide +kernel
theorem dX4_explore_61 : decode cX4_explore 61 = .ok (.aload_n 0, 1) := by decide +kernel
theorem dX4_explore_62 : decode cX4_explore 62 = .ok (.getfield 42, 3) := by decide +kernel
theorem dX4_explore_65 : decode cX4_explore 65 = .ok (.if_icmp .ge 15, 3) := by decide +kernel
theorem dX4_explore_68 : decode cX4_explore 68 = .ok (.aload_n 0, 1) := by decide +kernel
theorem dX4_explore_69 : decode cX4_explore 69 = .ok (.iload 7, 2) := by decide +kernel
theorem dX4_explore_71 : decode cX4_explore 71 = .ok (.invokevirtual 66, 3) := by decide +kernel
theorem dX4_explore_74 : decode cX4_explore 74 = .ok (.iinc 7 1, 3) := by decide +kernel
theorem dX4_explore_77 : decode cX4_explore 77 = .ok (.goto (-18), 3) := by decide +kernel
theorem dX4_explore_80 : decode cX4_explore 80 = .ok (.aload_n 0, 1) := by decide +kernel
theorem dX4_explore_81 : decode cX4_explore 81 = .ok (.getfield 42, 3) := by decide +kernel
theorem dX4_explore_84 : decode cX4_explore 84 = .ok (.iconst 1, 1) := by decide +kernel
theorem dX4_explore_85 : decode cX4_explore 85 = .ok (.isub, 1) := by decide +kernel
theorem dX4_explore_86 : decode cX4_explore 86 = .ok (.istore 7, 2) := by decide +kernel
theorem dX4_explore_88 : decode cX4_explore 88 = .ok (.iload 7, 2) := by decide +kernel
theorem dX4_explore_90 : decode cX4_explore 90 = .ok (.aload_n 0, 1) := by decide +kernel
theorem dX4_explore_91 : decode cX4_explore 91 = .ok (.getfield 39, 3) := by decide +kernel
theorem dX4_explore_94 : decode cX4_explore 94 = .ok (.if_icmp .lt 15, 3) := by decide +kernel
theorem dX4_explore_97 : decode cX4_explore 97 = .ok (.aload_n 0, 1) := by decide +kernel
theorem dX4_explore_98 : decode cX4_explore 98 = .ok (.iload 7, 2) := by decide +kernel
theorem dX4_explore_100 : decode cX4_explore 100 = .ok (.invokevirtual 70, 3) := by decide +kernel
theorem dX4_explore_103 : decode cX4_explore 103 = .ok (.iinc 7 (-1), 3) := by decide +kernel
theorem dX4_explore_106 : decode cX4_explore 106 = .ok (.goto (-18), 3) := by decide +kernel
theorem dX4_explore_109 : decode cX4_explore 109 = .ok (.return_, 1) := by decide +kernel
theorem dX4_clearReached_0 : decode cX4_clearReached 0 = .ok (.aload_n 0, 1) := by decide +kernel
theorem dX4_clearReached_1 : decode cX4_clearReached 1 = .ok (.getfield 22, 3) := by decide +kernel
theorem dX4_clearReached_4 : decode cX4_clearReached 4 = .ok (.arraylength, 1) := by decide +kernel
theorem dX4_clearReached_5 : decode cX4_clearReached 5 = .ok (.aload_n 0, 1) := by decide +kernel
theorem dX4_clearReached_6 : decode cX4_clearReached 6 = .ok (.getfield 42, 3) := by decide +kernel
theorem dX4_clearReached_9 : decode cX4_clearReached 9 = .ok (.if_icmp .ge 26, 3) := by decide +kernel
theorem dX4_clearReached_12 : decode cX4_clearReached 12 = .ok (.aload_n 0, 1) := by decide +kernel
theorem dX4_clearReached_13 : decode cX4_clearReached 13 = .ok (.aload_n 0, 1) := by decide +kernel
theorem dX4_clearReached_14 : decode cX4_clearReached 14 = .ok (.getfield 42, 3) := by decide +kernel
theorem dX4_clearReached_17 : decode cX4_clearReached 17 = .ok (.newarray .int, 2) := by decide +kernel
theorem dX4_clearReached_19 : decode cX4_clearReached 19 = .ok (.putfield 22, 3) := by decide +kernel
theorem dX4_clearReached_22 : decode cX4_clearReached 22 = .ok (.aload_n 0, 1) := by decide +kernel
theorem dX4_clearReached_23 : decode cX4_clearReached 23 = .ok (.aload_n 0, 1) := by decide +kernel
theorem dX4_clearReached_24 : decode cX4_clearReached 24 = .ok (.getfield 42, 3) := by decide +kernel
theorem dX4_clearReached_27 : decode cX4_clearReached 27 = .ok (.bipush 8, 2) := by decide +kernel
theorem dX4_clearReached_29 : decode cX4_clearReached 29 = .ok (.imul, 1) := by decide +kernel
theorem dX4_clearReached_30 : decode cX4_clearReached 30 = .ok (.newarray .int, 2) := by decide +kernel
theorem dX4_clearReached_32 : decode cX4_clearReached 32 = .ok (.putfield 25, 3) := by decide +kernel
theorem dX4_clearReached_35 : decode cX4_clearReached 35 = .ok (.iconst 0, 1) := by decide +kernel
theorem dX4_clearReached_36 : decode cX4_clearReached 36 = .ok (.istore_n 1, 1) := by decide +kernel
theorem dX4_clearReached_37 : decode cX4_clearReached 37 = .ok (.iload_n 1, 1) := by decide +kernel
theorem dX4_clearReached_38 : decode cX4_clearReached 38 = .ok (.aload_n 0, 1) := by decide +kernel
theorem dX4_clearReached_39 : decode cX4_clearReached 39 = .ok (.getfield 42, 3) := by decide +kernel
theorem dX4_clearReached_42 : decode cX4_clearReached 42 = .ok (.if_icmp .ge 16, 3) := by decide +kernel
theorem dX4_clearReached_45 : decode cX4_clearReached 45 = .ok (.aload_n 0, 1) := by decide +kernel
theorem dX4_clearReached_46 : decode cX4_clearReached 46 = .ok (.getfield 22, 3) := by decide +kernel
theorem dX4_clearReached_49 : decode cX4_clearReached 49 = .ok (.iload_n 1, 1) := by decide +kernel
theorem dX4_clearReached_50 : decode cX4_clearReached 50 = .ok (.iconst 0, 1) := by decide +kernel
theorem dX4_clearReached_51 : decode cX4_clearReached 51 = .ok (.iastore, 1) := by decide +kernel
theorem dX4_clearReached_52 : decode cX4_clearReached 52 = .ok (.iinc 1 1, 3) := by decide +kernel
theorem dX4_clearReached_55 : decode cX4_clearReached 55 = .ok (.goto (-18), 3) := by decide +kernel
theorem dX4_clearReached_58 : decode cX4_clearReached 58 = .ok (.return_, 1) := by decide +kernel
theorem dX4_reachFrom_0 : decode cX4_reachFrom 0 = .ok (.aload_n 0, 1) := by decide +kernel
theorem dX4_reachFrom_1 : decode cX4_reachFrom 1 = .ok (.getfield 31, 3) := by decide +kernel
theorem dX4_reachFrom_4 : decode cX4_reachFrom 4 = .ok (.iload_n 1, 1) := by decide +kernel
theorem dX4_reachFrom_5 : decode cX4_reachFrom 5 = .ok (.invokevirtual 73, 3) := by decide +kernel
theorem dX4_reachFrom_8 : decode cX4_reachFrom 8 = .ok (.ifCond .eq 4, 3) := by decide +kernel
theorem dX4_reachFrom_11 : decode cX4_reachFrom 11 = .ok (.return_, 1) := by decide +kernel
theorem dX4_reachFrom_12 : decode cX4_reachFrom 12 = .ok (.iconst 0, 1) := by decide +kernel
theorem dX4_reachFrom_13 : decode cX4_reachFrom 13 = .ok (.istore_n 2, 1) := by decide +kernel
theorem dX4_reachFrom_14 : decode cX4_reachFrom 14 = .ok (.iconst 0, 1) := by decide +kernel
theorem dX4_reachFrom_15 : decode cX4_reachFrom 15 = .ok (.istore_n 3, 1) := by decide +kernel
theorem dX4_reachFrom_16 : decode cX4_reachFrom 16 = .ok (.iload_n 3, 1) := by decide +kernel
theorem dX4_reachFrom_17 : decode cX4_reachFrom 17 = .ok (.bipush 8, 2) := by decide +kernel
theorem dX4_reachFrom_19 : decode cX4_reachFrom 19 = .ok (.if_icmp .ge 67, 3) := by decide +kernel
theorem dX4_reachFrom_22 : decode cX4_reachFrom 22 = .ok (.iload_n 2, 1) := by decide +kernel
theorem dX4_reachFrom_23 : decode cX4_reachFrom 23 = .ok (.aload_n 0, 1) := by decide +kernel
theorem dX4_reachFrom_24 : decode cX4_reachFrom 24 = .ok (.getfield 22, 3) := by decide +kernel
theorem dX4_reachFrom_27 : decode cX4_reachFrom 27 = .ok (.iload_n 1, 1) := by decide +kernel
theorem dX4_reachFrom_28 : decode cX4_reachFrom 28 = .ok (.iaload, 1) := by decide +kernel
theorem dX4_reachFrom_29 : decode cX4_reachFrom 29 = .ok (.if_icmp .eq 57, 3) := by decide +kernel
theorem dX4_reachFrom_32 : decode cX4_reachFrom 32 = .ok (.iconst 0, 1) := by decide +kernel
theorem dX4_reachFrom_33 : decode cX4_reachFrom 33 = .ok (.istore 4, 2) := by decide +kernel
theorem dX4_reachFrom_35 : decode cX4_reachFrom 35 = .ok (.iload 4, 2) := by decide +kernel
theorem dX4_reachFrom_37 : decode cX4_reachFrom 37 = .ok (.bipush 8, 2) := by decide +kernel
theorem dX4_reachFrom_39 : decode cX4_reachFrom 39 = .ok (.if_icmp .ge 41, 3) := by decide +kernel
theorem dX4_reachFrom_42 : decode cX4_reachFrom 42 = .ok (.aload_n 0, 1) := by decide +kernel
theorem dX4_reachFrom_43 : decode cX4_reachFrom 43 = .ok (.getfield 22, 3) := by decide +kernel
theorem dX4_reachFrom_46 : decode cX4_reachFrom 46 = .ok (.iload_n 1, 1) := by decide +kernel
theorem dX4_reachFrom_47 : decode cX4_reachFrom 47 = .ok (.iaload, 1) := by decide +kernel
theorem dX4_reachFrom_48 : decode cX4_reachFrom 48 = .ok (.iload_n 2, 1) := by decide +kernel
theorem dX4_reachFrom_49 : decode cX4_reachFrom 49 = .ok (.iconst (-1), 1) := by decide +kernel
theorem dX4_reachFrom_50 : decode cX4_reachFrom 50 = .ok (.ixor, 1) := by decide +kernel
theorem dX4_reachFrom_51 : decode cX4_reachFrom 51 = .ok (.iand, 1) := by decide +kernel
theorem dX4_reachFrom_52 : decode cX4_reachFrom 52 = .ok (.iload 4, 2) := by decide +kernel
theorem dX4_reachFrom_54 : decode cX4_reachFrom 54 = .ok (.invokestatic 77, 3) := by decide +kernel
theorem dX4_reachFrom_57 : decode cX4_reachFrom 57 = .ok (.ifCond .eq 17, 3) := by decide +kernel
theorem dX4_reachFrom_60 : decode cX4_reachFrom 60 = .ok (.iload_n 2, 1) := by decide +kernel
theorem dX4_reachFrom_61 : decode cX4_reachFrom 61 = .ok (.iconst 1, 1) := by decide +kernel
theorem dX4_reachFrom_62 : decode cX4_reachFrom 62 = .ok (.iload 4, 2) := by decide +kernel
theorem dX4_reachFrom_64 : decode cX4_reachFrom 64 = .ok (.ishl, 1) := by decide +kernel
theorem dX4_reachFrom_65 : decode cX4_reachFrom 65 = .ok (.ior, 1) := by decide +kernel
theorem dX4_reachFrom_66 : decode cX4_reachFrom 66 = .ok (.istore_n 2, 1) := by decide +kernel
theorem dX4_reachFrom_67 : decode cX4_reachFrom 67 = .ok (.aload_n 0, 1) := by decide +kernel
theorem dX4_reachFrom_68 : decode cX4_reachFrom 68 = .ok (.iload_n 1, 1) := by decide +kernel
theorem dX4_reachFrom_69 : decode cX4_reachFrom 69 = .ok (.iload 4, 2) := by decide +kernel
theorem dX4_reachFrom_71 : decode cX4_reachFrom 71 = .ok (.invokevirtual 81, 3) := by decide +kernel
theorem dX4_reachFrom_74 : decode cX4_reachFrom 74 = .ok (.iinc 4 1, 3) := by decide +kernel
theorem dX4_reachFrom_77 : decode cX4_reachFrom 77 = .ok (.goto (-42), 3) := by decide +kernel
theorem dX4_reachFrom_80 : decode cX4_reachFrom 80 = .ok (.iinc 3 1, 3) := by decide +kernel
theorem dX4_reachFrom_83 : decode cX4_reachFrom 83 = .ok (.goto (-67), 3) := by decide +kernel
theorem dX4_reachFrom_86 : decode cX4_reachFrom 86 = .ok (.return_, 1) := by decide +kernel
theorem dX4_reachNext_0 : decode cX4_reachNext 0 = .ok (.aload_n 0, 1) := by decide +kernel
theorem dX4_reachNext_1 : decode cX4_reachNext 1 = .ok (.getfield 31, 3) := by decide +kernel
theorem dX4_reachNext_4 : decode cX4_reachNext 4 = .ok (.iconst 0, 1) := by decide +kernel
theorem dX4_reachNext_5 : decode cX4_reachNext 5 = .ok (.iload_n 2, 1) := by decide +kernel
theorem dX4_reachNext_6 : decode cX4_reachNext 6 = .ok (.iload_n 1, 1) := by decide +kernel
theorem dX4_reachNext_7 : decode cX4_reachNext 7 = .ok (.aload_n 0, 1) := by decide +kernel
theorem dX4_reachNext_8 : decode cX4_reachNext 8 = .ok (.getfield 35, 3) := by decide +kernel
theorem dX4_reachNext_11 : decode cX4_reachNext 11 = .ok (.invokevirtual 85, 3) := by decide +kernel
theorem dX4_reachNext_14 : decode cX4_reachNext 14 = .ok (.istore_n 3, 1) := by decide +kernel
theorem dX4_reachNext_15 : decode cX4_reachNext 15 = .ok (.iload_n 3, 1) := by decide +kernel
theorem dX4_reachNext_16 : decode cX4_reachNext 16 = .ok (.ifCond .lt 22, 3) := by decide +kernel
theorem dX4_reachNext_19 : decode cX4_reachNext 19 = .ok (.aload_n 0, 1) := by decide +kernel
theorem dX4_reachNext_20 : decode cX4_reachNext 20 = .ok (.getfield 22, 3) := by decide +kernel
theorem dX4_reachNext_23 : decode cX4_reachNext 23 = .ok (.iload_n 1, 1) := by decide +kernel
theorem dX4_reachNext_24 : decode cX4_reachNext 24 = .ok (.iconst 1, 1) := by decide +kernel
theorem dX4_reachNext_25 : decode cX4_reachNext 25 = .ok (.iload_n 3, 1) := by decide +kernel
theorem dX4_reachNext_26 : decode cX4_reachNext 26 = .ok (.ishl, 1) := by decide +kernel
theorem dX4_reachNext_27 : decode cX4_reachNext 27 = .ok (.ior, 1) := by decide +kernel
theorem dX4_reachNext_28 : decode cX4_reachNext 28 = .ok (.dup2, 1) := by decide +kernel
theorem dX4_reachNext_29 : decode cX4_reachNext 29 = .ok (.iaload, 1) := by decide +kernel
theorem dX4_reachNext_30 : decode cX4_reachNext 30 = .ok (.iconst 1, 1) := by decide +kernel
theorem dX4_reachNext_31 : decode cX4_reachNext 31 = .ok (.iload_n 2, 1) := by decide +kernel
theorem dX4_reachNext_32 : decode cX4_reachNext 32 = .ok (.ishl, 1) := by decide +kernel
theorem dX4_reachNext_33 : decode cX4_reachNext 33 = .ok (.ior, 1) := by decide +kernel
theorem dX4_reachNext_34 : decode cX4_reachNext 34 = .ok (.iastore, 1) := by decide +kernel
theorem dX4_reachNext_35 : decode cX4_reachNext 35 = .ok (.goto 21, 3) := by decide +kernel
theorem dX4_reachNext_38 : decode cX4_reachNext 38 = .ok (.aload_n 0, 1) := by decide +kernel
theorem dX4_reachNext_39 : decode cX4_reachNext 39 = .ok (.getfield 22, 3) := by decide +kernel
theorem dX4_reachNext_42 : decode cX4_reachNext 42 = .ok (.iload_n 1, 1) := by decide +kernel
theorem dX4_reachNext_43 : decode cX4_reachNext 43 = .ok (.dup2, 1) := by decide +kernel
theorem dX4_reachNext_44 : decode cX4_reachNext 44 = .ok (.iaload, 1) := by decide +kernel
theorem dX4_reachNext_45 : decode cX4_reachNext 45 = .ok (.aload_n 0, 1) := by decide +kernel
theorem dX4_reachNext_46 : decode cX4_reachNext 46 = .ok (.getfield 12, 3) := by decide +kernel
theorem dX4_reachNext_49 : decode cX4_reachNext 49 = .ok (.getfield 89, 3) := by decide +kernel
theorem dX4_reachNext_52 : decode cX4_reachNext 52 = .ok (.iload_n 2, 1) := by decide +kernel
theorem dX4_reachNext_53 : decode cX4_reachNext 53 = .ok (.iaload, 1) := by decide +kernel
theorem dX4_reachNext_54 : decode cX4_reachNext 54 = .ok (.ior, 1) := by decide +kernel
theorem dX4_reachNext_55 : decode cX4_reachNext 55 = .ok (.iastore, 1) := by decide +kernel
theorem dX4_reachNext_56 : decode cX4_reachNext 56 = .ok (.return_, 1) := by decide +kernel
theorem dX4_timeSet_0 : decode cX4_timeSet 0 = .ok (.iconst 0, 1) := by decide +kernel
theorem dX4_timeSet_1 : decode cX4_timeSet 1 = .ok (.istore_n 2, 1) := by decide +kernel
theorem dX4_timeSet_2 : decode cX4_timeSet 2 = .ok (.iconst 0, 1) := by decide +kernel
theorem dX4_timeSet_3 : decode cX4_timeSet 3 = .ok (.istore_n 3, 1) := by decide +kernel
theorem dX4_timeSet_4 : decode cX4_timeSet 4 = .ok (.iload_n 3, 1) := by decide +kernel
theorem dX4_timeSet_5 : decode cX4_timeSet 5 = .ok (.bipush 8, 2) := by decide +kernel
theorem dX4_timeSet_7 : decode cX4_timeSet 7 = .ok (.if_icmp .ge 58, 3) := by decide +kernel
theorem dX4_timeSet_10 : decode cX4_timeSet 10 = .ok (.aload_n 0, 1) := by decide +kernel
theorem dX4_timeSet_11 : decode cX4_timeSet 11 = .ok (.getfield 22, 3) := by decide +kernel
theorem dX4_timeSet_14 : decode cX4_timeSet 14 = .ok (.iload_n 1, 1) := by decide +kernel
theorem dX4_timeSet_15 : decode cX4_timeSet 15 = .ok (.iaload, 1) := by decide +kernel
theorem dX4_timeSet_16 : decode cX4_timeSet 16 = .ok (.iload_n 3, 1) := by decide +kernel
theorem dX4_timeSet_17 : decode cX4_timeSet 17 = .ok (.invokestatic 77, 3) := by decide +kernel
theorem dX4_timeSet_20 : decode cX4_timeSet 20 = .ok (.ifCond .eq 39, 3) := by decide +kernel
theorem dX4_timeSet_23 : decode cX4_timeSet 23 = .ok (.aload_n 0, 1) := by decide +kernel
theorem dX4_timeSet_24 : decode cX4_timeSet 24 = .ok (.iload_n 1, 1) := by decide +kernel
theorem dX4_timeSet_25 : decode cX4_timeSet 25 = .ok (.iload_n 3, 1) := by decide +kernel
theorem dX4_timeSet_26 : decode cX4_timeSet 26 = .ok (.invokevirtual 92, 3) := by decide +kernel
theorem dX4_timeSet_29 : decode cX4_timeSet 29 = .ok (.istore 4, 2) := by decide +kernel
theorem dX4_timeSet_31 : decode cX4_timeSet 31 = .ok (.iload 4, 2) := by decide +kernel
theorem dX4_timeSet_33 : decode cX4_timeSet 33 = .ok (.ifCond .ge 13, 3) := by decide +kernel
theorem dX4_timeSet_36 : decode cX4_timeSet 36 = .ok (.iload_n 2, 1) := by decide +kernel
theorem dX4_timeSet_37 : decode cX4_timeSet 37 = .ok (.iconst 1, 1) := by decide +kernel
theorem dX4_timeSet_38 : decode cX4_timeSet 38 = .ok (.iload_n 3, 1) := by decide +kernel
theorem dX4_timeSet_39 : decode cX4_timeSet 39 = .ok (.ishl, 1) := by decide +kernel
theorem dX4_timeSet_40 : decode cX4_timeSet 40 = .ok (.ior, 1) := by decide +kernel
theorem dX4_timeSet_41 : decode cX4_timeSet 41 = .ok (.istore_n 2, 1) := by decide +kernel
theorem dX4_timeSet_42 : decode cX4_timeSet 42 = .ok (.ldc 49, 2) := by decide +kernel
theorem dX4_timeSet_44 : decode cX4_timeSet 44 = .ok (.istore 4, 2) := by decide +kernel
theorem dX4_timeSet_46 : decode cX4_timeSet 46 = .ok (.aload_n 0, 1) := by decide +kernel
theorem dX4_timeSet_47 : decode cX4_timeSet 47 = .ok (.getfield 25, 3) := by decide +kernel
theorem dX4_timeSet_50 : decode cX4_timeSet 50 = .ok (.iload_n 1, 1) := by decide +kernel
theorem dX4_timeSet_51 : decode cX4_timeSet 51 = .ok (.bipush 8, 2) := by decide +kernel
theorem dX4_timeSet_53 : decode cX4_timeSet 53 = .ok (.imul, 1) := by decide +kernel
theorem dX4_timeSet_54 : decode cX4_timeSet 54 = .ok (.iload_n 3, 1) := by decide +kernel
theorem dX4_timeSet_55 : decode cX4_timeSet 55 = .ok (.iadd, 1) := by decide +kernel
theorem dX4_timeSet_56 : decode cX4_timeSet 56 = .ok (.iload 4, 2) := by decide +kernel
theorem dX4_timeSet_58 : decode cX4_timeSet 58 = .ok (.iastore, 1) := by decide +kernel
theorem dX4_timeSet_59 : decode cX4_timeSet 59 = .ok (.iinc 3 1, 3) := by decide +kernel
theorem dX4_timeSet_62 : decode cX4_timeSet 62 = .ok (.goto (-58), 3) := by decide +kernel
theorem dX4_timeSet_65 : decode cX4_timeSet 65 = .ok (.aload_n 0, 1) := by decide +kernel
theorem dX4_timeSet_66 : decode cX4_timeSet 66 = .ok (.getfield 12, 3) := by decide +kernel
theorem dX4_timeSet_69 : decode cX4_timeSet 69 = .ok (.aload_n 0, 1) := by decide +kernel
theorem dX4_timeSet_70 : decode cX4_timeSet 70 = .ok (.getfield 25, 3) := by decide +kernel
theorem dX4_timeSet_73 : decode cX4_timeSet 73 = .ok (.iload_n 1, 1) := by decide +kernel
theorem dX4_timeSet_74 : decode cX4_timeSet 74 = .ok (.bipush 8, 2) := by decide +kernel
theorem dX4_timeSet_76 : decode cX4_timeSet 76 = .ok (.imul, 1) := by decide +kernel
theorem dX4_timeSet_77 : decode cX4_timeSet 77 = .ok (.iload_n 2, 1) := by decide +kernel
theorem dX4_timeSet_78 : decode cX4_timeSet 78 = .ok (.invokevirtual 56, 3) := by decide +kernel
theorem dX4_timeSet_81 : decode cX4_timeSet 81 = .ok (.return_, 1) := by decide +kernel
theorem dX4_timeToldHere_0 : decode cX4_timeToldHere 0 = .ok (.aload_n 0, 1) := by decide +kernel
theorem dX4_timeToldHere_1 : decode cX4_timeToldHere 1 = .ok (.getfield 31, 3) := by decide +kernel
theorem dX4_timeToldHere_4 : decode cX4_timeToldHere 4 = .ok (.iload_n 1, 1) := by decide +kernel
theorem dX4_timeToldHere_5 : decode cX4_timeToldHere 5 = .ok (.invokevirtual 73, 3) := by decide +kernel
theorem dX4_timeToldHere_8 : decode cX4_timeToldHere 8 = .ok (.ifCond .eq 5, 3) := by decide +kernel
theorem dX4_timeToldHere_11 : decode cX4_timeToldHere 11 = .ok (.iconst 0, 1) := by decide +kernel
theorem dX4_timeToldHere_12 : decode cX4_timeToldHere 12 = .ok (.ireturn, 1) := by decide +kernel
theorem dX4_timeToldHere_13 : decode cX4_timeToldHere 13 = .ok (.aload_n 0, 1) := by decide +kernel
theorem dX4_timeToldHere_14 : decode cX4_timeToldHere 14 = .ok (.getfield 31, 3) := by decide +kernel
theorem dX4_timeToldHere_17 : decode cX4_timeToldHere 17 = .ok (.iconst 0, 1) := by decide +kernel
theorem dX4_timeToldHere_18 : decode cX4_timeToldHere 18 = .ok (.iload_n 2, 1) := by decide +kernel
theorem dX4_timeToldHere_19 : decode cX4_timeToldHere 19 = .ok (.iload_n 1, 1) := by decide +kernel
theorem dX4_timeToldHere_20 : decode cX4_timeToldHere 20 = .ok (.aload_n 0, 1) := by decide +kernel
theorem dX4_timeToldHere_21 : decode cX4_timeToldHere 21 = .ok (.getfield 35, 3) := by decide +kernel
theorem dX4_timeToldHere_24 : decode cX4_timeToldHere 24 = .ok (.invokevirtual 85, 3) := by decide +kernel
theorem dX4_timeToldHere_27 : decode cX4_timeToldHere 27 = .ok (.istore_n 3, 1) := by decide +kernel
theorem dX4_timeToldHere_28 : decode cX4_timeToldHere 28 = .ok (.aload_n 0, 1) := by decide +kernel
theorem dX4_timeToldHere_29 : decode cX4_timeToldHere 29 = .ok (.getfield 31, 3) := by decide +kernel
theorem dX4_timeToldHere_32 : decode cX4_timeToldHere 32 = .ok (.iload_n 3, 1) := by decide +kernel
theorem dX4_timeToldHere_33 : decode cX4_timeToldHere 33 = .ok (.invokevirtual 96, 3) := by decide +kernel
theorem dX4_timeToldHere_36 : decode cX4_timeToldHere 36 = .ok (.astore 4, 2) := by decide +kernel
theorem dX4_timeToldHere_38 : decode cX4_timeToldHere 38 = .ok (.aload 4, 2) := by decide +kernel
theorem dX4_timeToldHere_40 : decode cX4_timeToldHere 40 = .ok (.ifnonnull 5, 3) := by decide +kernel
theorem dX4_timeToldHere_43 : decode cX4_timeToldHere 43 = .ok (.iconst (-1), 1) := by decide +kernel
theorem dX4_timeToldHere_44 : decode cX4_timeToldHere 44 = .ok (.ireturn, 1) := by decide +kernel
theorem dX4_timeToldHere_45 : decode cX4_timeToldHere 45 = .ok (.ldc 49, 2) := by decide +kernel
theorem dX4_timeToldHere_47 : decode cX4_timeToldHere 47 = .ok (.aload 4, 2) := by decide +kernel
theorem dX4_timeToldHere_49 : decode cX4_timeToldHere 49 = .ok (.getfield 100, 3) := by decide +kernel
theorem dX4_timeToldHere_52 : decode cX4_timeToldHere 52 = .ok (.aload_n 0, 1) := by decide +kernel
theorem dX4_timeToldHere_53 : decode cX4_timeToldHere 53 = .ok (.iload_n 2, 1) := by decide +kernel
theorem dX4_timeToldHere_54 : decode cX4_timeToldHere 54 = .ok (.iload_n 1, 1) := by decide +kernel
theorem dX4_timeToldHere_55 : decode cX4_timeToldHere 55 = .ok (.iconst 1, 1) := by decide +kernel
theorem dX4_timeToldHere_56 : decode cX4_timeToldHere 56 = .ok (.iload_n 3, 1) := by decide +kernel
theorem dX4_timeToldHere_57 : decode cX4_timeToldHere 57 = .ok (.ishl, 1) := by decide +kernel
theorem dX4_timeToldHere_58 : decode cX4_timeToldHere 58 = .ok (.ior, 1) := by decide +kernel
theorem dX4_timeToldHere_59 : decode cX4_timeToldHere 59 = .ok (.invokevirtual 105, 3) := by decide +kernel
theorem dX4_timeToldHere_62 : decode cX4_timeToldHere 62 = .ok (.iadd, 1) := by decide +kernel
theorem dX4_timeToldHere_63 : decode cX4_timeToldHere 63 = .ok (.invokestatic 108, 3) := by decide +kernel
theorem dX4_timeToldHere_66 : decode cX4_timeToldHere 66 = .ok (.ireturn, 1) := by decide +kernel
theorem dX4_timeFrom_0 : decode cX4_timeFrom 0 = .ok (.aload_n 0, 1) := by decide +kernel
theorem dX4_timeFrom_1 : decode cX4_timeFrom 1 = .ok (.getfield 25, 3) := by decide +kernel
theorem dX4_timeFrom_4 : decode cX4_timeFrom 4 = .ok (.iload_n 2, 1) := by decide +kernel
theorem dX4_timeFrom_5 : decode cX4_timeFrom 5 = .ok (.bipush 8, 2) := by decide +kernel
theorem dX4_timeFrom_7 : decode cX4_timeFrom 7 = .ok (.imul, 1) := by decide +kernel
theorem dX4_timeFrom_8 : decode cX4_timeFrom 8 = .ok (.iload_n 1, 1) := by decide +kernel
theorem dX4_timeFrom_9 : decode cX4_timeFrom 9 = .ok (.iadd, 1) := by decide +kernel
theorem dX4_timeFrom_10 : decode cX4_timeFrom 10 = .ok (.iaload, 1) := by decide +kernel
theorem dX4_timeFrom_11 : decode cX4_timeFrom 11 = .ok (.ireturn, 1) := by decide +kernel
theorem dX4_timeBy_0 : decode cX4_timeBy 0 = .ok (.aload_n 0, 1) := by decide +kernel
theorem dX4_timeBy_1 : decode cX4_timeBy 1 = .ok (.getfield 12, 3) := by decide +kernel
theorem dX4_timeBy_4 : decode cX4_timeBy 4 = .ok (.getfield 89, 3) := by decide +kernel
theorem dX4_timeBy_7 : decode cX4_timeBy 7 = .ok (.iload_n 1, 1) := by decide +kernel
theorem dX4_timeBy_8 : decode cX4_timeBy 8 = .ok (.iaload, 1) := by decide +kernel
theorem dX4_timeBy_9 : decode cX4_timeBy 9 = .ok (.iload_n 2, 1) := by decide +kernel
theorem dX4_timeBy_10 : decode cX4_timeBy 10 = .ok (.invokestatic 77, 3) := by decide +kernel
theorem dX4_timeBy_13 : decode cX4_timeBy 13 = .ok (.ifCond .ne 6, 3) := by decide +kernel
theorem dX4_timeBy_16 : decode cX4_timeBy 16 = .ok (.ldc 49, 2) := by decide +kernel
theorem dX4_timeBy_18 : decode cX4_timeBy 18 = .ok (.ireturn, 1) := by decide +kernel
theorem dX4_timeBy_19 : decode cX4_timeBy 19 = .ok (.ldc 49, 2) := by decide +kernel
theorem dX4_timeBy_21 : decode cX4_timeBy 21 = .ok (.aload_n 0, 1) := by decide +kernel
theorem dX4_timeBy_22 : decode cX4_timeBy 22 = .ok (.getfield 12, 3) := by decide +kernel
theorem dX4_timeBy_25 : decode cX4_timeBy 25 = .ok (.iload_n 1, 1) := by decide +kernel
theorem dX4_timeBy_26 : decode cX4_timeBy 26 = .ok (.iload_n 2, 1) := by decide +kernel
theorem dX4_timeBy_27 : decode cX4_timeBy 27 = .ok (.invokevirtual 113, 3) := by decide +kernel
theorem dX4_timeBy_30 : decode cX4_timeBy 30 = .ok (.aload_n 0, 1) := by decide +kernel
theorem dX4_timeBy_31 : decode cX4_timeBy 31 = .ok (.iload_n 2, 1) := by decide +kernel
theorem dX4_timeBy_32 : decode cX4_timeBy 32 = .ok (.iload_n 3, 1) := by decide +kernel
theorem dX4_timeBy_33 : decode cX4_timeBy 33 = .ok (.invokevirtual 105, 3) := by decide +kernel
theorem dX4_timeBy_36 : decode cX4_timeBy 36 = .ok (.iadd, 1) := by decide +kernel
theorem dX4_timeBy_37 : decode cX4_timeBy 37 = .ok (.invokestatic 108, 3) := by decide +kernel
theorem dX4_timeBy_40 : decode cX4_timeBy 40 = .ok (.ireturn, 1) := by decide +kernel
theorem dX4_countMoments_0 : decode cX4_countMoments 0 = .ok (.iconst 0, 1) := by decide +kernel
theorem dX4_countMoments_1 : decode cX4_countMoments 1 = .ok (.istore_n 1, 1) := by decide +kernel
theorem dX4_countMoments_2 : decode cX4_countMoments 2 = .ok (.aload_n 0, 1) := by decide +kernel
theorem dX4_countMoments_3 : decode cX4_countMoments 3 = .ok (.getfield 39, 3) := by decide +kernel
theorem dX4_countMoments_6 : decode cX4_countMoments 6 = .ok (.istore_n 2, 1) := by decide +kernel
theorem dX4_countMoments_7 : decode cX4_countMoments 7 = .ok (.iload_n 2, 1) := by decide +kernel
theorem dX4_countMoments_8 : decode cX4_countMoments 8 = .ok (.aload_n 0, 1) := by decide +kernel
theorem dX4_countMoments_9 : decode cX4_countMoments 9 = .ok (.getfield 42, 3) := by decide +kernel
theorem dX4_countMoments_12 : decode cX4_countMoments 12 = .ok (.if_icmp .ge 21, 3) := by decide +kernel
theorem dX4_countMoments_15 : decode cX4_countMoments 15 = .ok (.iload_n 1, 1) := by decide +kernel
theorem dX4_countMoments_16 : decode cX4_countMoments 16 = .ok (.aload_n 0, 1) := by decide +kernel
theorem dX4_countMoments_17 : decode cX4_countMoments 17 = .ok (.getfield 22, 3) := by decide +kernel
theorem dX4_countMoments_20 : decode cX4_countMoments 20 = .ok (.iload_n 2, 1) := by decide +kernel
theorem dX4_countMoments_21 : decode cX4_countMoments 21 = .ok (.iaload, 1) := by decide +kernel
theorem dX4_countMoments_22 : decode cX4_countMoments 22 = .ok (.invokestatic 116, 3) := by decide +kernel
theorem dX4_countMoments_25 : decode cX4_countMoments 25 = .ok (.iadd, 1) := by decide +kernel
theorem dX4_countMoments_26 : decode cX4_countMoments 26 = .ok (.istore_n 1, 1) := by decide +kernel
theorem dX4_countMoments_27 : decode cX4_countMoments 27 = .ok (.iinc 2 1, 3) := by decide +kernel
theorem dX4_countMoments_30 : decode cX4_countMoments 30 = .ok (.goto (-23), 3) := by decide +kernel
theorem dX4_countMoments_33 : decode cX4_countMoments 33 = .ok (.iload_n 1, 1) := by decide +kernel
theorem dX4_countMoments_34 : decode cX4_countMoments 34 = .ok (.ireturn, 1) := by decide +kernel
theorem dX4_countDeadEnds_0 : decode cX4_countDeadEnds 0 = .ok (.iconst 0, 1) := by decide +kernel
theorem dX4_countDeadEnds_1 : decode cX4_countDeadEnds 1 = .ok (.istore_n 1, 1) := by decide +kernel
theorem dX4_countDeadEnds_2 : decode cX4_countDeadEnds 2 = .ok (.aload_n 0, 1) := by decide +kernel
theorem dX4_countDeadEnds_3 : decode cX4_countDeadEnds 3 = .ok (.getfield 39, 3) := by decide +kernel
theorem dX4_countDeadEnds_6 : decode cX4_countDeadEnds 6 = .ok (.istore_n 2, 1) := by decide +kernel
theorem dX4_countDeadEnds_7 : decode cX4_countDeadEnds 7 = .ok (.iload_n 2, 1) := by decide +kernel
theorem dX4_countDeadEnds_8 : decode cX4_countDeadEnds 8 = .ok (.aload_n 0, 1) := by decide +kernel
theorem dX4_countDeadEnds_9 : decode cX4_countDeadEnds 9 = .ok (.getfield 42, 3) := by decide +kernel
theorem dX4_countDeadEnds_12 : decode cX4_countDeadEnds 12 = .ok (.if_icmp .ge 50, 3) := by decide +kernel
theorem dX4_countDeadEnds_15 : decode cX4_countDeadEnds 15 = .ok (.iconst 0, 1) := by decide +kernel
theorem dX4_countDeadEnds_16 : decode cX4_countDeadEnds 16 = .ok (.istore_n 3, 1) := by decide +kernel
theorem dX4_countDeadEnds_17 : decode cX4_countDeadEnds 17 = .ok (.iload_n 3, 1) := by decide +kernel
theorem dX4_countDeadEnds_18 : decode cX4_countDeadEnds 18 = .ok (.bipush 8, 2) := by decide +kernel
theorem dX4_countDeadEnds_20 : decode cX4_countDeadEnds 20 = .ok (.if_icmp .ge 36, 3) := by decide +kernel
theorem dX4_countDeadEnds_23 : decode cX4_countDeadEnds 23 = .ok (.aload_n 0, 1) := by decide +kernel
theorem dX4_countDeadEnds_24 : decode cX4_countDeadEnds 24 = .ok (.getfield 22, 3) := by decide +kernel
theorem dX4_countDeadEnds_27 : decode cX4_countDeadEnds 27 = .ok (.iload_n 2, 1) := by decide +kernel
theorem dX4_countDeadEnds_28 : decode cX4_countDeadEnds 28 = .ok (.iaload, 1) := by decide +kernel
theorem dX4_countDeadEnds_29 : decode cX4_countDeadEnds 29 = .ok (.iload_n 3, 1) := by decide +kernel
theorem dX4_countDeadEnds_30 : decode cX4_countDeadEnds 30 = .ok (.invokestatic 77, 3) := by decide +kernel
theorem dX4_countDeadEnds_33 : decode cX4_countDeadEnds 33 = .ok (.ifCond .eq 17, 3) := by decide +kernel
theorem dX4_countDeadEnds_36 : decode cX4_countDeadEnds 36 = .ok (.aload_n 0, 1) := by decide +kernel
theorem dX4_countDeadEnds_37 : decode cX4_countDeadEnds 37 = .ok (.iload_n 3, 1) := by decide +kernel
theorem dX4_countDeadEnds_38 : decode cX4_countDeadEnds 38 = .ok (.iload_n 2, 1) := by decide +kernel
theorem dX4_countDeadEnds_39 : decode cX4_countDeadEnds 39 = .ok (.invokevirtual 105, 3) := by decide +kernel
theorem dX4_countDeadEnds_42 : decode cX4_countDeadEnds 42 = .ok (.ldc 49, 2) := by decide +kernel
theorem dX4_countDeadEnds_44 : decode cX4_countDeadEnds 44 = .ok (.if_icmp .lt 6, 3) := by decide +kernel
theorem dX4_countDeadEnds_47 : decode cX4_countDeadEnds 47 = .ok (.iinc 1 1, 3) := by decide +kernel
theorem dX4_countDeadEnds_50 : decode cX4_countDeadEnds 50 = .ok (.iinc 3 1, 3) := by decide +kernel
theorem dX4_countDeadEnds_53 : decode cX4_countDeadEnds 53 = .ok (.goto (-36), 3) := by decide +kernel
theorem dX4_countDeadEnds_56 : decode cX4_countDeadEnds 56 = .ok (.iinc 2 1, 3) := by decide +kernel
theorem dX4_countDeadEnds_59 : decode cX4_countDeadEnds 59 = .ok (.goto (-52), 3) := by decide +kernel
theorem dX4_countDeadEnds_62 : decode cX4_countDeadEnds 62 = .ok (.iload_n 1, 1) := by decide +kernel
theorem dX4_countDeadEnds_63 : decode cX4_countDeadEnds 63 = .ok (.ireturn, 1) := by decide +kernel
theorem dX4_countTwoVoices_0 : decode cX4_countTwoVoices 0 = .ok (.iconst 0, 1) := by decide +kernel
theorem dX4_countTwoVoices_1 : decode cX4_countTwoVoices 1 = .ok (.istore_n 1, 1) := by decide +kernel
theorem dX4_countTwoVoices_2 : decode cX4_countTwoVoices 2 = .ok (.aload_n 0, 1) := by decide +kernel
theorem dX4_countTwoVoices_3 : decode cX4_countTwoVoices 3 = .ok (.getfield 39, 3) := by decide +kernel
theorem dX4_countTwoVoices_6 : decode cX4_countTwoVoices 6 = .ok (.istore_n 2, 1) := by decide +kernel
theorem dX4_countTwoVoices_7 : decode cX4_countTwoVoices 7 = .ok (.iload_n 2, 1) := by decide +kernel
theorem dX4_countTwoVoices_8 : decode cX4_countTwoVoices 8 = .ok (.aload_n 0, 1) := by decide +kernel
theorem dX4_countTwoVoices_9 : decode cX4_countTwoVoices 9 = .ok (.getfield 42, 3) := by decide +kernel
theorem dX4_countTwoVoices_12 : decode cX4_countTwoVoices 12 = .ok (.if_icmp .ge 66, 3) := by decide +kernel
theorem dX4_countTwoVoices_15 : decode cX4_countTwoVoices 15 = .ok (.iconst 0, 1) := by decide +kernel
theorem dX4_countTwoVoices_16 : decode cX4_countTwoVoices 16 = .ok (.istore_n 3, 1) := by decide +kernel
theorem dX4_countTwoVoices_17 : decode cX4_countTwoVoices 17 = .ok (.iload_n 3, 1) := by decide +kernel
theorem dX4_countTwoVoices_18 : decode cX4_countTwoVoices 18 = .ok (.bipush 8, 2) := by decide +kernel
theorem dX4_countTwoVoices_20 : decode cX4_countTwoVoices 20 = .ok (.if_icmp .ge 52, 3) := by decide +kernel
theorem dX4_countTwoVoices_23 : decode cX4_countTwoVoices 23 = .ok (.aload_n 0, 1) := by decide +kernel
theorem dX4_countTwoVoices_24 : decode cX4_countTwoVoices 24 = .ok (.getfield 22, 3) := by decide +kernel
theorem dX4_countTwoVoices_27 : decode cX4_countTwoVoices 27 = .ok (.iload_n 2, 1) := by decide +kernel
theorem dX4_countTwoVoices_28 : decode cX4_countTwoVoices 28 = .ok (.iaload, 1) := by decide +kernel
theorem dX4_countTwoVoices_29 : decode cX4_countTwoVoices 29 = .ok (.iload_n 3, 1) := by decide +kernel
theorem dX4_countTwoVoices_30 : decode cX4_countTwoVoices 30 = .ok (.invokestatic 77, 3) := by decide +kernel
theorem dX4_countTwoVoices_33 : decode cX4_countTwoVoices 33 = .ok (.ifCond .eq 33, 3) := by decide +kernel
theorem dX4_countTwoVoices_36 : decode cX4_countTwoVoices 36 = .ok (.aload_n 0, 1) := by decide +kernel
theorem dX4_countTwoVoices_37 : decode cX4_countTwoVoices 37 = .ok (.getfield 31, 3) := by decide +kernel
theorem dX4_countTwoVoices_40 : decode cX4_countTwoVoices 40 = .ok (.iload_n 2, 1) := by decide +kernel
theorem dX4_countTwoVoices_41 : decode cX4_countTwoVoices 41 = .ok (.invokevirtual 73, 3) := by decide +kernel
theorem dX4_countTwoVoices_44 : decode cX4_countTwoVoices 44 = .ok (.ifCond .ne 22, 3) := by decide +kernel
theorem dX4_countTwoVoices_47 : decode cX4_countTwoVoices 47 = .ok (.aload_n 0, 1) := by decide +kernel
theorem dX4_countTwoVoices_48 : decode cX4_countTwoVoices 48 = .ok (.getfield 31, 3) := by decide +kernel
theorem dX4_countTwoVoices_51 : decode cX4_countTwoVoices 51 = .ok (.iload_n 3, 1) := by decide +kernel
theorem dX4_countTwoVoices_52 : decode cX4_countTwoVoices 52 = .ok (.iload_n 2, 1) := by decide +kernel
theorem dX4_countTwoVoices_53 : decode cX4_countTwoVoices 53 = .ok (.aload_n 0, 1) := by decide +kernel
theorem dX4_countTwoVoices_54 : decode cX4_countTwoVoices 54 = .ok (.getfield 35, 3) := by decide +kernel
theorem dX4_countTwoVoices_57 : decode cX4_countTwoVoices 57 = .ok (.invokevirtual 122, 3) := by decide +kernel
theorem dX4_countTwoVoices_60 : decode cX4_countTwoVoices 60 = .ok (.ifCond .eq 6, 3) := by decide +kernel
theorem dX4_countTwoVoices_63 : decode cX4_countTwoVoices 63 = .ok (.iinc 1 1, 3) := by decide +kernel
theorem dX4_countTwoVoices_66 : decode cX4_countTwoVoices 66 = .ok (.iinc 3 1, 3) := by decide +kernel
theorem dX4_countTwoVoices_69 : decode cX4_countTwoVoices 69 = .ok (.goto (-52), 3) := by decide +kernel
theorem dX4_countTwoVoices_72 : decode cX4_countTwoVoices 72 = .ok (.iinc 2 1, 3) := by decide +kernel
theorem dX4_countTwoVoices_75 : decode cX4_countTwoVoices 75 = .ok (.goto (-68), 3) := by decide +kernel
theorem dX4_countTwoVoices_78 : decode cX4_countTwoVoices 78 = .ok (.iload_n 1, 1) := by decide +kernel
theorem dX4_countTwoVoices_79 : decode cX4_countTwoVoices 79 = .ok (.ireturn, 1) := by decide +kernel
theorem dX4_heardInSome_0 : decode cX4_heardInSome 0 = .ok (.iconst 0, 1) := by decide +kernel
theorem dX4_heardInSome_1 : decode cX4_heardInSome 1 = .ok (.istore_n 1, 1) := by decide +kernel
theorem dX4_heardInSome_2 : decode cX4_heardInSome 2 = .ok (.aload_n 0, 1) := by decide +kernel
theorem dX4_heardInSome_3 : decode cX4_heardInSome 3 = .ok (.getfield 39, 3) := by decide +kernel
theorem dX4_heardInSome_6 : decode cX4_heardInSome 6 = .ok (.istore_n 2, 1) := by decide +kernel
theorem dX4_heardInSome_7 : decode cX4_heardInSome 7 = .ok (.iload_n 2, 1) := by decide +kernel
theorem dX4_heardInSome_8 : decode cX4_heardInSome 8 = .ok (.aload_n 0, 1) := by decide +kernel
theorem dX4_heardInSome_9 : decode cX4_heardInSome 9 = .ok (.getfield 42, 3) := by decide +kernel
theorem dX4_heardInSome_12 : decode cX4_heardInSome 12 = .ok (.if_icmp .ge 22, 3) := by decide +kernel
theorem dX4_heardInSome_15 : decode cX4_heardInSome 15 = .ok (.aload_n 0, 1) := by decide +kernel
theorem dX4_heardInSome_16 : decode cX4_heardInSome 16 = .ok (.getfield 22, 3) := by decide +kernel
theorem dX4_heardInSome_19 : decode cX4_heardInSome 19 = .ok (.iload_n 2, 1) := by decide +kernel
theorem dX4_heardInSome_20 : decode cX4_heardInSome 20 = .ok (.iaload, 1) := by decide +kernel
theorem dX4_heardInSome_21 : decode cX4_heardInSome 21 = .ok (.ifCond .eq 7, 3) := by decide +kernel
theorem dX4_heardInSome_24 : decode cX4_heardInSome 24 = .ok (.iload_n 1, 1) := by decide +kernel
theorem dX4_heardInSome_25 : decode cX4_heardInSome 25 = .ok (.iload_n 2, 1) := by decide +kernel
theorem dX4_heardInSome_26 : decode cX4_heardInSome 26 = .ok (.ior, 1) := by decide +kernel
theorem dX4_heardInSome_27 : decode cX4_heardInSome 27 = .ok (.istore_n 1, 1) := by decide +kernel
theorem dX4_heardInSome_28 : decode cX4_heardInSome 28 = .ok (.iinc 2 1, 3) := by decide +kernel
theorem dX4_heardInSome_31 : decode cX4_heardInSome 31 = .ok (.goto (-24), 3) := by decide +kernel
theorem dX4_heardInSome_34 : decode cX4_heardInSome 34 = .ok (.iload_n 1, 1) := by decide +kernel
theorem dX4_heardInSome_35 : decode cX4_heardInSome 35 = .ok (.ireturn, 1) := by decide +kernel
theorem dX4_cornerOnQuickest_0 : decode cX4_cornerOnQuickest 0 = .ok (.iload_n 1, 1) := by decide +kernel
theorem dX4_cornerOnQuickest_1 : decode cX4_cornerOnQuickest 1 = .ok (.istore_n 3, 1) := by decide +kernel
theorem dX4_cornerOnQuickest_2 : decode cX4_cornerOnQuickest 2 = .ok (.aload_n 0, 1) := by decide +kernel
theorem dX4_cornerOnQuickest_3 : decode cX4_cornerOnQuickest 3 = .ok (.getfield 39, 3) := by decide +kernel
theorem dX4_cornerOnQuickest_6 : decode cX4_cornerOnQuickest 6 = .ok (.istore 4, 2) := by decide +kernel
theorem dX4_cornerOnQuickest_8 : decode cX4_cornerOnQuickest 8 = .ok (.iconst 0, 1) := by decide +kernel
theorem dX4_cornerOnQuickest_9 : decode cX4_cornerOnQuickest 9 = .ok (.istore 5, 2) := by decide +kernel
theorem dX4_cornerOnQuickest_11 : decode cX4_cornerOnQuickest 11 = .ok (.iconst 0, 1) := by decide +kernel
theorem dX4_cornerOnQuickest_12 : decode cX4_cornerOnQuickest 12 = .ok (.istore 6, 2) := by decide +kernel
theorem dX4_cornerOnQuickest_14 : decode cX4_cornerOnQuickest 14 = .ok (.iload 6, 2) := by decide +kernel
theorem dX4_cornerOnQuickest_16 : decode cX4_cornerOnQuickest 16 = .ok (.aload_n 0, 1) := by decide +kernel
theorem dX4_cornerOnQuickest_17 : decode cX4_cornerOnQuickest 17 = .ok (.getfield 42, 3) := by decide +kernel
theorem dX4_cornerOnQuickest_20 : decode cX4_cornerOnQuickest 20 = .ok (.bipush 8, 2) := by decide +kernel
theorem dX4_cornerOnQuickest_22 : decode cX4_cornerOnQuickest 22 = .ok (.imul, 1) := by decide +kernel
theorem dX4_cornerOnQuickest_23 : decode cX4_cornerOnQuickest 23 = .ok (.if_icmp .ge 84, 3) := by decide +kernel
theorem dX4_cornerOnQuickest_26 : decode cX4_cornerOnQuickest 26 = .ok (.aload_n 0, 1) := by decide +kernel
theorem dX4_cornerOnQuickest_27 : decode cX4_cornerOnQuickest 27 = .ok (.getfield 31, 3) := by decide +kernel
theorem dX4_cornerOnQuickest_30 : decode cX4_cornerOnQuickest 30 = .ok (.iload 4, 2) := by decide +kernel
theorem dX4_cornerOnQuickest_32 : decode cX4_cornerOnQuickest 32 = .ok (.invokevirtual 73, 3) := by decide +kernel
theorem dX4_cornerOnQuickest_35 : decode cX4_cornerOnQuickest 35 = .ok (.ifCond .ne 72, 3) := by decide +kernel
theorem dX4_cornerOnQuickest_38 : decode cX4_cornerOnQuickest 38 = .ok (.aload_n 0, 1) := by decide +kernel
theorem dX4_cornerOnQuickest_39 : decode cX4_cornerOnQuickest 39 = .ok (.getfield 31, 3) := by decide +kernel
theorem dX4_cornerOnQuickest_42 : decode cX4_cornerOnQuickest 42 = .ok (.iconst 0, 1) := by decide +kernel
theorem dX4_cornerOnQuickest_43 : decode cX4_cornerOnQuickest 43 = .ok (.iload_n 3, 1) := by decide +kernel
theorem dX4_cornerOnQuickest_44 : decode cX4_cornerOnQuickest 44 = .ok (.iload 4, 2) := by decide +kernel
theorem dX4_cornerOnQuickest_46 : decode cX4_cornerOnQuickest 46 = .ok (.aload_n 0, 1) := by decide +kernel
theorem dX4_cornerOnQuickest_47 : decode cX4_cornerOnQuickest 47 = .ok (.getfield 35, 3) := by decide +kernel
theorem dX4_cornerOnQuickest_50 : decode cX4_cornerOnQuickest 50 = .ok (.invokevirtual 85, 3) := by decide +kernel
theorem dX4_cornerOnQuickest_53 : decode cX4_cornerOnQuickest 53 = .ok (.istore 7, 2) := by decide +kernel
theorem dX4_cornerOnQuickest_55 : decode cX4_cornerOnQuickest 55 = .ok (.iload 7, 2) := by decide +kernel
theorem dX4_cornerOnQuickest_57 : decode cX4_cornerOnQuickest 57 = .ok (.ifCond .lt 15, 3) := by decide +kernel
theorem dX4_cornerOnQuickest_60 : decode cX4_cornerOnQuickest 60 = .ok (.iload 4, 2) := by decide +kernel
theorem dX4_cornerOnQuickest_62 : decode cX4_cornerOnQuickest 62 = .ok (.iconst 1, 1) := by decide +kernel
theorem dX4_cornerOnQuickest_63 : decode cX4_cornerOnQuickest 63 = .ok (.iload 7, 2) := by decide +kernel
theorem dX4_cornerOnQuickest_65 : decode cX4_cornerOnQuickest 65 = .ok (.ishl, 1) := by decide +kernel
theorem dX4_cornerOnQuickest_66 : decode cX4_cornerOnQuickest 66 = .ok (.ior, 1) := by decide +kernel
theorem dX4_cornerOnQuickest_67 : decode cX4_cornerOnQuickest 67 = .ok (.istore 4, 2) := by decide +kernel
theorem dX4_cornerOnQuickest_69 : decode cX4_cornerOnQuickest 69 = .ok (.goto 32, 3) := by decide +kernel
theorem dX4_cornerOnQuickest_72 : decode cX4_cornerOnQuickest 72 = .ok (.aload_n 0, 1) := by decide +kernel
theorem dX4_cornerOnQuickest_73 : decode cX4_cornerOnQuickest 73 = .ok (.iload_n 3, 1) := by decide +kernel
theorem dX4_cornerOnQuickest_74 : decode cX4_cornerOnQuickest 74 = .ok (.iload 4, 2) := by decide +kernel
theorem dX4_cornerOnQuickest_76 : decode cX4_cornerOnQuickest 76 = .ok (.invokevirtual 126, 3) := by decide +kernel
theorem dX4_cornerOnQuickest_79 : decode cX4_cornerOnQuickest 79 = .ok (.istore 8, 2) := by decide +kernel
theorem dX4_cornerOnQuickest_81 : decode cX4_cornerOnQuickest 81 = .ok (.iload 8, 2) := by decide +kernel
theorem dX4_cornerOnQuickest_83 : decode cX4_cornerOnQuickest 83 = .ok (.ifCond .lt 9, 3) := by decide +kernel
theorem dX4_cornerOnQuickest_86 : decode cX4_cornerOnQuickest 86 = .ok (.iload 5, 2) := by decide +kernel
theorem dX4_cornerOnQuickest_88 : decode cX4_cornerOnQuickest 88 = .ok (.iload_n 2, 1) := by decide +kernel
theorem dX4_cornerOnQuickest_89 : decode cX4_cornerOnQuickest 89 = .ok (.if_icmp .ne 6, 3) := by decide +kernel
theorem dX4_cornerOnQuickest_92 : decode cX4_cornerOnQuickest 92 = .ok (.iload 8, 2) := by decide +kernel
theorem dX4_cornerOnQuickest_94 : decode cX4_cornerOnQuickest 94 = .ok (.ireturn, 1) := by decide +kernel
theorem dX4_cornerOnQuickest_95 : decode cX4_cornerOnQuickest 95 = .ok (.iload 8, 2) := by decide +kernel
theorem dX4_cornerOnQuickest_97 : decode cX4_cornerOnQuickest 97 = .ok (.istore_n 3, 1) := by decide +kernel
theorem dX4_cornerOnQuickest_98 : decode cX4_cornerOnQuickest 98 = .ok (.iinc 5 1, 3) := by decide +kernel
theorem dX4_cornerOnQuickest_101 : decode cX4_cornerOnQuickest 101 = .ok (.iinc 6 1, 3) := by decide +kernel
theorem dX4_cornerOnQuickest_104 : decode cX4_cornerOnQuickest 104 = .ok (.goto (-90), 3) := by decide +kernel
theorem dX4_cornerOnQuickest_107 : decode cX4_cornerOnQuickest 107 = .ok (.iconst (-1), 1) := by decide +kernel
theorem dX4_cornerOnQuickest_108 : decode cX4_cornerOnQuickest 108 = .ok (.ireturn, 1) := by decide +kernel
theorem dX4_quickestStep_0 : decode cX4_quickestStep 0 = .ok (.iconst 0, 1) := by decide +kernel
theorem dX4_quickestStep_1 : decode cX4_quickestStep 1 = .ok (.istore_n 3, 1) := by decide +kernel
theorem dX4_quickestStep_2 : decode cX4_quickestStep 2 = .ok (.iload_n 3, 1) := by decide +kernel
theorem dX4_quickestStep_3 : decode cX4_quickestStep 3 = .ok (.bipush 8, 2) := by decide +kernel
theorem dX4_quickestStep_5 : decode cX4_quickestStep 5 = .ok (.if_icmp .ge 38, 3) := by decide +kernel
theorem dX4_quickestStep_8 : decode cX4_quickestStep 8 = .ok (.aload_n 0, 1) := by decide +kernel
theorem dX4_quickestStep_9 : decode cX4_quickestStep 9 = .ok (.iload_n 1, 1) := by decide +kernel
theorem dX4_quickestStep_10 : decode cX4_quickestStep 10 = .ok (.iload_n 3, 1) := by decide +kernel
theorem dX4_quickestStep_11 : decode cX4_quickestStep 11 = .ok (.iload_n 2, 1) := by decide +kernel
theorem dX4_quickestStep_12 : decode cX4_quickestStep 12 = .ok (.invokevirtual 129, 3) := by decide +kernel
theorem dX4_quickestStep_15 : decode cX4_quickestStep 15 = .ok (.istore 4, 2) := by decide +kernel
theorem dX4_quickestStep_17 : decode cX4_quickestStep 17 = .ok (.iload 4, 2) := by decide +kernel
theorem dX4_quickestStep_19 : decode cX4_quickestStep 19 = .ok (.ldc 49, 2) := by decide +kernel
theorem dX4_quickestStep_21 : decode cX4_quickestStep 21 = .ok (.if_icmp .ge 16, 3) := by decide +kernel
theorem dX4_quickestStep_24 : decode cX4_quickestStep 24 = .ok (.iload 4, 2) := by decide +kernel
theorem dX4_quickestStep_26 : decode cX4_quickestStep 26 = .ok (.aload_n 0, 1) := by decide +kernel
theorem dX4_quickestStep_27 : decode cX4_quickestStep 27 = .ok (.iload_n 1, 1) := by decide +kernel
theorem dX4_quickestStep_28 : decode cX4_quickestStep 28 = .ok (.iload_n 2, 1) := by decide +kernel
theorem dX4_quickestStep_29 : decode cX4_quickestStep 29 = .ok (.invokevirtual 105, 3) := by decide +kernel
theorem dX4_quickestStep_32 : decode cX4_quickestStep 32 = .ok (.if_icmp .ne 5, 3) := by decide +kernel
theorem dX4_quickestStep_35 : decode cX4_quickestStep 35 = .ok (.iload_n 3, 1) := by decide +kernel
theorem dX4_quickestStep_36 : decode cX4_quickestStep 36 = .ok (.ireturn, 1) := by decide +kernel
theorem dX4_quickestStep_37 : decode cX4_quickestStep 37 = .ok (.iinc 3 1, 3) := by decide +kernel
theorem dX4_quickestStep_40 : decode cX4_quickestStep 40 = .ok (.goto (-38), 3) := by decide +kernel
theorem dX4_quickestStep_43 : decode cX4_quickestStep 43 = .ok (.iconst (-1), 1) := by decide +kernel
theorem dX4_quickestStep_44 : decode cX4_quickestStep 44 = .ok (.ireturn, 1) := by decide +kernel
end
section
theorem dX5_init_0 : decode cX5_init 0 = .ok (.aload_n 0, 1) := by decide +kernel
theorem dX5_init_1 : decode cX5_init 1 = .ok (.invokespecial 1, 3) := by decide +kernel
theorem dX5_init_4 : decode cX5_init 4 = .ok (.aload_n 0, 1) := by decide +kernel
theorem dX5_init_5 : decode cX5_init 5 = .ok (.iload_n 1, 1) := by decide +kernel
theorem dX5_init_6 : decode cX5_init 6 = .ok (.putfield 7, 3) := by decide +kernel
theorem dX5_init_9 : decode cX5_init 9 = .ok (.aload_n 0, 1) := by decide +kernel
theorem dX5_init_10 : decode cX5_init 10 = .ok (.iload_n 2, 1) := by decide +kernel
theorem dX5_init_11 : decode cX5_init 11 = .ok (.iconst 0, 1) := by decide +kernel
theorem dX5_init_12 : decode cX5_init 12 = .ok (.invokestatic 13, 3) := by decide +kernel
theorem dX5_init_15 : decode cX5_init 15 = .ok (.newarray .int, 2) := by decide +kernel
theorem dX5_init_17 : decode cX5_init 17 = .ok (.putfield 19, 3) := by decide +kernel
theorem dX5_init_20 : decode cX5_init 20 = .ok (.return_, 1) := by decide +kernel
theorem dX5_lowestBits_0 : decode cX5_lowestBits 0 = .ok (.bipush 32, 2) := by decide +kernel
theorem dX5_lowestBits_2 : decode cX5_lowestBits 2 = .ok (.aload_n 0, 1) := by decide +kernel
theorem dX5_lowestBits_3 : decode cX5_lowestBits 3 = .ok (.getfield 7, 3) := by decide +kernel
theorem dX5_lowestBits_6 : decode cX5_lowestBits 6 = .ok (.isub, 1) := by decide +kernel
theorem dX5_lowestBits_7 : decode cX5_lowestBits 7 = .ok (.istore_n 2, 1) := by decide +kernel
theorem dX5_lowestBits_8 : decode cX5_lowestBits 8 = .ok (.iload_n 1, 1) := by decide +kernel
theorem dX5_lowestBits_9 : decode cX5_lowestBits 9 = .ok (.iload_n 2, 1) := by decide +kernel
theorem dX5_lowestBits_10 : decode cX5_lowestBits 10 = .ok (.ishl, 1) := by decide +kernel
theorem dX5_lowestBits_11 : decode cX5_lowestBits 11 = .ok (.iload_n 2, 1) := by decide +kernel
theorem dX5_lowestBits_12 : decode cX5_lowestBits 12 = .ok (.ishr, 1) := by decide +kernel
theorem dX5_lowestBits_13 : decode cX5_lowestBits 13 = .ok (.ireturn, 1) := by decide +kernel
theorem dX5_hasRange_0 : decode cX5_hasRange 0 = .ok (.iload_n 1, 1) := by decide +kernel
theorem dX5_hasRange_1 : decode cX5_hasRange 1 = .ok (.ifCond .lt 22, 3) := by decide +kernel
theorem dX5_hasRange_4 : decode cX5_hasRange 4 = .ok (.iload_n 2, 1) := by decide +kernel
theorem dX5_hasRange_5 : decode cX5_hasRange 5 = .ok (.ifCond .lt 18, 3) := by decide +kernel
theorem dX5_hasRange_8 : decode cX5_hasRange 8 = .ok (.iload_n 2, 1) := by decide +kernel
theorem dX5_hasRange_9 : decode cX5_hasRange 9 = .ok (.aload_n 0, 1) := by decide +kernel
theorem dX5_hasRange_10 : decode cX5_hasRange 10 = .ok (.getfield 19, 3) := by decide +kernel
theorem dX5_hasRange_13 : decode cX5_hasRange 13 = .ok (.arraylength, 1) := by decide +kernel
theorem dX5_hasRange_14 : decode cX5_hasRange 14 = .ok (.iload_n 1, 1) := by decide +kernel
theorem dX5_hasRange_15 : decode cX5_hasRange 15 = .ok (.isub, 1) := by decide +kernel
theorem dX5_hasRange_16 : decode cX5_hasRange 16 = .ok (.if_icmp .gt 7, 3) := by decide +kernel
theorem dX5_hasRange_19 : decode cX5_hasRange 19 = .ok (.iconst 1, 1) := by decide +kernel
theorem dX5_hasRange_20 : decode cX5_hasRange 20 = .ok (.goto 4, 3) := by decide +kernel
theorem dX5_hasRange_23 : decode cX5_hasRange 23 = .ok (.iconst 0, 1) := by decide +kernel
theorem dX5_hasRange_24 : decode cX5_hasRange 24 = .ok (.ireturn, 1) := by decide +kernel
theorem dX6_init_0 : decode cX6_init 0 = .ok (.aload_n 0, 1) := by decide +kernel
theorem dX6_init_1 : decode cX6_init 1 = .ok (.invokespecial 3, 3) := by decide +kernel
theorem dX6_init_4 : decode cX6_init 4 = .ok (.aload_n 0, 1) := by decide +kernel
theorem dX6_init_5 : decode cX6_init 5 = .ok (.sipush 200, 3) := by decide +kernel
theorem dX6_init_8 : decode cX6_init 8 = .ok (.newarray .byte, 2) := by decide +kernel
theorem dX6_init_10 : decode cX6_init 10 = .ok (.putfield 9, 3) := by decide +kernel
theorem dX6_init_13 : decode cX6_init 13 = .ok (.aload_n 0, 1) := by decide +kernel
theorem dX6_init_14 : decode cX6_init 14 = .ok (.iconst 0, 1) := by decide +kernel
theorem dX6_init_15 : decode cX6_init 15 = .ok (.putfield 15, 3) := by decide +kernel
theorem dX6_init_18 : decode cX6_init 18 = .ok (.return_, 1) := by decide +kernel
theorem dX6_append_0 : decode cX6_append 0 = .ok (.iconst 0, 1) := by decide +kernel
theorem dX6_append_1 : decode cX6_append 1 = .ok (.istore 4, 2) := by decide +kernel
theorem dX6_append_3 : decode cX6_append 3 = .ok (.iload 4, 2) := by decide +kernel
theorem dX6_append_5 : decode cX6_append 5 = .ok (.iload_n 3, 1) := by decide +kernel
theorem dX6_append_6 : decode cX6_append 6 = .ok (.if_icmp .ge 37, 3) := by decide +kernel
theorem dX6_append_9 : decode cX6_append 9 = .ok (.aload_n 0, 1) := by decide +kernel
theorem dX6_append_10 : decode cX6_append 10 = .ok (.getfield 9, 3) := by decide +kernel
theorem dX6_append_13 : decode cX6_append 13 = .ok (.aload_n 0, 1) := by decide +kernel
theorem dX6_append_14 : decode cX6_append 14 = .ok (.getfield 15, 3) := by decide +kernel
theorem dX6_append_17 : decode cX6_append 17 = .ok (.lload_n 1, 1) := by decide +kernel
theorem dX6_append_18 : decode cX6_append 18 = .ok (.bipush 8, 2) := by decide +kernel
theorem dX6_append_20 : decode cX6_append 20 = .ok (.iload 4, 2) := by decide +kernel
theorem dX6_append_22 : decode cX6_append 22 = .ok (.imul, 1) := by decide +kernel
theorem dX6_append_23 : decode cX6_append 23 = .ok (.lshr, 1) := by decide +kernel
theorem dX6_append_24 : decode cX6_append 24 = .ok (.l2i, 1) := by decide +kernel
theorem dX6_append_25 : decode cX6_append 25 = .ok (.i2b, 1) := by decide +kernel
theorem dX6_append_26 : decode cX6_append 26 = .ok (.bastore, 1) := by decide +kernel
theorem dX6_append_27 : decode cX6_append 27 = .ok (.aload_n 0, 1) := by decide +kernel
theorem dX6_append_28 : decode cX6_append 28 = .ok (.dup, 1) := by decide +kernel
theorem dX6_append_29 : decode cX6_append 29 = .ok (.getfield 15, 3) := by decide +kernel
theorem dX6_append_32 : decode cX6_append 32 = .ok (.iconst 1, 1) := by decide +kernel
theorem dX6_append_33 : decode cX6_append 33 = .ok (.iadd, 1) := by decide +kernel
theorem dX6_append_34 : decode cX6_append 34 = .ok (.putfield 15, 3) := by decide +kernel
theorem dX6_append_37 : decode cX6_append 37 = .ok (.iinc 4 1, 3) := by decide +kernel
theorem dX6_append_40 : decode cX6_append 40 = .ok (.goto (-37), 3) := by decide +kernel
theorem dX6_append_43 : decode cX6_append 43 = .ok (.return_, 1) := by decide +kernel
theorem dX6_byteAt_0 : decode cX6_byteAt 0 = .ok (.iload_n 1, 1) := by decide +kernel
theorem dX6_byteAt_1 : decode cX6_byteAt 1 = .ok (.iconst 0, 1) := by decide +kernel
theorem dX6_byteAt_2 : decode cX6_byteAt 2 = .ok (.aload_n 0, 1) := by decide +kernel
theorem dX6_byteAt_3 : decode cX6_byteAt 3 = .ok (.getfield 15, 3) := by decide +kernel
theorem dX6_byteAt_6 : decode cX6_byteAt 6 = .ok (.iconst 1, 1) := by decide +kernel
theorem dX6_byteAt_7 : decode cX6_byteAt 7 = .ok (.isub, 1) := by decide +kernel
theorem dX6_byteAt_8 : decode cX6_byteAt 8 = .ok (.invokestatic 19, 3) := by decide +kernel
theorem dX6_byteAt_11 : decode cX6_byteAt 11 = .ok (.ifCond .eq 16, 3) := by decide +kernel
theorem dX6_byteAt_14 : decode cX6_byteAt 14 = .ok (.aload_n 0, 1) := by decide +kernel
theorem dX6_byteAt_15 : decode cX6_byteAt 15 = .ok (.getfield 9, 3) := by decide +kernel
theorem dX6_byteAt_18 : decode cX6_byteAt 18 = .ok (.iload_n 1, 1) := by decide +kernel
theorem dX6_byteAt_19 : decode cX6_byteAt 19 = .ok (.baload, 1) := by decide +kernel
theorem dX6_byteAt_20 : decode cX6_byteAt 20 = .ok (.sipush 255, 3) := by decide +kernel
theorem dX6_byteAt_23 : decode cX6_byteAt 23 = .ok (.iand, 1) := by decide +kernel
theorem dX6_byteAt_24 : decode cX6_byteAt 24 = .ok (.goto 4, 3) := by decide +kernel
theorem dX6_byteAt_27 : decode cX6_byteAt 27 = .ok (.iconst (-1), 1) := by decide +kernel
theorem dX6_byteAt_28 : decode cX6_byteAt 28 = .ok (.ireturn, 1) := by decide +kernel
theorem dX7_init_0 : decode cX7_init 0 = .ok (.aload_n 0, 1) := by decide +kernel
theorem dX7_init_1 : decode cX7_init 1 = .ok (.invokespecial 3, 3) := by decide +kernel
theorem dX7_init_4 : decode cX7_init 4 = .ok (.aload_n 0, 1) := by decide +kernel
theorem dX7_init_5 : decode cX7_init 5 = .ok (.bipush 8, 2) := by decide +kernel
theorem dX7_init_7 : decode cX7_init 7 = .ok (.newarray .int, 2) := by decide +kernel
theorem dX7_init_9 : decode cX7_init 9 = .ok (.putfield 9, 3) := by decide +kernel
theorem dX7_init_12 : decode cX7_init 12 = .ok (.aload_n 0, 1) := by decide +kernel
theorem dX7_init_13 : decode cX7_init 13 = .ok (.bipush 8, 2) := by decide +kernel
theorem dX7_init_15 : decode cX7_init 15 = .ok (.newarray .int, 2) := by decide +kernel
theorem dX7_init_17 : decode cX7_init 17 = .ok (.putfield 15, 3) := by decide +kernel
theorem dX7_init_20 : decode cX7_init 20 = .ok (.aload_n 0, 1) := by decide +kernel
theorem dX7_init_21 : decode cX7_init 21 = .ok (.bipush 14, 2) := by decide +kernel
theorem dX7_init_23 : decode cX7_init 23 = .ok (.anewarray 18, 3) := by decide +kernel
theorem dX7_init_26 : decode cX7_init 26 = .ok (.putfield 20, 3) := by decide +kernel
theorem dX7_init_29 : decode cX7_init 29 = .ok (.aload_n 0, 1) := by decide +kernel
theorem dX7_init_30 : decode cX7_init 30 = .ok (.iconst 0, 1) := by decide +kernel
theorem dX7_init_31 : decode cX7_init 31 = .ok (.putfield 24, 3) := by decide +kernel
theorem dX7_init_34 : decode cX7_init 34 = .ok (.aload_n 0, 1) := by decide +kernel
theorem dX7_init_35 : decode cX7_init 35 = .ok (.iconst 0, 1) := by decide +kernel
theorem dX7_init_36 : decode cX7_init 36 = .ok (.putfield 28, 3) := by decide +kernel
theorem dX7_init_39 : decode cX7_init 39 = .ok (.return_, 1) := by decide +kernel
theorem dX7_addCorner_0 : decode cX7_addCorner 0 = .ok (.aload_n 0, 1) := by decide +kernel
theorem dX7_addCorner_1 : decode cX7_addCorner 1 = .ok (.getfield 9, 3) := by decide +kernel
theorem dX7_addCorner_4 : decode cX7_addCorner 4 = .ok (.aload_n 0, 1) := by decide +kernel
theorem dX7_addCorner_5 : decode cX7_addCorner 5 = .ok (.getfield 24, 3) := by decide +kernel
theorem dX7_addCorner_8 : decode cX7_addCorner 8 = .ok (.iload_n 1, 1) := by decide +kernel
theorem dX7_addCorner_9 : decode cX7_addCorner 9 = .ok (.iastore, 1) := by decide +kernel
theorem dX7_addCorner_10 : decode cX7_addCorner 10 = .ok (.aload_n 0, 1) := by decide +kernel
theorem dX7_addCorner_11 : decode cX7_addCorner 11 = .ok (.getfield 15, 3) := by decide +kernel
theorem dX7_addCorner_14 : decode cX7_addCorner 14 = .ok (.aload_n 0, 1) := by decide +kernel
theorem dX7_addCorner_15 : decode cX7_addCorner 15 = .ok (.getfield 24, 3) := by decide +kernel
theorem dX7_addCorner_18 : decode cX7_addCorner 18 = .ok (.iload_n 2, 1) := by decide +kernel
theorem dX7_addCorner_19 : decode cX7_addCorner 19 = .ok (.iastore, 1) := by decide +kernel
theorem dX7_addCorner_20 : decode cX7_addCorner 20 = .ok (.aload_n 0, 1) := by decide +kernel
theorem dX7_addCorner_21 : decode cX7_addCorner 21 = .ok (.dup, 1) := by decide +kernel
theorem dX7_addCorner_22 : decode cX7_addCorner 22 = .ok (.getfield 24, 3) := by decide +kernel
theorem dX7_addCorner_25 : decode cX7_addCorner 25 = .ok (.iconst 1, 1) := by decide +kernel
theorem dX7_addCorner_26 : decode cX7_addCorner 26 = .ok (.iadd, 1) := by decide +kernel
theorem dX7_addCorner_27 : decode cX7_addCorner 27 = .ok (.putfield 24, 3) := by decide +kernel
theorem dX7_addCorner_30 : decode cX7_addCorner 30 = .ok (.aload_n 0, 1) := by decide +kernel
theorem dX7_addCorner_31 : decode cX7_addCorner 31 = .ok (.getfield 24, 3) := by decide +kernel
theorem dX7_addCorner_34 : decode cX7_addCorner 34 = .ok (.iconst 1, 1) := by decide +kernel
theorem dX7_addCorner_35 : decode cX7_addCorner 35 = .ok (.isub, 1) := by decide +kernel
theorem dX7_addCorner_36 : decode cX7_addCorner 36 = .ok (.ireturn, 1) := by decide +kernel
theorem dX7_addWay_0 : decode cX7_addWay 0 = .ok (.aload_n 0, 1) := by decide +kernel
theorem dX7_addWay_1 : decode cX7_addWay 1 = .ok (.getfield 20, 3) := by decide +kernel
theorem dX7_addWay_4 : decode cX7_addWay 4 = .ok (.aload_n 0, 1) := by decide +kernel
theorem dX7_addWay_5 : decode cX7_addWay 5 = .ok (.getfield 28, 3) := by decide +kernel
theorem dX7_addWay_8 : decode cX7_addWay 8 = .ok (.aload_n 1, 1) := by decide +kernel
theorem dX7_addWay_9 : decode cX7_addWay 9 = .ok (.aastore, 1) := by decide +kernel
theorem dX7_addWay_10 : decode cX7_addWay 10 = .ok (.aload_n 0, 1) := by decide +kernel
theorem dX7_addWay_11 : decode cX7_addWay 11 = .ok (.dup, 1) := by decide +kernel
theorem dX7_addWay_12 : decode cX7_addWay 12 = .ok (.getfield 28, 3) := by decide +kernel
theorem dX7_addWay_15 : decode cX7_addWay 15 = .ok (.iconst 1, 1) := by decide +kernel
theorem dX7_addWay_16 : decode cX7_addWay 16 = .ok (.iadd, 1) := by decide +kernel
theorem dX7_addWay_17 : decode cX7_addWay 17 = .ok (.putfield 28, 3) := by decide +kernel
theorem dX7_addWay_20 : decode cX7_addWay 20 = .ok (.aload_n 0, 1) := by decide +kernel
theorem dX7_addWay_21 : decode cX7_addWay 21 = .ok (.getfield 28, 3) := by decide +kernel
theorem dX7_addWay_24 : decode cX7_addWay 24 = .ok (.iconst 1, 1) := by decide +kernel
theorem dX7_addWay_25 : decode cX7_addWay 25 = .ok (.isub, 1) := by decide +kernel
theorem dX7_addWay_26 : decode cX7_addWay 26 = .ok (.ireturn, 1) := by decide +kernel
theorem dX7_hasCorner_0 : decode cX7_hasCorner 0 = .ok (.iload_n 1, 1) := by decide +kernel
theorem dX7_hasCorner_1 : decode cX7_hasCorner 1 = .ok (.iconst 0, 1) := by decide +kernel
theorem dX7_hasCorner_2 : decode cX7_hasCorner 2 = .ok (.aload_n 0, 1) := by decide +kernel
theorem dX7_hasCorner_3 : decode cX7_hasCorner 3 = .ok (.getfield 24, 3) := by decide +kernel
theorem dX7_hasCorner_6 : decode cX7_hasCorner 6 = .ok (.iconst 1, 1) := by decide +kernel
theorem dX7_hasCorner_7 : decode cX7_hasCorner 7 = .ok (.isub, 1) := by decide +kernel
theorem dX7_hasCorner_8 : decode cX7_hasCorner 8 = .ok (.invokestatic 31, 3) := by decide +kernel
theorem dX7_hasCorner_11 : decode cX7_hasCorner 11 = .ok (.ireturn, 1) := by decide +kernel
theorem dX7_findWay_0 : decode cX7_findWay 0 = .ok (.iload_n 1, 1) := by decide +kernel
theorem dX7_findWay_1 : decode cX7_findWay 1 = .ok (.iconst 0, 1) := by decide +kernel
theorem dX7_findWay_2 : decode cX7_findWay 2 = .ok (.aload_n 0, 1) := by decide +kernel
theorem dX7_findWay_3 : decode cX7_findWay 3 = .ok (.getfield 28, 3) := by decide +kernel
theorem dX7_findWay_6 : decode cX7_findWay 6 = .ok (.iconst 1, 1) := by decide +kernel
theorem dX7_findWay_7 : decode cX7_findWay 7 = .ok (.isub, 1) := by decide +kernel
theorem dX7_findWay_8 : decode cX7_findWay 8 = .ok (.invokestatic 31, 3) := by decide +kernel
theorem dX7_findWay_11 : decode cX7_findWay 11 = .ok (.ifCond .eq 12, 3) := by decide +kernel
theorem dX7_findWay_14 : decode cX7_findWay 14 = .ok (.aload_n 0, 1) := by decide +kernel
theorem dX7_findWay_15 : decode cX7_findWay 15 = .ok (.getfield 20, 3) := by decide +kernel
theorem dX7_findWay_18 : decode cX7_findWay 18 = .ok (.iload_n 1, 1) := by decide +kernel
theorem dX7_findWay_19 : decode cX7_findWay 19 = .ok (.aaload, 1) := by decide +kernel
theorem dX7_findWay_20 : decode cX7_findWay 20 = .ok (.goto 4, 3) := by decide +kernel
theorem dX7_findWay_23 : decode cX7_findWay 23 = .ok (.aconst_null, 1) := by decide +kernel
theorem dX7_findWay_24 : decode cX7_findWay 24 = .ok (.areturn, 1) := by decide +kernel
theorem dX7_isJoined_0 : decode cX7_isJoined 0 = .ok (.iconst 0, 1) := by decide +kernel
theorem dX7_isJoined_1 : decode cX7_isJoined 1 = .ok (.istore 5, 2) := by decide +kernel
theorem dX7_isJoined_3 : decode cX7_isJoined 3 = .ok (.iload 5, 2) := by decide +kernel
theorem dX7_isJoined_5 : decode cX7_isJoined 5 = .ok (.aload_n 0, 1) := by decide +kernel
theorem dX7_isJoined_6 : decode cX7_isJoined 6 = .ok (.getfield 28, 3) := by decide +kernel
theorem dX7_isJoined_9 : decode cX7_isJoined 9 = .ok (.if_icmp .ge 56, 3) := by decide +kernel
theorem dX7_isJoined_12 : decode cX7_isJoined 12 = .ok (.aload_n 0, 1) := by decide +kernel
theorem dX7_isJoined_13 : decode cX7_isJoined 13 = .ok (.getfield 20, 3) := by decide +kernel
theorem dX7_isJoined_16 : decode cX7_isJoined 16 = .ok (.iload 5, 2) := by decide +kernel
theorem dX7_isJoined_18 : decode cX7_isJoined 18 = .ok (.aaload, 1) := by decide +kernel
theorem dX7_isJoined_19 : decode cX7_isJoined 19 = .ok (.iload_n 3, 1) := by decide +kernel
theorem dX7_isJoined_20 : decode cX7_isJoined 20 = .ok (.iload 4, 2) := by decide +kernel
theorem dX7_isJoined_22 : decode cX7_isJoined 22 = .ok (.invokevirtual 35, 3) := by decide +kernel
theorem dX7_isJoined_25 : decode cX7_isJoined 25 = .ok (.ifCond .eq 34, 3) := by decide +kernel
theorem dX7_isJoined_28 : decode cX7_isJoined 28 = .ok (.aload_n 0, 1) := by decide +kernel
theorem dX7_isJoined_29 : decode cX7_isJoined 29 = .ok (.getfield 20, 3) := by decide +kernel
theorem dX7_isJoined_32 : decode cX7_isJoined 32 = .ok (.iload 5, 2) := by decide +kernel
theorem dX7_isJoined_34 : decode cX7_isJoined 34 = .ok (.aaload, 1) := by decide +kernel
theorem dX7_isJoined_35 : decode cX7_isJoined 35 = .ok (.iload_n 1, 1) := by decide +kernel
theorem dX7_isJoined_36 : decode cX7_isJoined 36 = .ok (.invokevirtual 39, 3) := by decide +kernel
theorem dX7_isJoined_39 : decode cX7_isJoined 39 = .ok (.ifCond .eq 20, 3) := by decide +kernel
theorem dX7_isJoined_42 : decode cX7_isJoined 42 = .ok (.aload_n 0, 1) := by decide +kernel
theorem dX7_isJoined_43 : decode cX7_isJoined 43 = .ok (.getfield 20, 3) := by decide +kernel
theorem dX7_isJoined_46 : decode cX7_isJoined 46 = .ok (.iload 5, 2) := by decide +kernel
theorem dX7_isJoined_48 : decode cX7_isJoined 48 = .ok (.aaload, 1) := by decide +kernel
theorem dX7_isJoined_49 : decode cX7_isJoined 49 = .ok (.iload_n 1, 1) := by decide +kernel
theorem dX7_isJoined_50 : decode cX7_isJoined 50 = .ok (.invokevirtual 43, 3) := by decide +kernel
theorem dX7_isJoined_53 : decode cX7_isJoined 53 = .ok (.iload_n 2, 1) := by decide +kernel
theorem dX7_isJoined_54 : decode cX7_isJoined 54 = .ok (.if_icmp .ne 5, 3) := by decide +kernel
theorem dX7_isJoined_57 : decode cX7_isJoined 57 = .ok (.iconst 1, 1) := by decide +kernel
theorem dX7_isJoined_58 : decode cX7_isJoined 58 = .ok (.ireturn, 1) := by decide +kernel
theorem dX7_isJoined_59 : decode cX7_isJoined 59 = .ok (.iinc 5 1, 3) := by decide +kernel
theorem dX7_isJoined_62 : decode cX7_isJoined 62 = .ok (.goto (-59), 3) := by decide +kernel
theorem dX7_isJoined_65 : decode cX7_isJoined 65 = .ok (.iconst 0, 1) := by decide +kernel
theorem dX7_isJoined_66 : decode cX7_isJoined 66 = .ok (.ireturn, 1) := by decide +kernel
theorem dX7_possibleCorners_0 : decode cX7_possibleCorners 0 = .ok (.iconst 0, 1) := by decide +kernel
theorem dX7_possibleCorners_1 : decode cX7_possibleCorners 1 = .ok (.istore 4, 2) := by decide +kernel
theorem dX7_possibleCorners_3 : decode cX7_possibleCorners 3 = .ok (.iconst 0, 1) := by decide +kernel
theorem dX7_possibleCorners_4 : decode cX7_possibleCorners 4 = .ok (.istore 5, 2) := by decide +kernel
theorem dX7_possibleCorners_6 : decode cX7_possibleCorners 6 = .ok (.iload 5, 2) := by decide +kernel
theorem dX7_possibleCorners_8 : decode cX7_possibleCorners 8 = .ok (.aload_n 0, 1) := by decide +kernel
theorem dX7_possibleCorners_9 : decode cX7_possibleCorners 9 = .ok (.getfield 24, 3) := by decide +kernel
theorem dX7_possibleCorners_12 : decode cX7_possibleCorners 12 = .ok (.if_icmp .ge 68, 3) := by decide +kernel
theorem dX7_possibleCorners_15 : decode cX7_possibleCorners 15 = .ok (.iload_n 1, 1) := by decide +kernel
theorem dX7_possibleCorners_16 : decode cX7_possibleCorners 16 = .ok (.aload_n 0, 1) := by decide +kernel
theorem dX7_possibleCorners_17 : decode cX7_possibleCorners 17 = .ok (.getfield 9, 3) := by decide +kernel
theorem dX7_possibleCorners_20 : decode cX7_possibleCorners 20 = .ok (.iload 5, 2) := by decide +kernel
theorem dX7_possibleCorners_22 : decode cX7_possibleCorners 22 = .ok (.iaload, 1) := by decide +kernel
theorem dX7_possibleCorners_23 : decode cX7_possibleCorners 23 = .ok (.iload_n 3, 1) := by decide +kernel
theorem dX7_possibleCorners_24 : decode cX7_possibleCorners 24 = .ok (.isub, 1) := by decide +kernel
theorem dX7_possibleCorners_25 : decode cX7_possibleCorners 25 = .ok (.aload_n 0, 1) := by decide +kernel
theorem dX7_possibleCorners_26 : decode cX7_possibleCorners 26 = .ok (.getfield 9, 3) := by decide +kernel
theorem dX7_possibleCorners_29 : decode cX7_possibleCorners 29 = .ok (.iload 5, 2) := by decide +kernel
theorem dX7_possibleCorners_31 : decode cX7_possibleCorners 31 = .ok (.iaload, 1) := by decide +kernel
theorem dX7_possibleCorners_32 : decode cX7_possibleCorners 32 = .ok (.iload_n 3, 1) := by decide +kernel
theorem dX7_possibleCorners_33 : decode cX7_possibleCorners 33 = .ok (.iadd, 1) := by decide +kernel
theorem dX7_possibleCorners_34 : decode cX7_possibleCorners 34 = .ok (.invokestatic 31, 3) := by decide +kernel
theorem dX7_possibleCorners_37 : decode cX7_possibleCorners 37 = .ok (.ifCond .eq 37, 3) := by decide +kernel
theorem dX7_possibleCorners_40 : decode cX7_possibleCorners 40 = .ok (.iload_n 2, 1) := by decide +kernel
theorem dX7_possibleCorners_41 : decode cX7_possibleCorners 41 = .ok (.aload_n 0, 1) := by decide +kernel
theorem dX7_possibleCorners_42 : decode cX7_possibleCorners 42 = .ok (.getfield 15, 3) := by decide +kernel
theorem dX7_possibleCorners_45 : decode cX7_possibleCorners 45 = .ok (.iload 5, 2) := by decide +kernel
theorem dX7_possibleCorners_47 : decode cX7_possibleCorners 47 = .ok (.iaload, 1) := by decide +kernel
theorem dX7_possibleCorners_48 : decode cX7_possibleCorners 48 = .ok (.iload_n 3, 1) := by decide +kernel
theorem dX7_possibleCorners_49 : decode cX7_possibleCorners 49 = .ok (.isub, 1) := by decide +kernel
theorem dX7_possibleCorners_50 : decode cX7_possibleCorners 50 = .ok (.aload_n 0, 1) := by decide +kernel
theorem dX7_possibleCorners_51 : decode cX7_possibleCorners 51 = .ok (.getfield 15, 3) := by decide +kernel
theorem dX7_possibleCorners_54 : decode cX7_possibleCorners 54 = .ok (.iload 5, 2) := by decide +kernel
theorem dX7_possibleCorners_56 : decode cX7_possibleCorners 56 = .ok (.iaload, 1) := by decide +kernel
theorem dX7_possibleCorners_57 : decode cX7_possibleCorners 57 = .ok (.iload_n 3, 1) := by decide +kernel
theorem dX7_possibleCorners_58 : decode cX7_possibleCorners 58 = .ok (.iadd, 1) := by decide +kernel
theorem dX7_possibleCorners_59 : decode cX7_possibleCorners 59 = .ok (.invokestatic 31, 3) := by decide +kernel
theorem dX7_possibleCorners_62 : decode cX7_possibleCorners 62 = .ok (.ifCond .eq 12, 3) := by decide +kernel
theorem dX7_possibleCorners_65 : decode cX7_possibleCorners 65 = .ok (.iload 4, 2) := by decide +kernel
theorem dX7_possibleCorners_67 : decode cX7_possibleCorners 67 = .ok (.iconst 1, 1) := by decide +kernel
theorem dX7_possibleCorners_68 : decode cX7_possibleCorners 68 = .ok (.iload 5, 2) := by decide +kernel
theorem dX7_possibleCorners_70 : decode cX7_possibleCorners 70 = .ok (.ishl, 1) := by decide +kernel
theorem dX7_possibleCorners_71 : decode cX7_possibleCorners 71 = .ok (.ior, 1) := by decide +kernel
theorem dX7_possibleCorners_72 : decode cX7_possibleCorners 72 = .ok (.istore 4, 2) := by decide +kernel
theorem dX7_possibleCorners_74 : decode cX7_possibleCorners 74 = .ok (.iinc 5 1, 3) := by decide +kernel
theorem dX7_possibleCorners_77 : decode cX7_possibleCorners 77 = .ok (.goto (-71), 3) := by decide +kernel
theorem dX7_possibleCorners_80 : decode cX7_possibleCorners 80 = .ok (.iload 4, 2) := by decide +kernel
theorem dX7_possibleCorners_82 : decode cX7_possibleCorners 82 = .ok (.ireturn, 1) := by decide +kernel
theorem dX8_init_0 : decode cX8_init 0 = .ok (.aload_n 0, 1) := by decide +kernel
theorem dX8_init_1 : decode cX8_init 1 = .ok (.invokespecial 3, 3) := by decide +kernel
theorem dX8_init_4 : decode cX8_init 4 = .ok (.aload_n 0, 1) := by decide +kernel
theorem dX8_init_5 : decode cX8_init 5 = .ok (.iconst 0, 1) := by decide +kernel
theorem dX8_init_6 : decode cX8_init 6 = .ok (.putfield 9, 3) := by decide +kernel
theorem dX8_init_9 : decode cX8_init 9 = .ok (.aload_n 0, 1) := by decide +kernel
theorem dX8_init_10 : decode cX8_init 10 = .ok (.iconst 0, 1) := by decide +kernel
theorem dX8_init_11 : decode cX8_init 11 = .ok (.putfield 15, 3) := by decide +kernel
theorem dX8_init_14 : decode cX8_init 14 = .ok (.aload_n 0, 1) := by decide +kernel
theorem dX8_init_15 : decode cX8_init 15 = .ok (.iconst 0, 1) := by decide +kernel
theorem dX8_init_16 : decode cX8_init 16 = .ok (.putfield 18, 3) := by decide +kernel
theorem dX8_init_19 : decode cX8_init 19 = .ok (.aload_n 0, 1) := by decide +kernel
theorem dX8_init_20 : decode cX8_init 20 = .ok (.iconst (-1), 1) := by decide +kernel
theorem dX8_init_21 : decode cX8_init 21 = .ok (.putfield 21, 3) := by decide +kernel
theorem dX8_init_24 : decode cX8_init 24 = .ok (.aload_n 0, 1) := by decide +kernel
theorem dX8_init_25 : decode cX8_init 25 = .ok (.iconst (-1), 1) := by decide +kernel
theorem dX8_init_26 : decode cX8_init 26 = .ok (.putfield 24, 3) := by decide +kernel
theorem dX8_init_29 : decode cX8_init 29 = .ok (.aload_n 0, 1) := by decide +kernel
theorem dX8_init_30 : decode cX8_init 30 = .ok (.iconst 0, 1) := by decide +kernel
theorem dX8_init_31 : decode cX8_init 31 = .ok (.putfield 27, 3) := by decide +kernel
theorem dX8_init_34 : decode cX8_init 34 = .ok (.aload_n 0, 1) := by decide +kernel
theorem dX8_init_35 : decode cX8_init 35 = .ok (.aload_n 1, 1) := by decide +kernel
theorem dX8_init_36 : decode cX8_init 36 = .ok (.putfield 30, 3) := by decide +kernel
theorem dX8_init_39 : decode cX8_init 39 = .ok (.aload_n 0, 1) := by decide +kernel
theorem dX8_init_40 : decode cX8_init 40 = .ok (.iload_n 2, 1) := by decide +kernel
theorem dX8_init_41 : decode cX8_init 41 = .ok (.putfield 34, 3) := by decide +kernel
theorem dX8_init_44 : decode cX8_init 44 = .ok (.aload_n 0, 1) := by decide +kernel
theorem dX8_init_45 : decode cX8_init 45 = .ok (.iload_n 3, 1) := by decide +kernel
theorem dX8_init_46 : decode cX8_init 46 = .ok (.putfield 37, 3) := by decide +kernel
theorem dX8_init_49 : decode cX8_init 49 = .ok (.return_, 1) := by decide +kernel
theorem dX8_isOver_0 : decode cX8_isOver 0 = .ok (.aload_n 0, 1) := by decide +kernel
theorem dX8_isOver_1 : decode cX8_isOver 1 = .ok (.getfield 30, 3) := by decide +kernel
theorem dX8_isOver_4 : decode cX8_isOver 4 = .ok (.aload_n 0, 1) := by decide +kernel
theorem dX8_isOver_5 : decode cX8_isOver 5 = .ok (.getfield 15, 3) := by decide +kernel
theorem dX8_isOver_8 : decode cX8_isOver 8 = .ok (.invokevirtual 41, 3) := by decide +kernel
theorem dX8_isOver_11 : decode cX8_isOver 11 = .ok (.ireturn, 1) := by decide +kernel
theorem dX8_listen_0 : decode cX8_listen 0 = .ok (.iconst 0, 1) := by decide +kernel
theorem dX8_listen_1 : decode cX8_listen 1 = .ok (.istore_n 2, 1) := by decide +kernel
theorem dX8_listen_2 : decode cX8_listen 2 = .ok (.iconst 0, 1) := by decide +kernel
theorem dX8_listen_3 : decode cX8_listen 3 = .ok (.istore_n 3, 1) := by decide +kernel
theorem dX8_listen_4 : decode cX8_listen 4 = .ok (.iload_n 3, 1) := by decide +kernel
theorem dX8_listen_5 : decode cX8_listen 5 = .ok (.bipush 12, 2) := by decide +kernel
theorem dX8_listen_7 : decode cX8_listen 7 = .ok (.if_icmp .ge 90, 3) := by decide +kernel
theorem dX8_listen_10 : decode cX8_listen 10 = .ok (.aload_n 0, 1) := by decide +kernel
theorem dX8_listen_11 : decode cX8_listen 11 = .ok (.invokevirtual 47, 3) := by decide +kernel
theorem dX8_listen_14 : decode cX8_listen 14 = .ok (.ifCond .ne 83, 3) := by decide +kernel
theorem dX8_listen_17 : decode cX8_listen 17 = .ok (.aload_n 0, 1) := by decide +kernel
theorem dX8_listen_18 : decode cX8_listen 18 = .ok (.getfield 30, 3) := by decide +kernel
theorem dX8_listen_21 : decode cX8_listen 21 = .ok (.iconst 0, 1) := by decide +kernel
theorem dX8_listen_22 : decode cX8_listen 22 = .ok (.aload_n 0, 1) := by decide +kernel
theorem dX8_listen_23 : decode cX8_listen 23 = .ok (.getfield 9, 3) := by decide +kernel
theorem dX8_listen_26 : decode cX8_listen 26 = .ok (.aload_n 0, 1) := by decide +kernel
theorem dX8_listen_27 : decode cX8_listen 27 = .ok (.getfield 15, 3) := by decide +kernel
theorem dX8_listen_30 : decode cX8_listen 30 = .ok (.iload_n 1, 1) := by decide +kernel
theorem dX8_listen_31 : decode cX8_listen 31 = .ok (.invokevirtual 50, 3) := by decide +kernel
theorem dX8_listen_34 : decode cX8_listen 34 = .ok (.istore 4, 2) := by decide +kernel
theorem dX8_listen_36 : decode cX8_listen 36 = .ok (.aload_n 0, 1) := by decide +kernel
theorem dX8_listen_37 : decode cX8_listen 37 = .ok (.getfield 30, 3) := by decide +kernel
theorem dX8_listen_40 : decode cX8_listen 40 = .ok (.iload 4, 2) := by decide +kernel
theorem dX8_listen_42 : decode cX8_listen 42 = .ok (.invokevirtual 54, 3) := by decide +kernel
theorem dX8_listen_45 : decode cX8_listen 45 = .ok (.astore 5, 2) := by decide +kernel
theorem dX8_listen_47 : decode cX8_listen 47 = .ok (.aload 5, 2) := by decide +kernel
theorem dX8_listen_49 : decode cX8_listen 49 = .ok (.ifnonnull 6, 3) := by decide +kernel
theorem dX8_listen_52 : decode cX8_listen 52 = .ok (.goto 45, 3) := by decide +kernel
theorem dX8_listen_55 : decode cX8_listen 55 = .ok (.aload_n 0, 1) := by decide +kernel
theorem dX8_listen_56 : decode cX8_listen 56 = .ok (.dup, 1) := by decide +kernel
theorem dX8_listen_57 : decode cX8_listen 57 = .ok (.getfield 15, 3) := by decide +kernel
theorem dX8_listen_60 : decode cX8_listen 60 = .ok (.iconst 1, 1) := by decide +kernel
theorem dX8_listen_61 : decode cX8_listen 61 = .ok (.iload 4, 2) := by decide +kernel
theorem dX8_listen_63 : decode cX8_listen 63 = .ok (.ishl, 1) := by decide +kernel
theorem dX8_listen_64 : decode cX8_listen 64 = .ok (.ior, 1) := by decide +kernel
theorem dX8_listen_65 : decode cX8_listen 65 = .ok (.putfield 15, 3) := by decide +kernel
theorem dX8_listen_68 : decode cX8_listen 68 = .ok (.aload_n 0, 1) := by decide +kernel
theorem dX8_listen_69 : decode cX8_listen 69 = .ok (.dup, 1) := by decide +kernel
theorem dX8_listen_70 : decode cX8_listen 70 = .ok (.getfield 18, 3) := by decide +kernel
theorem dX8_listen_73 : decode cX8_listen 73 = .ok (.aload 5, 2) := by decide +kernel
theorem dX8_listen_75 : decode cX8_listen 75 = .ok (.getfield 58, 3) := by decide +kernel
theorem dX8_listen_78 : decode cX8_listen 78 = .ok (.iadd, 1) := by decide +kernel
theorem dX8_listen_79 : decode cX8_listen 79 = .ok (.putfield 18, 3) := by decide +kernel
theorem dX8_listen_82 : decode cX8_listen 82 = .ok (.aload_n 0, 1) := by decide +kernel
theorem dX8_listen_83 : decode cX8_listen 83 = .ok (.iload 4, 2) := by decide +kernel
theorem dX8_listen_85 : decode cX8_listen 85 = .ok (.putfield 21, 3) := by decide +kernel
theorem dX8_listen_88 : decode cX8_listen 88 = .ok (.iinc 2 1, 3) := by decide +kernel
theorem dX8_listen_91 : decode cX8_listen 91 = .ok (.iinc 3 1, 3) := by decide +kernel
theorem dX8_listen_94 : decode cX8_listen 94 = .ok (.goto (-90), 3) := by decide +kernel
theorem dX8_listen_97 : decode cX8_listen 97 = .ok (.iload_n 2, 1) := by decide +kernel
theorem dX8_listen_98 : decode cX8_listen 98 = .ok (.ireturn, 1) := by decide +kernel
theorem dX8_arrive_0 : decode cX8_arrive 0 = .ok (.aload_n 0, 1) := by decide +kernel
theorem dX8_arrive_1 : decode cX8_arrive 1 = .ok (.iload_n 1, 1) := by decide +kernel
theorem dX8_arrive_2 : decode cX8_arrive 2 = .ok (.putfield 9, 3) := by decide +kernel
theorem dX8_arrive_5 : decode cX8_arrive 5 = .ok (.aload_n 0, 1) := by decide +kernel
theorem dX8_arrive_6 : decode cX8_arrive 6 = .ok (.invokevirtual 63, 3) := by decide +kernel
theorem dX8_arrive_9 : decode cX8_arrive 9 = .ok (.aload_n 0, 1) := by decide +kernel
theorem dX8_arrive_10 : decode cX8_arrive 10 = .ok (.iload_n 2, 1) := by decide +kernel
theorem dX8_arrive_11 : decode cX8_arrive 11 = .ok (.invokevirtual 66, 3) := by decide +kernel
theorem dX8_arrive_14 : decode cX8_arrive 14 = .ok (.ireturn, 1) := by decide +kernel
theorem dX8_takeReading_0 : decode cX8_takeReading 0 = .ok (.aload_n 1, 1) := by decide +kernel
theorem dX8_takeReading_1 : decode cX8_takeReading 1 = .ok (.iload_n 3, 1) := by decide +kernel
theorem dX8_takeReading_2 : decode cX8_takeReading 2 = .ok (.iload 4, 2) := by decide +kernel
theorem dX8_takeReading_4 : decode cX8_takeReading 4 = .ok (.iload 5, 2) := by decide +kernel
theorem dX8_takeReading_6 : decode cX8_takeReading 6 = .ok (.invokevirtual 70, 3) := by decide +kernel
theorem dX8_takeReading_9 : decode cX8_takeReading 9 = .ok (.istore 6, 2) := by decide +kernel
theorem dX8_takeReading_11 : decode cX8_takeReading 11 = .ok (.iload 6, 2) := by decide +kernel
theorem dX8_takeReading_13 : decode cX8_takeReading 13 = .ok (.aload_n 0, 1) := by decide +kernel
theorem dX8_takeReading_14 : decode cX8_takeReading 14 = .ok (.getfield 9, 3) := by decide +kernel
theorem dX8_takeReading_17 : decode cX8_takeReading 17 = .ok (.invokestatic 76, 3) := by decide +kernel
theorem dX8_takeReading_20 : decode cX8_takeReading 20 = .ok (.ifCond .eq 10, 3) := by decide +kernel
theorem dX8_takeReading_23 : decode cX8_takeReading 23 = .ok (.aload_n 0, 1) := by decide +kernel
theorem dX8_takeReading_24 : decode cX8_takeReading 24 = .ok (.invokevirtual 63, 3) := by decide +kernel
theorem dX8_takeReading_27 : decode cX8_takeReading 27 = .ok (.goto 23, 3) := by decide +kernel
theorem dX8_takeReading_30 : decode cX8_takeReading 30 = .ok (.iload 6, 2) := by decide +kernel
theorem dX8_takeReading_32 : decode cX8_takeReading 32 = .ok (.invokestatic 80, 3) := by decide +kernel
theorem dX8_takeReading_35 : decode cX8_takeReading 35 = .ok (.iconst 1, 1) := by decide +kernel
theorem dX8_takeReading_36 : decode cX8_takeReading 36 = .ok (.if_icmp .ne 14, 3) := by decide +kernel
theorem dX8_takeReading_39 : decode cX8_takeReading 39 = .ok (.aload_n 0, 1) := by decide +kernel
theorem dX8_takeReading_40 : decode cX8_takeReading 40 = .ok (.aload_n 1, 1) := by decide +kernel
theorem dX8_takeReading_41 : decode cX8_takeReading 41 = .ok (.iload_n 2, 1) := by decide +kernel
theorem dX8_takeReading_42 : decode cX8_takeReading 42 = .ok (.iload 6, 2) := by decide +kernel
theorem dX8_takeReading_44 : decode cX8_takeReading 44 = .ok (.invokestatic 85, 3) := by decide +kernel
theorem dX8_takeReading_47 : decode cX8_takeReading 47 = .ok (.invokevirtual 88, 3) := by decide +kernel
theorem dX8_takeReading_50 : decode cX8_takeReading 50 = .ok (.return_, 1) := by decide +kernel
theorem dX8_sight_0 : decode cX8_sight 0 = .ok (.iload_n 3, 1) := by decide +kernel
theorem dX8_sight_1 : decode cX8_sight 1 = .ok (.aload_n 0, 1) := by decide +kernel
theorem dX8_sight_2 : decode cX8_sight 2 = .ok (.getfield 24, 3) := by decide +kernel
theorem dX8_sight_5 : decode cX8_sight 5 = .ok (.if_icmp .eq 13, 3) := by decide +kernel
theorem dX8_sight_8 : decode cX8_sight 8 = .ok (.aload_n 0, 1) := by decide +kernel
theorem dX8_sight_9 : decode cX8_sight 9 = .ok (.iload_n 3, 1) := by decide +kernel
theorem dX8_sight_10 : decode cX8_sight 10 = .ok (.putfield 24, 3) := by decide +kernel
theorem dX8_sight_13 : decode cX8_sight 13 = .ok (.aload_n 0, 1) := by decide +kernel
theorem dX8_sight_14 : decode cX8_sight 14 = .ok (.iconst 0, 1) := by decide +kernel
theorem dX8_sight_15 : decode cX8_sight 15 = .ok (.putfield 27, 3) := by decide +kernel
theorem dX8_sight_18 : decode cX8_sight 18 = .ok (.aload_n 0, 1) := by decide +kernel
theorem dX8_sight_19 : decode cX8_sight 19 = .ok (.dup, 1) := by decide +kernel
theorem dX8_sight_20 : decode cX8_sight 20 = .ok (.getfield 27, 3) := by decide +kernel
theorem dX8_sight_23 : decode cX8_sight 23 = .ok (.iconst 1, 1) := by decide +kernel
theorem dX8_sight_24 : decode cX8_sight 24 = .ok (.iadd, 1) := by decide +kernel
theorem dX8_sight_25 : decode cX8_sight 25 = .ok (.putfield 27, 3) := by decide +kernel
theorem dX8_sight_28 : decode cX8_sight 28 = .ok (.aload_n 1, 1) := by decide +kernel
theorem dX8_sight_29 : decode cX8_sight 29 = .ok (.aload_n 0, 1) := by decide +kernel
theorem dX8_sight_30 : decode cX8_sight 30 = .ok (.getfield 9, 3) := by decide +kernel
theorem dX8_sight_33 : decode cX8_sight 33 = .ok (.iload_n 3, 1) := by decide +kernel
theorem dX8_sight_34 : decode cX8_sight 34 = .ok (.iload_n 2, 1) := by decide +kernel
theorem dX8_sight_35 : decode cX8_sight 35 = .ok (.aload_n 0, 1) := by decide +kernel
theorem dX8_sight_36 : decode cX8_sight 36 = .ok (.getfield 37, 3) := by decide +kernel
theorem dX8_sight_39 : decode cX8_sight 39 = .ok (.invokevirtual 92, 3) := by decide +kernel
theorem dX8_sight_42 : decode cX8_sight 42 = .ok (.ifCond .eq 7, 3) := by decide +kernel
theorem dX8_sight_45 : decode cX8_sight 45 = .ok (.iconst 2, 1) := by decide +kernel
theorem dX8_sight_46 : decode cX8_sight 46 = .ok (.goto 4, 3) := by decide +kernel
theorem dX8_sight_49 : decode cX8_sight 49 = .ok (.iconst 4, 1) := by decide +kernel
theorem dX8_sight_50 : decode cX8_sight 50 = .ok (.istore 4, 2) := by decide +kernel
theorem dX8_sight_52 : decode cX8_sight 52 = .ok (.aload_n 0, 1) := by decide +kernel
theorem dX8_sight_53 : decode cX8_sight 53 = .ok (.getfield 27, 3) := by decide +kernel
theorem dX8_sight_56 : decode cX8_sight 56 = .ok (.iload 4, 2) := by decide +kernel
theorem dX8_sight_58 : decode cX8_sight 58 = .ok (.if_icmp .lt 10, 3) := by decide +kernel
theorem dX8_sight_61 : decode cX8_sight 61 = .ok (.aload_n 0, 1) := by decide +kernel
theorem dX8_sight_62 : decode cX8_sight 62 = .ok (.iload_n 3, 1) := by decide +kernel
theorem dX8_sight_63 : decode cX8_sight 63 = .ok (.iload_n 2, 1) := by decide +kernel
theorem dX8_sight_64 : decode cX8_sight 64 = .ok (.invokevirtual 96, 3) := by decide +kernel
theorem dX8_sight_67 : decode cX8_sight 67 = .ok (.pop, 1) := by decide +kernel
theorem dX8_sight_68 : decode cX8_sight 68 = .ok (.return_, 1) := by decide +kernel
theorem dX8_forgetSightings_0 : decode cX8_forgetSightings 0 = .ok (.aload_n 0, 1) := by decide +kernel
theorem dX8_forgetSightings_1 : decode cX8_forgetSightings 1 = .ok (.iconst (-1), 1) := by decide +kernel
theorem dX8_forgetSightings_2 : decode cX8_forgetSightings 2 = .ok (.putfield 24, 3) := by decide +kernel
theorem dX8_forgetSightings_5 : decode cX8_forgetSightings 5 = .ok (.aload_n 0, 1) := by decide +kernel
theorem dX8_forgetSightings_6 : decode cX8_forgetSightings 6 = .ok (.iconst 0, 1) := by decide +kernel
theorem dX8_forgetSightings_7 : decode cX8_forgetSightings 7 = .ok (.putfield 27, 3) := by decide +kernel
theorem dX8_forgetSightings_10 : decode cX8_forgetSightings 10 = .ok (.return_, 1) := by decide +kernel
theorem dX9_init_0 : decode cX9_init 0 = .ok (.aload_n 0, 1) := by decide +kernel
theorem dX9_init_1 : decode cX9_init 1 = .ok (.invokespecial 1, 3) := by decide +kernel
theorem dX9_init_4 : decode cX9_init 4 = .ok (.aload_n 0, 1) := by decide +kernel
theorem dX9_init_5 : decode cX9_init 5 = .ok (.iconst 0, 1) := by decide +kernel
theorem dX9_init_6 : decode cX9_init 6 = .ok (.putfield 7, 3) := by decide +kernel
theorem dX9_init_9 : decode cX9_init 9 = .ok (.aload_n 0, 1) := by decide +kernel
theorem dX9_init_10 : decode cX9_init 10 = .ok (.iload_n 1, 1) := by decide +kernel
theorem dX9_init_11 : decode cX9_init 11 = .ok (.putfield 13, 3) := by decide +kernel
theorem dX9_init_14 : decode cX9_init 14 = .ok (.aload_n 0, 1) := by decide +kernel
theorem dX9_init_15 : decode cX9_init 15 = .ok (.iload_n 2, 1) := by decide +kernel
theorem dX9_init_16 : decode cX9_init 16 = .ok (.putfield 16, 3) := by decide +kernel
theorem dX9_init_19 : decode cX9_init 19 = .ok (.aload_n 0, 1) := by decide +kernel
theorem dX9_init_20 : decode cX9_init 20 = .ok (.iload_n 3, 1) := by decide +kernel
theorem dX9_init_21 : decode cX9_init 21 = .ok (.putfield 19, 3) := by decide +kernel
theorem dX9_init_24 : decode cX9_init 24 = .ok (.aload_n 0, 1) := by decide +kernel
theorem dX9_init_25 : decode cX9_init 25 = .ok (.iload 4, 2) := by decide +kernel
theorem dX9_init_27 : decode cX9_init 27 = .ok (.putfield 22, 3) := by decide +kernel
theorem dX9_init_30 : decode cX9_init 30 = .ok (.return_, 1) := by decide +kernel
theorem dX9_leadsFrom_0 : decode cX9_leadsFrom 0 = .ok (.iload_n 1, 1) := by decide +kernel
theorem dX9_leadsFrom_1 : decode cX9_leadsFrom 1 = .ok (.aload_n 0, 1) := by decide +kernel
theorem dX9_leadsFrom_2 : decode cX9_leadsFrom 2 = .ok (.getfield 13, 3) := by decide +kernel
theorem dX9_leadsFrom_5 : decode cX9_leadsFrom 5 = .ok (.if_icmp .eq 11, 3) := by decide +kernel
theorem dX9_leadsFrom_8 : decode cX9_leadsFrom 8 = .ok (.iload_n 1, 1) := by decide +kernel
theorem dX9_leadsFrom_9 : decode cX9_leadsFrom 9 = .ok (.aload_n 0, 1) := by decide +kernel
theorem dX9_leadsFrom_10 : decode cX9_leadsFrom 10 = .ok (.getfield 16, 3) := by decide +kernel
theorem dX9_leadsFrom_13 : decode cX9_leadsFrom 13 = .ok (.if_icmp .ne 7, 3) := by decide +kernel
theorem dX9_leadsFrom_16 : decode cX9_leadsFrom 16 = .ok (.iconst 1, 1) := by decide +kernel
theorem dX9_leadsFrom_17 : decode cX9_leadsFrom 17 = .ok (.goto 4, 3) := by decide +kernel
theorem dX9_leadsFrom_20 : decode cX9_leadsFrom 20 = .ok (.iconst 0, 1) := by decide +kernel
theorem dX9_leadsFrom_21 : decode cX9_leadsFrom 21 = .ok (.ireturn, 1) := by decide +kernel
theorem dX9_otherEnd_0 : decode cX9_otherEnd 0 = .ok (.iload_n 1, 1) := by decide +kernel
theorem dX9_otherEnd_1 : decode cX9_otherEnd 1 = .ok (.aload_n 0, 1) := by decide +kernel
theorem dX9_otherEnd_2 : decode cX9_otherEnd 2 = .ok (.getfield 13, 3) := by decide +kernel
theorem dX9_otherEnd_5 : decode cX9_otherEnd 5 = .ok (.if_icmp .ne 10, 3) := by decide +kernel
theorem dX9_otherEnd_8 : decode cX9_otherEnd 8 = .ok (.aload_n 0, 1) := by decide +kernel
theorem dX9_otherEnd_9 : decode cX9_otherEnd 9 = .ok (.getfield 16, 3) := by decide +kernel
theorem dX9_otherEnd_12 : decode cX9_otherEnd 12 = .ok (.goto 7, 3) := by decide +kernel
theorem dX9_otherEnd_15 : decode cX9_otherEnd 15 = .ok (.aload_n 0, 1) := by decide +kernel
theorem dX9_otherEnd_16 : decode cX9_otherEnd 16 = .ok (.getfield 13, 3) := by decide +kernel
theorem dX9_otherEnd_19 : decode cX9_otherEnd 19 = .ok (.ireturn, 1) := by decide +kernel
theorem dX9_isShut_0 : decode cX9_isShut 0 = .ok (.aload_n 0, 1) := by decide +kernel
theorem dX9_isShut_1 : decode cX9_isShut 1 = .ok (.getfield 7, 3) := by decide +kernel
theorem dX9_isShut_4 : decode cX9_isShut 4 = .ok (.iload_n 1, 1) := by decide +kernel
theorem dX9_isShut_5 : decode cX9_isShut 5 = .ok (.invokestatic 26, 3) := by decide +kernel
theorem dX9_isShut_8 : decode cX9_isShut 8 = .ok (.ireturn, 1) := by decide +kernel
theorem dX9_isFor_0 : decode cX9_isFor 0 = .ok (.iload_n 1, 1) := by decide +kernel
theorem dX9_isFor_1 : decode cX9_isFor 1 = .ok (.ifCond .ne 10, 3) := by decide +kernel
theorem dX9_isFor_4 : decode cX9_isFor 4 = .ok (.aload_n 0, 1) := by decide +kernel
theorem dX9_isFor_5 : decode cX9_isFor 5 = .ok (.getfield 22, 3) := by decide +kernel
theorem dX9_isFor_8 : decode cX9_isFor 8 = .ok (.ifCond .ne 7, 3) := by decide +kernel
theorem dX9_isFor_11 : decode cX9_isFor 11 = .ok (.iconst 1, 1) := by decide +kernel
theorem dX9_isFor_12 : decode cX9_isFor 12 = .ok (.goto 4, 3) := by decide +kernel
theorem dX9_isFor_15 : decode cX9_isFor 15 = .ok (.iconst 0, 1) := by decide +kernel
theorem dX9_isFor_16 : decode cX9_isFor 16 = .ok (.ireturn, 1) := by decide +kernel
theorem dX9_isOpen_0 : decode cX9_isOpen 0 = .ok (.aload_n 0, 1) := by decide +kernel
theorem dX9_isOpen_1 : decode cX9_isOpen 1 = .ok (.iload_n 1, 1) := by decide +kernel
theorem dX9_isOpen_2 : decode cX9_isOpen 2 = .ok (.invokevirtual 32, 3) := by decide +kernel
theorem dX9_isOpen_5 : decode cX9_isOpen 5 = .ok (.ifCond .ne 15, 3) := by decide +kernel
theorem dX9_isOpen_8 : decode cX9_isOpen 8 = .ok (.aload_n 0, 1) := by decide +kernel
theorem dX9_isOpen_9 : decode cX9_isOpen 9 = .ok (.iload_n 2, 1) := by decide +kernel
theorem dX9_isOpen_10 : decode cX9_isOpen 10 = .ok (.invokevirtual 36, 3) := by decide +kernel
theorem dX9_isOpen_13 : decode cX9_isOpen 13 = .ok (.ifCond .eq 7, 3) := by decide +kernel
theorem dX9_isOpen_16 : decode cX9_isOpen 16 = .ok (.iconst 1, 1) := by decide +kernel
theorem dX9_isOpen_17 : decode cX9_isOpen 17 = .ok (.goto 4, 3) := by decide +kernel
theorem dX9_isOpen_20 : decode cX9_isOpen 20 = .ok (.iconst 0, 1) := by decide +kernel
theorem dX9_isOpen_21 : decode cX9_isOpen 21 = .ok (.ireturn, 1) := by decide +kernel
end
section
theorem dX10_init_0 : decode cX10_init 0 = .ok (.aload_n 0, 1) := by decide +kernel
theorem dX10_init_1 : decode cX10_init 1 = .ok (.invokespecial 1, 3) := by decide +kernel
theorem dX10_init_4 : decode cX10_init 4 = .ok (.aload_n 0, 1) := by decide +kernel
theorem dX10_init_5 : decode cX10_init 5 = .ok (.new 7, 3) := by decide +kernel
theorem dX10_init_8 : decode cX10_init 8 = .ok (.dup, 1) := by decide +kernel
theorem dX10_init_9 : decode cX10_init 9 = .ok (.invokespecial 9, 3) := by decide +kernel
theorem dX10_init_12 : decode cX10_init 12 = .ok (.putfield 10, 3) := by decide +kernel
theorem dX10_init_15 : decode cX10_init 15 = .ok (.aload_n 0, 1) := by decide +kernel
theorem dX10_init_16 : decode cX10_init 16 = .ok (.new 16, 3) := by decide +kernel
theorem dX10_init_19 : decode cX10_init 19 = .ok (.dup, 1) := by decide +kernel
theorem dX10_init_20 : decode cX10_init 20 = .ok (.invokespecial 18, 3) := by decide +kernel
theorem dX10_init_23 : decode cX10_init 23 = .ok (.putfield 19, 3) := by decide +kernel
theorem dX10_init_26 : decode cX10_init 26 = .ok (.aload_n 0, 1) := by decide +kernel
theorem dX10_init_27 : decode cX10_init 27 = .ok (.iconst 4, 1) := by decide +kernel
theorem dX10_init_28 : decode cX10_init 28 = .ok (.anewarray 23, 3) := by decide +kernel
theorem dX10_init_31 : decode cX10_init 31 = .ok (.putfield 25, 3) := by decide +kernel
theorem dX10_init_34 : decode cX10_init 34 = .ok (.aload_n 0, 1) := by decide +kernel
theorem dX10_init_35 : decode cX10_init 35 = .ok (.bipush 6, 2) := by decide +kernel
theorem dX10_init_37 : decode cX10_init 37 = .ok (.anewarray 29, 3) := by decide +kernel
theorem dX10_init_40 : decode cX10_init 40 = .ok (.putfield 31, 3) := by decide +kernel
theorem dX10_init_43 : decode cX10_init 43 = .ok (.aload_n 0, 1) := by decide +kernel
theorem dX10_init_44 : decode cX10_init 44 = .ok (.iconst 4, 1) := by decide +kernel
theorem dX10_init_45 : decode cX10_init 45 = .ok (.anewarray 35, 3) := by decide +kernel
theorem dX10_init_48 : decode cX10_init 48 = .ok (.putfield 37, 3) := by decide +kernel
theorem dX10_init_51 : decode cX10_init 51 = .ok (.aload_n 0, 1) := by decide +kernel
theorem dX10_init_52 : decode cX10_init 52 = .ok (.new 41, 3) := by decide +kernel
theorem dX10_init_55 : decode cX10_init 55 = .ok (.dup, 1) := by decide +kernel
theorem dX10_init_56 : decode cX10_init 56 = .ok (.invokespecial 43, 3) := by decide +kernel
theorem dX10_init_59 : decode cX10_init 59 = .ok (.putfield 44, 3) := by decide +kernel
theorem dX10_init_62 : decode cX10_init 62 = .ok (.aload_n 0, 1) := by decide +kernel
theorem dX10_init_63 : decode cX10_init 63 = .ok (.iconst 0, 1) := by decide +kernel
theorem dX10_init_64 : decode cX10_init 64 = .ok (.putfield 48, 3) := by decide +kernel
theorem dX10_init_67 : decode cX10_init 67 = .ok (.aload_n 0, 1) := by decide +kernel
theorem dX10_init_68 : decode cX10_init 68 = .ok (.iconst 0, 1) := by decide +kernel
theorem dX10_init_69 : decode cX10_init 69 = .ok (.putfield 52, 3) := by decide +kernel
theorem dX10_init_72 : decode cX10_init 72 = .ok (.aload_n 0, 1) := by decide +kernel
theorem dX10_init_73 : decode cX10_init 73 = .ok (.iconst 0, 1) := by decide +kernel
theorem dX10_init_74 : decode cX10_init 74 = .ok (.putfield 55, 3) := by decide +kernel
theorem dX10_init_77 : decode cX10_init 77 = .ok (.aload_n 0, 1) := by decide +kernel
theorem dX10_init_78 : decode cX10_init 78 = .ok (.iconst 0, 1) := by decide +kernel
theorem dX10_init_79 : decode cX10_init 79 = .ok (.putfield 58, 3) := by decide +kernel
theorem dX10_init_82 : decode cX10_init 82 = .ok (.return_, 1) := by decide +kernel
theorem dX10_corner_0 : decode cX10_corner 0 = .ok (.iload_n 1, 1) := by decide +kernel
theorem dX10_corner_1 : decode cX10_corner 1 = .ok (.iconst 0, 1) := by decide +kernel
theorem dX10_corner_2 : decode cX10_corner 2 = .ok (.bipush 99, 2) := by decide +kernel
theorem dX10_corner_4 : decode cX10_corner 4 = .ok (.invokestatic 61, 3) := by decide +kernel
theorem dX10_corner_7 : decode cX10_corner 7 = .ok (.ifCond .eq 13, 3) := by decide +kernel
theorem dX10_corner_10 : decode cX10_corner 10 = .ok (.iload_n 2, 1) := by decide +kernel
theorem dX10_corner_11 : decode cX10_corner 11 = .ok (.iconst 0, 1) := by decide +kernel
theorem dX10_corner_12 : decode cX10_corner 12 = .ok (.bipush 99, 2) := by decide +kernel
theorem dX10_corner_14 : decode cX10_corner 14 = .ok (.invokestatic 61, 3) := by decide +kernel
theorem dX10_corner_17 : decode cX10_corner 17 = .ok (.ifCond .ne 10, 3) := by decide +kernel
theorem dX10_corner_20 : decode cX10_corner 20 = .ok (.aload_n 0, 1) := by decide +kernel
theorem dX10_corner_21 : decode cX10_corner 21 = .ok (.ldc 65, 2) := by decide +kernel
theorem dX10_corner_23 : decode cX10_corner 23 = .ok (.invokevirtual 66, 3) := by decide +kernel
theorem dX10_corner_26 : decode cX10_corner 26 = .ok (.ireturn, 1) := by decide +kernel
theorem dX10_corner_27 : decode cX10_corner 27 = .ok (.aload_n 0, 1) := by decide +kernel
theorem dX10_corner_28 : decode cX10_corner 28 = .ok (.getfield 10, 3) := by decide +kernel
theorem dX10_corner_31 : decode cX10_corner 31 = .ok (.getfield 70, 3) := by decide +kernel
theorem dX10_corner_34 : decode cX10_corner 34 = .ok (.bipush 8, 2) := by decide +kernel
theorem dX10_corner_36 : decode cX10_corner 36 = .ok (.if_icmp .lt 10, 3) := by decide +kernel
theorem dX10_corner_39 : decode cX10_corner 39 = .ok (.aload_n 0, 1) := by decide +kernel
theorem dX10_corner_40 : decode cX10_corner 40 = .ok (.ldc 73, 2) := by decide +kernel
theorem dX10_corner_42 : decode cX10_corner 42 = .ok (.invokevirtual 66, 3) := by decide +kernel
theorem dX10_corner_45 : decode cX10_corner 45 = .ok (.ireturn, 1) := by decide +kernel
theorem dX10_corner_46 : decode cX10_corner 46 = .ok (.aload_n 0, 1) := by decide +kernel
theorem dX10_corner_47 : decode cX10_corner 47 = .ok (.getfield 10, 3) := by decide +kernel
theorem dX10_corner_50 : decode cX10_corner 50 = .ok (.iload_n 1, 1) := by decide +kernel
theorem dX10_corner_51 : decode cX10_corner 51 = .ok (.iload_n 2, 1) := by decide +kernel
theorem dX10_corner_52 : decode cX10_corner 52 = .ok (.invokevirtual 74, 3) := by decide +kernel
theorem dX10_corner_55 : decode cX10_corner 55 = .ok (.ireturn, 1) := by decide +kernel
theorem dX10_way_0 : decode cX10_way 0 = .ok (.aload_n 0, 1) := by decide +kernel
theorem dX10_way_1 : decode cX10_way 1 = .ok (.getfield 10, 3) := by decide +kernel
theorem dX10_way_4 : decode cX10_way 4 = .ok (.iload_n 1, 1) := by decide +kernel
theorem dX10_way_5 : decode cX10_way 5 = .ok (.invokevirtual 78, 3) := by decide +kernel
theorem dX10_way_8 : decode cX10_way 8 = .ok (.ifCond .eq 19, 3) := by decide +kernel
theorem dX10_way_11 : decode cX10_way 11 = .ok (.aload_n 0, 1) := by decide +kernel
theorem dX10_way_12 : decode cX10_way 12 = .ok (.getfield 10, 3) := by decide +kernel
theorem dX10_way_15 : decode cX10_way 15 = .ok (.iload_n 2, 1) := by decide +kernel
theorem dX10_way_16 : decode cX10_way 16 = .ok (.invokevirtual 78, 3) := by decide +kernel
theorem dX10_way_19 : decode cX10_way 19 = .ok (.ifCond .eq 8, 3) := by decide +kernel
theorem dX10_way_22 : decode cX10_way 22 = .ok (.iload_n 1, 1) := by decide +kernel
theorem dX10_way_23 : decode cX10_way 23 = .ok (.iload_n 2, 1) := by decide +kernel
theorem dX10_way_24 : decode cX10_way 24 = .ok (.if_icmp .ne 10, 3) := by decide +kernel
theorem dX10_way_27 : decode cX10_way 27 = .ok (.aload_n 0, 1) := by decide +kernel
theorem dX10_way_28 : decode cX10_way 28 = .ok (.ldc 65, 2) := by decide +kernel
theorem dX10_way_30 : decode cX10_way 30 = .ok (.invokevirtual 66, 3) := by decide +kernel
theorem dX10_way_33 : decode cX10_way 33 = .ok (.ireturn, 1) := by decide +kernel
theorem dX10_way_34 : decode cX10_way 34 = .ok (.iload_n 3, 1) := by decide +kernel
theorem dX10_way_35 : decode cX10_way 35 = .ok (.iconst 1, 1) := by decide +kernel
theorem dX10_way_36 : decode cX10_way 36 = .ok (.bipush 20, 2) := by decide +kernel
theorem dX10_way_38 : decode cX10_way 38 = .ok (.invokestatic 61, 3) := by decide +kernel
theorem dX10_way_41 : decode cX10_way 41 = .ok (.ifCond .ne 10, 3) := by decide +kernel
theorem dX10_way_44 : decode cX10_way 44 = .ok (.aload_n 0, 1) := by decide +kernel
theorem dX10_way_45 : decode cX10_way 45 = .ok (.ldc 65, 2) := by decide +kernel
theorem dX10_way_47 : decode cX10_way 47 = .ok (.invokevirtual 66, 3) := by decide +kernel
theorem dX10_way_50 : decode cX10_way 50 = .ok (.ireturn, 1) := by decide +kernel
theorem dX10_way_51 : decode cX10_way 51 = .ok (.aload_n 0, 1) := by decide +kernel
theorem dX10_way_52 : decode cX10_way 52 = .ok (.getfield 10, 3) := by decide +kernel
theorem dX10_way_55 : decode cX10_way 55 = .ok (.getfield 82, 3) := by decide +kernel
theorem dX10_way_58 : decode cX10_way 58 = .ok (.bipush 14, 2) := by decide +kernel
theorem dX10_way_60 : decode cX10_way 60 = .ok (.if_icmp .lt 10, 3) := by decide +kernel
theorem dX10_way_63 : decode cX10_way 63 = .ok (.aload_n 0, 1) := by decide +kernel
theorem dX10_way_64 : decode cX10_way 64 = .ok (.ldc 73, 2) := by decide +kernel
theorem dX10_way_66 : decode cX10_way 66 = .ok (.invokevirtual 66, 3) := by decide +kernel
theorem dX10_way_69 : decode cX10_way 69 = .ok (.ireturn, 1) := by decide +kernel
theorem dX10_way_70 : decode cX10_way 70 = .ok (.aload_n 0, 1) := by decide +kernel
theorem dX10_way_71 : decode cX10_way 71 = .ok (.getfield 10, 3) := by decide +kernel
theorem dX10_way_74 : decode cX10_way 74 = .ok (.new 85, 3) := by decide +kernel
theorem dX10_way_77 : decode cX10_way 77 = .ok (.dup, 1) := by decide +kernel
theorem dX10_way_78 : decode cX10_way 78 = .ok (.iload_n 1, 1) := by decide +kernel
theorem dX10_way_79 : decode cX10_way 79 = .ok (.iload_n 2, 1) := by decide +kernel
theorem dX10_way_80 : decode cX10_way 80 = .ok (.iload_n 3, 1) := by decide +kernel
theorem dX10_way_81 : decode cX10_way 81 = .ok (.iload 4, 2) := by decide +kernel
theorem dX10_way_83 : decode cX10_way 83 = .ok (.invokespecial 87, 3) := by decide +kernel
theorem dX10_way_86 : decode cX10_way 86 = .ok (.invokevirtual 90, 3) := by decide +kernel
theorem dX10_way_89 : decode cX10_way 89 = .ok (.ireturn, 1) := by decide +kernel
theorem dX10_shut_0 : decode cX10_shut 0 = .ok (.aload_n 0, 1) := by decide +kernel
theorem dX10_shut_1 : decode cX10_shut 1 = .ok (.getfield 10, 3) := by decide +kernel
theorem dX10_shut_4 : decode cX10_shut 4 = .ok (.iload_n 1, 1) := by decide +kernel
theorem dX10_shut_5 : decode cX10_shut 5 = .ok (.invokevirtual 94, 3) := by decide +kernel
theorem dX10_shut_8 : decode cX10_shut 8 = .ok (.astore_n 3, 1) := by decide +kernel
theorem dX10_shut_9 : decode cX10_shut 9 = .ok (.aload_n 3, 1) := by decide +kernel
theorem dX10_shut_10 : decode cX10_shut 10 = .ok (.ifnull 13, 3) := by decide +kernel
theorem dX10_shut_13 : decode cX10_shut 13 = .ok (.iload_n 2, 1) := by decide +kernel
theorem dX10_shut_14 : decode cX10_shut 14 = .ok (.iconst 0, 1) := by decide +kernel
theorem dX10_shut_15 : decode cX10_shut 15 = .ok (.bipush 127, 2) := by decide +kernel
theorem dX10_shut_17 : decode cX10_shut 17 = .ok (.invokestatic 61, 3) := by decide +kernel
theorem dX10_shut_20 : decode cX10_shut 20 = .ok (.ifCond .ne 10, 3) := by decide +kernel
theorem dX10_shut_23 : decode cX10_shut 23 = .ok (.aload_n 0, 1) := by decide +kernel
theorem dX10_shut_24 : decode cX10_shut 24 = .ok (.ldc 65, 2) := by decide +kernel
theorem dX10_shut_26 : decode cX10_shut 26 = .ok (.invokevirtual 66, 3) := by decide +kernel
theorem dX10_shut_29 : decode cX10_shut 29 = .ok (.ireturn, 1) := by decide +kernel
theorem dX10_shut_30 : decode cX10_shut 30 = .ok (.aload_n 3, 1) := by decide +kernel
theorem dX10_shut_31 : decode cX10_shut 31 = .ok (.getfield 98, 3) := by decide +kernel
theorem dX10_shut_34 : decode cX10_shut 34 = .ok (.istore 4, 2) := by decide +kernel
theorem dX10_shut_36 : decode cX10_shut 36 = .ok (.aload_n 3, 1) := by decide +kernel
theorem dX10_shut_37 : decode cX10_shut 37 = .ok (.iload_n 2, 1) := by decide +kernel
theorem dX10_shut_38 : decode cX10_shut 38 = .ok (.putfield 98, 3) := by decide +kernel
theorem dX10_shut_41 : decode cX10_shut 41 = .ok (.iload 4, 2) := by decide +kernel
theorem dX10_shut_43 : decode cX10_shut 43 = .ok (.ireturn, 1) := by decide +kernel
theorem dX10_far_0 : decode cX10_far 0 = .ok (.aload_n 0, 1) := by decide +kernel
theorem dX10_far_1 : decode cX10_far 1 = .ok (.getfield 10, 3) := by decide +kernel
theorem dX10_far_4 : decode cX10_far 4 = .ok (.iload_n 1, 1) := by decide +kernel
theorem dX10_far_5 : decode cX10_far 5 = .ok (.invokevirtual 78, 3) := by decide +kernel
theorem dX10_far_8 : decode cX10_far 8 = .ok (.ifCond .eq 21, 3) := by decide +kernel
theorem dX10_far_11 : decode cX10_far 11 = .ok (.aload_n 0, 1) := by decide +kernel
theorem dX10_far_12 : decode cX10_far 12 = .ok (.getfield 10, 3) := by decide +kernel
theorem dX10_far_15 : decode cX10_far 15 = .ok (.iload_n 2, 1) := by decide +kernel
theorem dX10_far_16 : decode cX10_far 16 = .ok (.invokevirtual 78, 3) := by decide +kernel
theorem dX10_far_19 : decode cX10_far 19 = .ok (.ifCond .eq 10, 3) := by decide +kernel
theorem dX10_far_22 : decode cX10_far 22 = .ok (.iload_n 3, 1) := by decide +kernel
theorem dX10_far_23 : decode cX10_far 23 = .ok (.invokestatic 101, 3) := by decide +kernel
theorem dX10_far_26 : decode cX10_far 26 = .ok (.ifCond .ne 10, 3) := by decide +kernel
theorem dX10_far_29 : decode cX10_far 29 = .ok (.aload_n 0, 1) := by decide +kernel
theorem dX10_far_30 : decode cX10_far 30 = .ok (.ldc 65, 2) := by decide +kernel
theorem dX10_far_32 : decode cX10_far 32 = .ok (.invokevirtual 66, 3) := by decide +kernel
theorem dX10_far_35 : decode cX10_far 35 = .ok (.ireturn, 1) := by decide +kernel
theorem dX10_far_36 : decode cX10_far 36 = .ok (.aload_n 0, 1) := by decide +kernel
theorem dX10_far_37 : decode cX10_far 37 = .ok (.aload_n 0, 1) := by decide +kernel
theorem dX10_far_38 : decode cX10_far 38 = .ok (.getfield 44, 3) := by decide +kernel
theorem dX10_far_41 : decode cX10_far 41 = .ok (.aload_n 0, 1) := by decide +kernel
theorem dX10_far_42 : decode cX10_far 42 = .ok (.getfield 10, 3) := by decide +kernel
theorem dX10_far_45 : decode cX10_far 45 = .ok (.iload_n 1, 1) := by decide +kernel
theorem dX10_far_46 : decode cX10_far 46 = .ok (.iload_n 2, 1) := by decide +kernel
theorem dX10_far_47 : decode cX10_far 47 = .ok (.iload_n 3, 1) := by decide +kernel
theorem dX10_far_48 : decode cX10_far 48 = .ok (.iload 4, 2) := by decide +kernel
theorem dX10_far_50 : decode cX10_far 50 = .ok (.invokevirtual 104, 3) := by decide +kernel
theorem dX10_far_53 : decode cX10_far 53 = .ok (.invokevirtual 108, 3) := by decide +kernel
theorem dX10_far_56 : decode cX10_far 56 = .ok (.ireturn, 1) := by decide +kernel
theorem dX10_feed_0 : decode cX10_feed 0 = .ok (.iload_n 3, 1) := by decide +kernel
theorem dX10_feed_1 : decode cX10_feed 1 = .ok (.iconst 1, 1) := by decide +kernel
theorem dX10_feed_2 : decode cX10_feed 2 = .ok (.bipush 8, 2) := by decide +kernel
theorem dX10_feed_4 : decode cX10_feed 4 = .ok (.invokestatic 61, 3) := by decide +kernel
theorem dX10_feed_7 : decode cX10_feed 7 = .ok (.ifCond .ne 10, 3) := by decide +kernel
theorem dX10_feed_10 : decode cX10_feed 10 = .ok (.aload_n 0, 1) := by decide +kernel
theorem dX10_feed_11 : decode cX10_feed 11 = .ok (.ldc 65, 2) := by decide +kernel
theorem dX10_feed_13 : decode cX10_feed 13 = .ok (.invokevirtual 66, 3) := by decide +kernel
theorem dX10_feed_16 : decode cX10_feed 16 = .ok (.ireturn, 1) := by decide +kernel
theorem dX10_feed_17 : decode cX10_feed 17 = .ok (.aload_n 0, 1) := by decide +kernel
theorem dX10_feed_18 : decode cX10_feed 18 = .ok (.getfield 19, 3) := by decide +kernel
theorem dX10_feed_21 : decode cX10_feed 21 = .ok (.getfield 111, 3) := by decide +kernel
theorem dX10_feed_24 : decode cX10_feed 24 = .ok (.iload_n 3, 1) := by decide +kernel
theorem dX10_feed_25 : decode cX10_feed 25 = .ok (.iadd, 1) := by decide +kernel
theorem dX10_feed_26 : decode cX10_feed 26 = .ok (.sipush 200, 3) := by decide +kernel
theorem dX10_feed_29 : decode cX10_feed 29 = .ok (.if_icmp .le 10, 3) := by decide +kernel
theorem dX10_feed_32 : decode cX10_feed 32 = .ok (.aload_n 0, 1) := by decide +kernel
theorem dX10_feed_33 : decode cX10_feed 33 = .ok (.ldc 73, 2) := by decide +kernel
theorem dX10_feed_35 : decode cX10_feed 35 = .ok (.invokevirtual 66, 3) := by decide +kernel
theorem dX10_feed_38 : decode cX10_feed 38 = .ok (.ireturn, 1) := by decide +kernel
theorem dX10_feed_39 : decode cX10_feed 39 = .ok (.aload_n 0, 1) := by decide +kernel
theorem dX10_feed_40 : decode cX10_feed 40 = .ok (.getfield 19, 3) := by decide +kernel
theorem dX10_feed_43 : decode cX10_feed 43 = .ok (.lload_n 1, 1) := by decide +kernel
theorem dX10_feed_44 : decode cX10_feed 44 = .ok (.iload_n 3, 1) := by decide +kernel
theorem dX10_feed_45 : decode cX10_feed 45 = .ok (.invokevirtual 114, 3) := by decide +kernel
theorem dX10_feed_48 : decode cX10_feed 48 = .ok (.aload_n 0, 1) := by decide +kernel
theorem dX10_feed_49 : decode cX10_feed 49 = .ok (.getfield 19, 3) := by decide +kernel
theorem dX10_feed_52 : decode cX10_feed 52 = .ok (.getfield 111, 3) := by decide +kernel
theorem dX10_feed_55 : decode cX10_feed 55 = .ok (.ireturn, 1) := by decide +kernel
theorem dX10_story_0 : decode cX10_story 0 = .ok (.new 118, 3) := by decide +kernel
theorem dX10_story_3 : decode cX10_story 3 = .ok (.dup, 1) := by decide +kernel
theorem dX10_story_4 : decode cX10_story 4 = .ok (.aload_n 0, 1) := by decide +kernel
theorem dX10_story_5 : decode cX10_story 5 = .ok (.getfield 19, 3) := by decide +kernel
theorem dX10_story_8 : decode cX10_story 8 = .ok (.aload_n 0, 1) := by decide +kernel
theorem dX10_story_9 : decode cX10_story 9 = .ok (.getfield 10, 3) := by decide +kernel
theorem dX10_story_12 : decode cX10_story 12 = .ok (.getfield 70, 3) := by decide +kernel
theorem dX10_story_15 : decode cX10_story 15 = .ok (.invokespecial 120, 3) := by decide +kernel
theorem dX10_story_18 : decode cX10_story 18 = .ok (.astore_n 1, 1) := by decide +kernel
theorem dX10_story_19 : decode cX10_story 19 = .ok (.aload_n 1, 1) := by decide +kernel
theorem dX10_story_20 : decode cX10_story 20 = .ok (.invokevirtual 123, 3) := by decide +kernel
theorem dX10_story_23 : decode cX10_story 23 = .ok (.astore_n 2, 1) := by decide +kernel
theorem dX10_story_24 : decode cX10_story 24 = .ok (.aload_n 0, 1) := by decide +kernel
theorem dX10_story_25 : decode cX10_story 25 = .ok (.getfield 19, 3) := by decide +kernel
theorem dX10_story_28 : decode cX10_story 28 = .ok (.iconst 0, 1) := by decide +kernel
theorem dX10_story_29 : decode cX10_story 29 = .ok (.putfield 111, 3) := by decide +kernel
theorem dX10_story_32 : decode cX10_story 32 = .ok (.aload_n 2, 1) := by decide +kernel
theorem dX10_story_33 : decode cX10_story 33 = .ok (.ifnonnull 15, 3) := by decide +kernel
theorem dX10_story_36 : decode cX10_story 36 = .ok (.aload_n 0, 1) := by decide +kernel
theorem dX10_story_37 : decode cX10_story 37 = .ok (.ldc 127, 2) := by decide +kernel
theorem dX10_story_39 : decode cX10_story 39 = .ok (.aload_n 1, 1) := by decide +kernel
theorem dX10_story_40 : decode cX10_story 40 = .ok (.getfield 128, 3) := by decide +kernel
theorem dX10_story_43 : decode cX10_story 43 = .ok (.isub, 1) := by decide +kernel
theorem dX10_story_44 : decode cX10_story 44 = .ok (.invokevirtual 66, 3) := by decide +kernel
theorem dX10_story_47 : decode cX10_story 47 = .ok (.ireturn, 1) := by decide +kernel
theorem dX10_story_48 : decode cX10_story 48 = .ok (.aload_n 0, 1) := by decide +kernel
theorem dX10_story_49 : decode cX10_story 49 = .ok (.getfield 48, 3) := by decide +kernel
theorem dX10_story_52 : decode cX10_story 52 = .ok (.iconst 4, 1) := by decide +kernel
theorem dX10_story_53 : decode cX10_story 53 = .ok (.if_icmp .lt 10, 3) := by decide +kernel
theorem dX10_story_56 : decode cX10_story 56 = .ok (.aload_n 0, 1) := by decide +kernel
theorem dX10_story_57 : decode cX10_story 57 = .ok (.ldc 73, 2) := by decide +kernel
theorem dX10_story_59 : decode cX10_story 59 = .ok (.invokevirtual 66, 3) := by decide +kernel
theorem dX10_story_62 : decode cX10_story 62 = .ok (.ireturn, 1) := by decide +kernel
theorem dX10_story_63 : decode cX10_story 63 = .ok (.aload_n 0, 1) := by decide +kernel
theorem dX10_story_64 : decode cX10_story 64 = .ok (.getfield 25, 3) := by decide +kernel
theorem dX10_story_67 : decode cX10_story 67 = .ok (.aload_n 0, 1) := by decide +kernel
theorem dX10_story_68 : decode cX10_story 68 = .ok (.getfield 48, 3) := by decide +kernel
theorem dX10_story_71 : decode cX10_story 71 = .ok (.aload_n 2, 1) := by decide +kernel
theorem dX10_story_72 : decode cX10_story 72 = .ok (.aastore, 1) := by decide +kernel
theorem dX10_story_73 : decode cX10_story 73 = .ok (.aload_n 0, 1) := by decide +kernel
theorem dX10_story_74 : decode cX10_story 74 = .ok (.dup, 1) := by decide +kernel
theorem dX10_story_75 : decode cX10_story 75 = .ok (.getfield 48, 3) := by decide +kernel
theorem dX10_story_78 : decode cX10_story 78 = .ok (.iconst 1, 1) := by decide +kernel
theorem dX10_story_79 : decode cX10_story 79 = .ok (.iadd, 1) := by decide +kernel
theorem dX10_story_80 : decode cX10_story 80 = .ok (.putfield 48, 3) := by decide +kernel
theorem dX10_story_83 : decode cX10_story 83 = .ok (.aload_n 0, 1) := by decide +kernel
theorem dX10_story_84 : decode cX10_story 84 = .ok (.getfield 48, 3) := by decide +kernel
theorem dX10_story_87 : decode cX10_story 87 = .ok (.iconst 1, 1) := by decide +kernel
theorem dX10_story_88 : decode cX10_story 88 = .ok (.isub, 1) := by decide +kernel
theorem dX10_story_89 : decode cX10_story 89 = .ok (.ireturn, 1) := by decide +kernel
theorem dX10_as_0 : decode cX10_as 0 = .ok (.aload_n 0, 1) := by decide +kernel
theorem dX10_as_1 : decode cX10_as 1 = .ok (.iload_n 1, 1) := by decide +kernel
theorem dX10_as_2 : decode cX10_as 2 = .ok (.iload_n 2, 1) := by decide +kernel
theorem dX10_as_3 : decode cX10_as 3 = .ok (.invokevirtual 131, 3) := by decide +kernel
theorem dX10_as_6 : decode cX10_as 6 = .ok (.astore 4, 2) := by decide +kernel
theorem dX10_as_8 : decode cX10_as 8 = .ok (.aload 4, 2) := by decide +kernel
theorem dX10_as_10 : decode cX10_as 10 = .ok (.ifnull 12, 3) := by decide +kernel
theorem dX10_as_13 : decode cX10_as 13 = .ok (.iload_n 3, 1) := by decide +kernel
theorem dX10_as_14 : decode cX10_as 14 = .ok (.iconst 0, 1) := by decide +kernel
theorem dX10_as_15 : decode cX10_as 15 = .ok (.iconst 3, 1) := by decide +kernel
theorem dX10_as_16 : decode cX10_as 16 = .ok (.invokestatic 61, 3) := by decide +kernel
theorem dX10_as_19 : decode cX10_as 19 = .ok (.ifCond .ne 10, 3) := by decide +kernel
theorem dX10_as_22 : decode cX10_as 22 = .ok (.aload_n 0, 1) := by decide +kernel
theorem dX10_as_23 : decode cX10_as 23 = .ok (.ldc 65, 2) := by decide +kernel
theorem dX10_as_25 : decode cX10_as 25 = .ok (.invokevirtual 66, 3) := by decide +kernel
theorem dX10_as_28 : decode cX10_as 28 = .ok (.ireturn, 1) := by decide +kernel
theorem dX10_as_29 : decode cX10_as 29 = .ok (.aload 4, 2) := by decide +kernel
theorem dX10_as_31 : decode cX10_as 31 = .ok (.iload_n 3, 1) := by decide +kernel
theorem dX10_as_32 : decode cX10_as 32 = .ok (.invokevirtual 135, 3) := by decide +kernel
theorem dX10_as_35 : decode cX10_as 35 = .ok (.ifCond .eq 7, 3) := by decide +kernel
theorem dX10_as_38 : decode cX10_as 38 = .ok (.iload_n 2, 1) := by decide +kernel
theorem dX10_as_39 : decode cX10_as 39 = .ok (.goto 9, 3) := by decide +kernel
theorem dX10_as_42 : decode cX10_as 42 = .ok (.aload_n 0, 1) := by decide +kernel
theorem dX10_as_43 : decode cX10_as 43 = .ok (.ldc 140, 2) := by decide +kernel
theorem dX10_as_45 : decode cX10_as 45 = .ok (.invokevirtual 66, 3) := by decide +kernel
theorem dX10_as_48 : decode cX10_as 48 = .ok (.ireturn, 1) := by decide +kernel
theorem dX10_of_0 : decode cX10_of 0 = .ok (.aload_n 0, 1) := by decide +kernel
theorem dX10_of_1 : decode cX10_of 1 = .ok (.iload_n 1, 1) := by decide +kernel
theorem dX10_of_2 : decode cX10_of 2 = .ok (.iload_n 2, 1) := by decide +kernel
theorem dX10_of_3 : decode cX10_of 3 = .ok (.invokevirtual 131, 3) := by decide +kernel
theorem dX10_of_6 : decode cX10_of 6 = .ok (.astore 4, 2) := by decide +kernel
theorem dX10_of_8 : decode cX10_of 8 = .ok (.aload 4, 2) := by decide +kernel
theorem dX10_of_10 : decode cX10_of 10 = .ok (.ifnonnull 10, 3) := by decide +kernel
theorem dX10_of_13 : decode cX10_of 13 = .ok (.aload_n 0, 1) := by decide +kernel
theorem dX10_of_14 : decode cX10_of 14 = .ok (.ldc 65, 2) := by decide +kernel
theorem dX10_of_16 : decode cX10_of 16 = .ok (.invokevirtual 66, 3) := by decide +kernel
theorem dX10_of_19 : decode cX10_of 19 = .ok (.ireturn, 1) := by decide +kernel
theorem dX10_of_20 : decode cX10_of 20 = .ok (.iload_n 3, 1) := by decide +kernel
theorem dX10_of_21 : decode cX10_of 21 = .ok (.tableswitch 65 0 4 #[35, 41, 47, 53, 59], 35) := by decide +kernel
theorem dX10_of_56 : decode cX10_of 56 = .ok (.aload 4, 2) := by decide +kernel
theorem dX10_of_58 : decode cX10_of 58 = .ok (.getfield 141, 3) := by decide +kernel
theorem dX10_of_61 : decode cX10_of 61 = .ok (.ireturn, 1) := by decide +kernel
theorem dX10_of_62 : decode cX10_of 62 = .ok (.aload 4, 2) := by decide +kernel
theorem dX10_of_64 : decode cX10_of 64 = .ok (.getfield 144, 3) := by decide +kernel
theorem dX10_of_67 : decode cX10_of 67 = .ok (.ireturn, 1) := by decide +kernel
theorem dX10_of_68 : decode cX10_of 68 = .ok (.aload 4, 2) := by decide +kernel
theorem dX10_of_70 : decode cX10_of 70 = .ok (.getfield 147, 3) := by decide +kernel
theorem dX10_of_73 : decode cX10_of 73 = .ok (.ireturn, 1) := by decide +kernel
theorem dX10_of_74 : decode cX10_of 74 = .ok (.aload 4, 2) := by decide +kernel
theorem dX10_of_76 : decode cX10_of 76 = .ok (.getfield 148, 3) := by decide +kernel
theorem dX10_of_79 : decode cX10_of 79 = .ok (.ireturn, 1) := by decide +kernel
theorem dX10_of_80 : decode cX10_of 80 = .ok (.aload 4, 2) := by decide +kernel
theorem dX10_of_82 : decode cX10_of 82 = .ok (.getfield 151, 3) := by decide +kernel
theorem dX10_of_85 : decode cX10_of 85 = .ok (.ireturn, 1) := by decide +kernel
theorem dX10_of_86 : decode cX10_of 86 = .ok (.aload_n 0, 1) := by decide +kernel
theorem dX10_of_87 : decode cX10_of 87 = .ok (.ldc 65, 2) := by decide +kernel
theorem dX10_of_89 : decode cX10_of 89 = .ok (.invokevirtual 66, 3) := by decide +kernel
theorem dX10_of_92 : decode cX10_of 92 = .ok (.ireturn, 1) := by decide +kernel
theorem dX10_check_0 : decode cX10_check 0 = .ok (.iload 5, 2) := by decide +kernel
theorem dX10_check_2 : decode cX10_check 2 = .ok (.iconst 0, 1) := by decide +kernel
theorem dX10_check_3 : decode cX10_check 3 = .ok (.iconst 3, 1) := by decide +kernel
theorem dX10_check_4 : decode cX10_check 4 = .ok (.invokestatic 61, 3) := by decide +kernel
theorem dX10_check_7 : decode cX10_check 7 = .ok (.ifCond .eq 15, 3) := by decide +kernel
theorem dX10_check_10 : decode cX10_check 10 = .ok (.aload_n 0, 1) := by decide +kernel
theorem dX10_check_11 : decode cX10_check 11 = .ok (.iload_n 1, 1) := by decide +kernel
theorem dX10_check_12 : decode cX10_check 12 = .ok (.iload_n 2, 1) := by decide +kernel
theorem dX10_check_13 : decode cX10_check 13 = .ok (.iload_n 3, 1) := by decide +kernel
theorem dX10_check_14 : decode cX10_check 14 = .ok (.iload 4, 2) := by decide +kernel
theorem dX10_check_16 : decode cX10_check 16 = .ok (.invokevirtual 154, 3) := by decide +kernel
theorem dX10_check_19 : decode cX10_check 19 = .ok (.ifCond .ne 10, 3) := by decide +kernel
theorem dX10_check_22 : decode cX10_check 22 = .ok (.aload_n 0, 1) := by decide +kernel
theorem dX10_check_23 : decode cX10_check 23 = .ok (.ldc 65, 2) := by decide +kernel
theorem dX10_check_25 : decode cX10_check 25 = .ok (.invokevirtual 66, 3) := by decide +kernel
theorem dX10_check_28 : decode cX10_check 28 = .ok (.ireturn, 1) := by decide +kernel
theorem dX10_check_29 : decode cX10_check 29 = .ok (.iload 5, 2) := by decide +kernel
theorem dX10_check_31 : decode cX10_check 31 = .ok (.tableswitch 49 0 2 #[25, 33, 41], 25) := by decide +kernel
theorem dX10_check_56 : decode cX10_check 56 = .ok (.aload_n 0, 1) := by decide +kernel
theorem dX10_check_57 : decode cX10_check 57 = .ok (.getfield 44, 3) := by decide +kernel
theorem dX10_check_60 : decode cX10_check 60 = .ok (.invokevirtual 158, 3) := by decide +kernel
theorem dX10_check_63 : decode cX10_check 63 = .ok (.ireturn, 1) := by decide +kernel
theorem dX10_check_64 : decode cX10_check 64 = .ok (.aload_n 0, 1) := by decide +kernel
theorem dX10_check_65 : decode cX10_check 65 = .ok (.getfield 44, 3) := by decide +kernel
theorem dX10_check_68 : decode cX10_check 68 = .ok (.invokevirtual 162, 3) := by decide +kernel
theorem dX10_check_71 : decode cX10_check 71 = .ok (.ireturn, 1) := by decide +kernel
theorem dX10_check_72 : decode cX10_check 72 = .ok (.aload_n 0, 1) := by decide +kernel
theorem dX10_check_73 : decode cX10_check 73 = .ok (.getfield 44, 3) := by decide +kernel
theorem dX10_check_76 : decode cX10_check 76 = .ok (.invokevirtual 165, 3) := by decide +kernel
theorem dX10_check_79 : decode cX10_check 79 = .ok (.ireturn, 1) := by decide +kernel
theorem dX10_check_80 : decode cX10_check 80 = .ok (.aload_n 0, 1) := by decide +kernel
theorem dX10_check_81 : decode cX10_check 81 = .ok (.getfield 44, 3) := by decide +kernel
theorem dX10_check_84 : decode cX10_check 84 = .ok (.invokevirtual 168, 3) := by decide +kernel
theorem dX10_check_87 : decode cX10_check 87 = .ok (.ireturn, 1) := by decide +kernel
theorem dX10_quickest_0 : decode cX10_quickest 0 = .ok (.aload_n 0, 1) := by decide +kernel
theorem dX10_quickest_1 : decode cX10_quickest 1 = .ok (.iload_n 1, 1) := by decide +kernel
theorem dX10_quickest_2 : decode cX10_quickest 2 = .ok (.iload_n 2, 1) := by decide +kernel
theorem dX10_quickest_3 : decode cX10_quickest 3 = .ok (.iload_n 3, 1) := by decide +kernel
theorem dX10_quickest_4 : decode cX10_quickest 4 = .ok (.iload 4, 2) := by decide +kernel
theorem dX10_quickest_6 : decode cX10_quickest 6 = .ok (.invokevirtual 154, 3) := by decide +kernel
theorem dX10_quickest_9 : decode cX10_quickest 9 = .ok (.ifCond .ne 10, 3) := by decide +kernel
theorem dX10_quickest_12 : decode cX10_quickest 12 = .ok (.aload_n 0, 1) := by decide +kernel
theorem dX10_quickest_13 : decode cX10_quickest 13 = .ok (.ldc 65, 2) := by decide +kernel
theorem dX10_quickest_15 : decode cX10_quickest 15 = .ok (.invokevirtual 66, 3) := by decide +kernel
theorem dX10_quickest_18 : decode cX10_quickest 18 = .ok (.ireturn, 1) := by decide +kernel
theorem dX10_quickest_19 : decode cX10_quickest 19 = .ok (.aload_n 0, 1) := by decide +kernel
theorem dX10_quickest_20 : decode cX10_quickest 20 = .ok (.aload_n 0, 1) := by decide +kernel
theorem dX10_quickest_21 : decode cX10_quickest 21 = .ok (.getfield 44, 3) := by decide +kernel
theorem dX10_quickest_24 : decode cX10_quickest 24 = .ok (.iload_n 2, 1) := by decide +kernel
theorem dX10_quickest_25 : decode cX10_quickest 25 = .ok (.iconst 0, 1) := by decide +kernel
theorem dX10_quickest_26 : decode cX10_quickest 26 = .ok (.invokevirtual 171, 3) := by decide +kernel
theorem dX10_quickest_29 : decode cX10_quickest 29 = .ok (.invokevirtual 108, 3) := by decide +kernel
theorem dX10_quickest_32 : decode cX10_quickest 32 = .ok (.ireturn, 1) := by decide +kernel
theorem dX10_route_0 : decode cX10_route 0 = .ok (.iload 5, 2) := by decide +kernel
theorem dX10_route_2 : decode cX10_route 2 = .ok (.ifCond .lt 15, 3) := by decide +kernel
theorem dX10_route_5 : decode cX10_route 5 = .ok (.aload_n 0, 1) := by decide +kernel
theorem dX10_route_6 : decode cX10_route 6 = .ok (.iload_n 1, 1) := by decide +kernel
theorem dX10_route_7 : decode cX10_route 7 = .ok (.iload_n 2, 1) := by decide +kernel
theorem dX10_route_8 : decode cX10_route 8 = .ok (.iload_n 3, 1) := by decide +kernel
theorem dX10_route_9 : decode cX10_route 9 = .ok (.iload 4, 2) := by decide +kernel
theorem dX10_route_11 : decode cX10_route 11 = .ok (.invokevirtual 154, 3) := by decide +kernel
theorem dX10_route_14 : decode cX10_route 14 = .ok (.ifCond .ne 10, 3) := by decide +kernel
theorem dX10_route_17 : decode cX10_route 17 = .ok (.aload_n 0, 1) := by decide +kernel
theorem dX10_route_18 : decode cX10_route 18 = .ok (.ldc 65, 2) := by decide +kernel
theorem dX10_route_20 : decode cX10_route 20 = .ok (.invokevirtual 66, 3) := by decide +kernel
theorem dX10_route_23 : decode cX10_route 23 = .ok (.ireturn, 1) := by decide +kernel
theorem dX10_route_24 : decode cX10_route 24 = .ok (.aload_n 0, 1) := by decide +kernel
theorem dX10_route_25 : decode cX10_route 25 = .ok (.getfield 44, 3) := by decide +kernel
theorem dX10_route_28 : decode cX10_route 28 = .ok (.iload_n 2, 1) := by decide +kernel
theorem dX10_route_29 : decode cX10_route 29 = .ok (.iconst 0, 1) := by decide +kernel
theorem dX10_route_30 : decode cX10_route 30 = .ok (.invokevirtual 171, 3) := by decide +kernel
theorem dX10_route_33 : decode cX10_route 33 = .ok (.ldc 174, 2) := by decide +kernel
theorem dX10_route_35 : decode cX10_route 35 = .ok (.if_icmp .lt 10, 3) := by decide +kernel
theorem dX10_route_38 : decode cX10_route 38 = .ok (.aload_n 0, 1) := by decide +kernel
theorem dX10_route_39 : decode cX10_route 39 = .ok (.ldc 175, 2) := by decide +kernel
theorem dX10_route_41 : decode cX10_route 41 = .ok (.invokevirtual 66, 3) := by decide +kernel
theorem dX10_route_44 : decode cX10_route 44 = .ok (.ireturn, 1) := by decide +kernel
theorem dX10_route_45 : decode cX10_route 45 = .ok (.aload_n 0, 1) := by decide +kernel
theorem dX10_route_46 : decode cX10_route 46 = .ok (.getfield 44, 3) := by decide +kernel
theorem dX10_route_49 : decode cX10_route 49 = .ok (.iload_n 2, 1) := by decide +kernel
theorem dX10_route_50 : decode cX10_route 50 = .ok (.iload 5, 2) := by decide +kernel
theorem dX10_route_52 : decode cX10_route 52 = .ok (.invokevirtual 176, 3) := by decide +kernel
theorem dX10_route_55 : decode cX10_route 55 = .ok (.ireturn, 1) := by decide +kernel
theorem dX10_walker_0 : decode cX10_walker 0 = .ok (.aload_n 0, 1) := by decide +kernel
theorem dX10_walker_1 : decode cX10_walker 1 = .ok (.getfield 10, 3) := by decide +kernel
theorem dX10_walker_4 : decode cX10_walker 4 = .ok (.iload_n 1, 1) := by decide +kernel
theorem dX10_walker_5 : decode cX10_walker 5 = .ok (.invokevirtual 78, 3) := by decide +kernel
theorem dX10_walker_8 : decode cX10_walker 8 = .ok (.ifCond .ne 10, 3) := by decide +kernel
theorem dX10_walker_11 : decode cX10_walker 11 = .ok (.aload_n 0, 1) := by decide +kernel
theorem dX10_walker_12 : decode cX10_walker 12 = .ok (.ldc 65, 2) := by decide +kernel
theorem dX10_walker_14 : decode cX10_walker 14 = .ok (.invokevirtual 66, 3) := by decide +kernel
theorem dX10_walker_17 : decode cX10_walker 17 = .ok (.ireturn, 1) := by decide +kernel
theorem dX10_walker_18 : decode cX10_walker 18 = .ok (.aload_n 0, 1) := by decide +kernel
theorem dX10_walker_19 : decode cX10_walker 19 = .ok (.aload_n 0, 1) := by decide +kernel
theorem dX10_walker_20 : decode cX10_walker 20 = .ok (.getfield 48, 3) := by decide +kernel
theorem dX10_walker_23 : decode cX10_walker 23 = .ok (.iconst 1, 1) := by decide +kernel
theorem dX10_walker_24 : decode cX10_walker 24 = .ok (.isub, 1) := by decide +kernel
theorem dX10_walker_25 : decode cX10_walker 25 = .ok (.invokevirtual 179, 3) := by decide +kernel
theorem dX10_walker_28 : decode cX10_walker 28 = .ok (.astore_n 3, 1) := by decide +kernel
theorem dX10_walker_29 : decode cX10_walker 29 = .ok (.aload_n 3, 1) := by decide +kernel
theorem dX10_walker_30 : decode cX10_walker 30 = .ok (.ifnonnull 10, 3) := by decide +kernel
theorem dX10_walker_33 : decode cX10_walker 33 = .ok (.aload_n 0, 1) := by decide +kernel
theorem dX10_walker_34 : decode cX10_walker 34 = .ok (.ldc 183, 2) := by decide +kernel
theorem dX10_walker_36 : decode cX10_walker 36 = .ok (.invokevirtual 66, 3) := by decide +kernel
theorem dX10_walker_39 : decode cX10_walker 39 = .ok (.ireturn, 1) := by decide +kernel
theorem dX10_walker_40 : decode cX10_walker 40 = .ok (.aload_n 0, 1) := by decide +kernel
theorem dX10_walker_41 : decode cX10_walker 41 = .ok (.getfield 52, 3) := by decide +kernel
theorem dX10_walker_44 : decode cX10_walker 44 = .ok (.bipush 6, 2) := by decide +kernel
theorem dX10_walker_46 : decode cX10_walker 46 = .ok (.if_icmp .lt 10, 3) := by decide +kernel
theorem dX10_walker_49 : decode cX10_walker 49 = .ok (.aload_n 0, 1) := by decide +kernel
theorem dX10_walker_50 : decode cX10_walker 50 = .ok (.ldc 73, 2) := by decide +kernel
theorem dX10_walker_52 : decode cX10_walker 52 = .ok (.invokevirtual 66, 3) := by decide +kernel
theorem dX10_walker_55 : decode cX10_walker 55 = .ok (.ireturn, 1) := by decide +kernel
theorem dX10_walker_56 : decode cX10_walker 56 = .ok (.new 29, 3) := by decide +kernel
theorem dX10_walker_59 : decode cX10_walker 59 = .ok (.dup, 1) := by decide +kernel
theorem dX10_walker_60 : decode cX10_walker 60 = .ok (.aload_n 3, 1) := by decide +kernel
theorem dX10_walker_61 : decode cX10_walker 61 = .ok (.aload_n 0, 1) := by decide +kernel
theorem dX10_walker_62 : decode cX10_walker 62 = .ok (.getfield 48, 3) := by decide +kernel
theorem dX10_walker_65 : decode cX10_walker 65 = .ok (.iconst 1, 1) := by decide +kernel
theorem dX10_walker_66 : decode cX10_walker 66 = .ok (.isub, 1) := by decide +kernel
theorem dX10_walker_67 : decode cX10_walker 67 = .ok (.iload_n 2, 1) := by decide +kernel
theorem dX10_walker_68 : decode cX10_walker 68 = .ok (.invokespecial 184, 3) := by decide +kernel
theorem dX10_walker_71 : decode cX10_walker 71 = .ok (.astore 4, 2) := by decide +kernel
theorem dX10_walker_73 : decode cX10_walker 73 = .ok (.aload 4, 2) := by decide +kernel
theorem dX10_walker_75 : decode cX10_walker 75 = .ok (.iload_n 1, 1) := by decide +kernel
theorem dX10_walker_76 : decode cX10_walker 76 = .ok (.aload_n 0, 1) := by decide +kernel
theorem dX10_walker_77 : decode cX10_walker 77 = .ok (.getfield 55, 3) := by decide +kernel
theorem dX10_walker_80 : decode cX10_walker 80 = .ok (.invokevirtual 187, 3) := by decide +kernel
theorem dX10_walker_83 : decode cX10_walker 83 = .ok (.pop, 1) := by decide +kernel
theorem dX10_walker_84 : decode cX10_walker 84 = .ok (.aload_n 0, 1) := by decide +kernel
theorem dX10_walker_85 : decode cX10_walker 85 = .ok (.getfield 31, 3) := by decide +kernel
theorem dX10_walker_88 : decode cX10_walker 88 = .ok (.aload_n 0, 1) := by decide +kernel
theorem dX10_walker_89 : decode cX10_walker 89 = .ok (.getfield 52, 3) := by decide +kernel
theorem dX10_walker_92 : decode cX10_walker 92 = .ok (.aload 4, 2) := by decide +kernel
theorem dX10_walker_94 : decode cX10_walker 94 = .ok (.aastore, 1) := by decide +kernel
theorem dX10_walker_95 : decode cX10_walker 95 = .ok (.aload_n 0, 1) := by decide +kernel
theorem dX10_walker_96 : decode cX10_walker 96 = .ok (.dup, 1) := by decide +kernel
theorem dX10_walker_97 : decode cX10_walker 97 = .ok (.getfield 52, 3) := by decide +kernel
theorem dX10_walker_100 : decode cX10_walker 100 = .ok (.iconst 1, 1) := by decide +kernel
theorem dX10_walker_101 : decode cX10_walker 101 = .ok (.iadd, 1) := by decide +kernel
theorem dX10_walker_102 : decode cX10_walker 102 = .ok (.putfield 52, 3) := by decide +kernel
theorem dX10_walker_105 : decode cX10_walker 105 = .ok (.aload_n 0, 1) := by decide +kernel
theorem dX10_walker_106 : decode cX10_walker 106 = .ok (.getfield 52, 3) := by decide +kernel
theorem dX10_walker_109 : decode cX10_walker 109 = .ok (.iconst 1, 1) := by decide +kernel
theorem dX10_walker_110 : decode cX10_walker 110 = .ok (.isub, 1) := by decide +kernel
theorem dX10_walker_111 : decode cX10_walker 111 = .ok (.ireturn, 1) := by decide +kernel
theorem dX10_today_0 : decode cX10_today 0 = .ok (.iload_n 1, 1) := by decide +kernel
theorem dX10_today_1 : decode cX10_today 1 = .ok (.invokestatic 101, 3) := by decide +kernel
theorem dX10_today_4 : decode cX10_today 4 = .ok (.ifCond .ne 10, 3) := by decide +kernel
theorem dX10_today_7 : decode cX10_today 7 = .ok (.aload_n 0, 1) := by decide +kernel
theorem dX10_today_8 : decode cX10_today 8 = .ok (.ldc 65, 2) := by decide +kernel
theorem dX10_today_10 : decode cX10_today 10 = .ok (.invokevirtual 66, 3) := by decide +kernel
theorem dX10_today_13 : decode cX10_today 13 = .ok (.ireturn, 1) := by decide +kernel
theorem dX10_today_14 : decode cX10_today 14 = .ok (.aload_n 0, 1) := by decide +kernel
theorem dX10_today_15 : decode cX10_today 15 = .ok (.getfield 55, 3) := by decide +kernel
theorem dX10_today_18 : decode cX10_today 18 = .ok (.istore_n 2, 1) := by decide +kernel
theorem dX10_today_19 : decode cX10_today 19 = .ok (.aload_n 0, 1) := by decide +kernel
theorem dX10_today_20 : decode cX10_today 20 = .ok (.iload_n 1, 1) := by decide +kernel
theorem dX10_today_21 : decode cX10_today 21 = .ok (.putfield 55, 3) := by decide +kernel
theorem dX10_today_24 : decode cX10_today 24 = .ok (.iconst 0, 1) := by decide +kernel
theorem dX10_today_25 : decode cX10_today 25 = .ok (.istore_n 3, 1) := by decide +kernel
theorem dX10_today_26 : decode cX10_today 26 = .ok (.iload_n 3, 1) := by decide +kernel
theorem dX10_today_27 : decode cX10_today 27 = .ok (.aload_n 0, 1) := by decide +kernel
theorem dX10_today_28 : decode cX10_today 28 = .ok (.getfield 52, 3) := by decide +kernel
theorem dX10_today_31 : decode cX10_today 31 = .ok (.if_icmp .ge 23, 3) := by decide +kernel
theorem dX10_today_34 : decode cX10_today 34 = .ok (.aload_n 0, 1) := by decide +kernel
theorem dX10_today_35 : decode cX10_today 35 = .ok (.getfield 31, 3) := by decide +kernel
theorem dX10_today_38 : decode cX10_today 38 = .ok (.iload_n 3, 1) := by decide +kernel
theorem dX10_today_39 : decode cX10_today 39 = .ok (.aaload, 1) := by decide +kernel
theorem dX10_today_40 : decode cX10_today 40 = .ok (.aload_n 0, 1) := by decide +kernel
theorem dX10_today_41 : decode cX10_today 41 = .ok (.getfield 55, 3) := by decide +kernel
theorem dX10_today_44 : decode cX10_today 44 = .ok (.invokevirtual 190, 3) := by decide +kernel
theorem dX10_today_47 : decode cX10_today 47 = .ok (.pop, 1) := by decide +kernel
theorem dX10_today_48 : decode cX10_today 48 = .ok (.iinc 3 1, 3) := by decide +kernel
theorem dX10_today_51 : decode cX10_today 51 = .ok (.goto (-25), 3) := by decide +kernel
theorem dX10_today_54 : decode cX10_today 54 = .ok (.iload_n 2, 1) := by decide +kernel
theorem dX10_today_55 : decode cX10_today 55 = .ok (.ireturn, 1) := by decide +kernel
theorem dX10_go_0 : decode cX10_go 0 = .ok (.aload_n 0, 1) := by decide +kernel
theorem dX10_go_1 : decode cX10_go 1 = .ok (.iload_n 1, 1) := by decide +kernel
theorem dX10_go_2 : decode cX10_go 2 = .ok (.invokevirtual 193, 3) := by decide +kernel
theorem dX10_go_5 : decode cX10_go 5 = .ok (.astore_n 3, 1) := by decide +kernel
theorem dX10_go_6 : decode cX10_go 6 = .ok (.aload_n 0, 1) := by decide +kernel
theorem dX10_go_7 : decode cX10_go 7 = .ok (.getfield 10, 3) := by decide +kernel
theorem dX10_go_10 : decode cX10_go 10 = .ok (.iload_n 2, 1) := by decide +kernel
theorem dX10_go_11 : decode cX10_go 11 = .ok (.invokevirtual 94, 3) := by decide +kernel
theorem dX10_go_14 : decode cX10_go 14 = .ok (.astore 4, 2) := by decide +kernel
theorem dX10_go_16 : decode cX10_go 16 = .ok (.aload_n 3, 1) := by decide +kernel
theorem dX10_go_17 : decode cX10_go 17 = .ok (.ifnull 8, 3) := by decide +kernel
theorem dX10_go_20 : decode cX10_go 20 = .ok (.aload 4, 2) := by decide +kernel
theorem dX10_go_22 : decode cX10_go 22 = .ok (.ifnonnull 10, 3) := by decide +kernel
theorem dX10_go_25 : decode cX10_go 25 = .ok (.aload_n 0, 1) := by decide +kernel
theorem dX10_go_26 : decode cX10_go 26 = .ok (.ldc 65, 2) := by decide +kernel
theorem dX10_go_28 : decode cX10_go 28 = .ok (.invokevirtual 66, 3) := by decide +kernel
theorem dX10_go_31 : decode cX10_go 31 = .ok (.ireturn, 1) := by decide +kernel
theorem dX10_go_32 : decode cX10_go 32 = .ok (.aload_n 3, 1) := by decide +kernel
theorem dX10_go_33 : decode cX10_go 33 = .ok (.invokevirtual 197, 3) := by decide +kernel
theorem dX10_go_36 : decode cX10_go 36 = .ok (.ifCond .eq 10, 3) := by decide +kernel
theorem dX10_go_39 : decode cX10_go 39 = .ok (.aload_n 0, 1) := by decide +kernel
theorem dX10_go_40 : decode cX10_go 40 = .ok (.ldc 183, 2) := by decide +kernel
theorem dX10_go_42 : decode cX10_go 42 = .ok (.invokevirtual 66, 3) := by decide +kernel
theorem dX10_go_45 : decode cX10_go 45 = .ok (.ireturn, 1) := by decide +kernel
theorem dX10_go_46 : decode cX10_go 46 = .ok (.aload 4, 2) := by decide +kernel
theorem dX10_go_48 : decode cX10_go 48 = .ok (.aload_n 3, 1) := by decide +kernel
theorem dX10_go_49 : decode cX10_go 49 = .ok (.getfield 201, 3) := by decide +kernel
theorem dX10_go_52 : decode cX10_go 52 = .ok (.invokevirtual 202, 3) := by decide +kernel
theorem dX10_go_55 : decode cX10_go 55 = .ok (.ifCond .eq 15, 3) := by decide +kernel
theorem dX10_go_58 : decode cX10_go 58 = .ok (.aload 4, 2) := by decide +kernel
theorem dX10_go_60 : decode cX10_go 60 = .ok (.aload_n 0, 1) := by decide +kernel
theorem dX10_go_61 : decode cX10_go 61 = .ok (.getfield 55, 3) := by decide +kernel
theorem dX10_go_64 : decode cX10_go 64 = .ok (.invokevirtual 205, 3) := by decide +kernel
theorem dX10_go_67 : decode cX10_go 67 = .ok (.ifCond .eq 10, 3) := by decide +kernel
theorem dX10_go_70 : decode cX10_go 70 = .ok (.aload_n 0, 1) := by decide +kernel
theorem dX10_go_71 : decode cX10_go 71 = .ok (.ldc 175, 2) := by decide +kernel
theorem dX10_go_73 : decode cX10_go 73 = .ok (.invokevirtual 66, 3) := by decide +kernel
theorem dX10_go_76 : decode cX10_go 76 = .ok (.ireturn, 1) := by decide +kernel
theorem dX10_go_77 : decode cX10_go 77 = .ok (.aload 4, 2) := by decide +kernel
theorem dX10_go_79 : decode cX10_go 79 = .ok (.aload_n 3, 1) := by decide +kernel
theorem dX10_go_80 : decode cX10_go 80 = .ok (.getfield 208, 3) := by decide +kernel
theorem dX10_go_83 : decode cX10_go 83 = .ok (.invokevirtual 212, 3) := by decide +kernel
theorem dX10_go_86 : decode cX10_go 86 = .ok (.ifCond .ne 10, 3) := by decide +kernel
theorem dX10_go_89 : decode cX10_go 89 = .ok (.aload_n 0, 1) := by decide +kernel
theorem dX10_go_90 : decode cX10_go 90 = .ok (.ldc 140, 2) := by decide +kernel
theorem dX10_go_92 : decode cX10_go 92 = .ok (.invokevirtual 66, 3) := by decide +kernel
theorem dX10_go_95 : decode cX10_go 95 = .ok (.ireturn, 1) := by decide +kernel
theorem dX10_go_96 : decode cX10_go 96 = .ok (.aload_n 3, 1) := by decide +kernel
theorem dX10_go_97 : decode cX10_go 97 = .ok (.dup, 1) := by decide +kernel
theorem dX10_go_98 : decode cX10_go 98 = .ok (.getfield 216, 3) := by decide +kernel
theorem dX10_go_101 : decode cX10_go 101 = .ok (.aload 4, 2) := by decide +kernel
theorem dX10_go_103 : decode cX10_go 103 = .ok (.getfield 219, 3) := by decide +kernel
theorem dX10_go_106 : decode cX10_go 106 = .ok (.iadd, 1) := by decide +kernel
theorem dX10_go_107 : decode cX10_go 107 = .ok (.putfield 216, 3) := by decide +kernel
theorem dX10_go_110 : decode cX10_go 110 = .ok (.aload_n 3, 1) := by decide +kernel
theorem dX10_go_111 : decode cX10_go 111 = .ok (.aload 4, 2) := by decide +kernel
theorem dX10_go_113 : decode cX10_go 113 = .ok (.aload_n 3, 1) := by decide +kernel
theorem dX10_go_114 : decode cX10_go 114 = .ok (.getfield 201, 3) := by decide +kernel
theorem dX10_go_117 : decode cX10_go 117 = .ok (.invokevirtual 220, 3) := by decide +kernel
theorem dX10_go_120 : decode cX10_go 120 = .ok (.aload_n 0, 1) := by decide +kernel
theorem dX10_go_121 : decode cX10_go 121 = .ok (.getfield 55, 3) := by decide +kernel
theorem dX10_go_124 : decode cX10_go 124 = .ok (.invokevirtual 187, 3) := by decide +kernel
theorem dX10_go_127 : decode cX10_go 127 = .ok (.ireturn, 1) := by decide +kernel
theorem dX10_about_0 : decode cX10_about 0 = .ok (.aload_n 0, 1) := by decide +kernel
theorem dX10_about_1 : decode cX10_about 1 = .ok (.iload_n 1, 1) := by decide +kernel
theorem dX10_about_2 : decode cX10_about 2 = .ok (.invokevirtual 193, 3) := by decide +kernel
theorem dX10_about_5 : decode cX10_about 5 = .ok (.astore_n 3, 1) := by decide +kernel
theorem dX10_about_6 : decode cX10_about 6 = .ok (.aload_n 3, 1) := by decide +kernel
theorem dX10_about_7 : decode cX10_about 7 = .ok (.ifnonnull 10, 3) := by decide +kernel
theorem dX10_about_10 : decode cX10_about 10 = .ok (.aload_n 0, 1) := by decide +kernel
theorem dX10_about_11 : decode cX10_about 11 = .ok (.ldc 65, 2) := by decide +kernel
theorem dX10_about_13 : decode cX10_about 13 = .ok (.invokevirtual 66, 3) := by decide +kernel
theorem dX10_about_16 : decode cX10_about 16 = .ok (.ireturn, 1) := by decide +kernel
theorem dX10_about_17 : decode cX10_about 17 = .ok (.iload_n 2, 1) := by decide +kernel
theorem dX10_about_18 : decode cX10_about 18 = .ok (.tableswitch 76 0 5 #[38, 43, 48, 53, 58, 71], 38) := by decide +kernel
theorem dX10_about_56 : decode cX10_about 56 = .ok (.aload_n 3, 1) := by decide +kernel
theorem dX10_about_57 : decode cX10_about 57 = .ok (.getfield 201, 3) := by decide +kernel
theorem dX10_about_60 : decode cX10_about 60 = .ok (.ireturn, 1) := by decide +kernel
theorem dX10_about_61 : decode cX10_about 61 = .ok (.aload_n 3, 1) := by decide +kernel
theorem dX10_about_62 : decode cX10_about 62 = .ok (.getfield 223, 3) := by decide +kernel
theorem dX10_about_65 : decode cX10_about 65 = .ok (.ireturn, 1) := by decide +kernel
theorem dX10_about_66 : decode cX10_about 66 = .ok (.aload_n 3, 1) := by decide +kernel
theorem dX10_about_67 : decode cX10_about 67 = .ok (.getfield 216, 3) := by decide +kernel
theorem dX10_about_70 : decode cX10_about 70 = .ok (.ireturn, 1) := by decide +kernel
theorem dX10_about_71 : decode cX10_about 71 = .ok (.aload_n 3, 1) := by decide +kernel
theorem dX10_about_72 : decode cX10_about 72 = .ok (.getfield 226, 3) := by decide +kernel
theorem dX10_about_75 : decode cX10_about 75 = .ok (.ireturn, 1) := by decide +kernel
theorem dX10_about_76 : decode cX10_about 76 = .ok (.aload_n 3, 1) := by decide +kernel
theorem dX10_about_77 : decode cX10_about 77 = .ok (.invokevirtual 197, 3) := by decide +kernel
theorem dX10_about_80 : decode cX10_about 80 = .ok (.ifCond .eq 7, 3) := by decide +kernel
theorem dX10_about_83 : decode cX10_about 83 = .ok (.iconst 1, 1) := by decide +kernel
theorem dX10_about_84 : decode cX10_about 84 = .ok (.goto 4, 3) := by decide +kernel
theorem dX10_about_87 : decode cX10_about 87 = .ok (.iconst 0, 1) := by decide +kernel
theorem dX10_about_88 : decode cX10_about 88 = .ok (.ireturn, 1) := by decide +kernel
theorem dX10_about_89 : decode cX10_about 89 = .ok (.aload_n 3, 1) := by decide +kernel
theorem dX10_about_90 : decode cX10_about 90 = .ok (.getfield 229, 3) := by decide +kernel
theorem dX10_about_93 : decode cX10_about 93 = .ok (.ireturn, 1) := by decide +kernel
theorem dX10_about_94 : decode cX10_about 94 = .ok (.aload_n 0, 1) := by decide +kernel
theorem dX10_about_95 : decode cX10_about 95 = .ok (.ldc 65, 2) := by decide +kernel
theorem dX10_about_97 : decode cX10_about 97 = .ok (.invokevirtual 66, 3) := by decide +kernel
theorem dX10_about_100 : decode cX10_about 100 = .ok (.ireturn, 1) := by decide +kernel
theorem dX10_offer_0 : decode cX10_offer 0 = .ok (.aload_n 0, 1) := by decide +kernel
theorem dX10_offer_1 : decode cX10_offer 1 = .ok (.iload_n 1, 1) := by decide +kernel
theorem dX10_offer_2 : decode cX10_offer 2 = .ok (.invokevirtual 193, 3) := by decide +kernel
theorem dX10_offer_5 : decode cX10_offer 5 = .ok (.astore_n 2, 1) := by decide +kernel
theorem dX10_offer_6 : decode cX10_offer 6 = .ok (.aload_n 2, 1) := by decide +kernel
theorem dX10_offer_7 : decode cX10_offer 7 = .ok (.ifnonnull 10, 3) := by decide +kernel
theorem dX10_offer_10 : decode cX10_offer 10 = .ok (.aload_n 0, 1) := by decide +kernel
theorem dX10_offer_11 : decode cX10_offer 11 = .ok (.ldc 65, 2) := by decide +kernel
theorem dX10_offer_13 : decode cX10_offer 13 = .ok (.invokevirtual 66, 3) := by decide +kernel
theorem dX10_offer_16 : decode cX10_offer 16 = .ok (.ireturn, 1) := by decide +kernel
theorem dX10_offer_17 : decode cX10_offer 17 = .ok (.aload_n 2, 1) := by decide +kernel
theorem dX10_offer_18 : decode cX10_offer 18 = .ok (.invokevirtual 197, 3) := by decide +kernel
theorem dX10_offer_21 : decode cX10_offer 21 = .ok (.ifCond .eq 10, 3) := by decide +kernel
theorem dX10_offer_24 : decode cX10_offer 24 = .ok (.aload_n 0, 1) := by decide +kernel
theorem dX10_offer_25 : decode cX10_offer 25 = .ok (.ldc 183, 2) := by decide +kernel
theorem dX10_offer_27 : decode cX10_offer 27 = .ok (.invokevirtual 66, 3) := by decide +kernel
theorem dX10_offer_30 : decode cX10_offer 30 = .ok (.ireturn, 1) := by decide +kernel
theorem dX10_offer_31 : decode cX10_offer 31 = .ok (.aload_n 0, 1) := by decide +kernel
theorem dX10_offer_32 : decode cX10_offer 32 = .ok (.aload_n 2, 1) := by decide +kernel
theorem dX10_offer_33 : decode cX10_offer 33 = .ok (.invokevirtual 232, 3) := by decide +kernel
theorem dX10_offer_36 : decode cX10_offer 36 = .ok (.aload_n 0, 1) := by decide +kernel
theorem dX10_offer_37 : decode cX10_offer 37 = .ok (.aload_n 2, 1) := by decide +kernel
theorem dX10_offer_38 : decode cX10_offer 38 = .ok (.invokevirtual 236, 3) := by decide +kernel
theorem dX10_offer_41 : decode cX10_offer 41 = .ok (.istore_n 3, 1) := by decide +kernel
theorem dX10_offer_42 : decode cX10_offer 42 = .ok (.iload_n 3, 1) := by decide +kernel
theorem dX10_offer_43 : decode cX10_offer 43 = .ok (.ifCond .lt 7, 3) := by decide +kernel
theorem dX10_offer_46 : decode cX10_offer 46 = .ok (.iload_n 3, 1) := by decide +kernel
theorem dX10_offer_47 : decode cX10_offer 47 = .ok (.goto 9, 3) := by decide +kernel
theorem dX10_offer_50 : decode cX10_offer 50 = .ok (.aload_n 0, 1) := by decide +kernel
theorem dX10_offer_51 : decode cX10_offer 51 = .ok (.ldc 175, 2) := by decide +kernel
theorem dX10_offer_53 : decode cX10_offer 53 = .ok (.invokevirtual 66, 3) := by decide +kernel
theorem dX10_offer_56 : decode cX10_offer 56 = .ok (.ireturn, 1) := by decide +kernel
theorem dX10_rest_0 : decode cX10_rest 0 = .ok (.aload_n 0, 1) := by decide +kernel
theorem dX10_rest_1 : decode cX10_rest 1 = .ok (.iload_n 1, 1) := by decide +kernel
theorem dX10_rest_2 : decode cX10_rest 2 = .ok (.invokevirtual 193, 3) := by decide +kernel
theorem dX10_rest_5 : decode cX10_rest 5 = .ok (.astore_n 2, 1) := by decide +kernel
theorem dX10_rest_6 : decode cX10_rest 6 = .ok (.aload_n 2, 1) := by decide +kernel
theorem dX10_rest_7 : decode cX10_rest 7 = .ok (.ifnonnull 10, 3) := by decide +kernel
theorem dX10_rest_10 : decode cX10_rest 10 = .ok (.aload_n 0, 1) := by decide +kernel
theorem dX10_rest_11 : decode cX10_rest 11 = .ok (.ldc 65, 2) := by decide +kernel
theorem dX10_rest_13 : decode cX10_rest 13 = .ok (.invokevirtual 66, 3) := by decide +kernel
theorem dX10_rest_16 : decode cX10_rest 16 = .ok (.ireturn, 1) := by decide +kernel
theorem dX10_rest_17 : decode cX10_rest 17 = .ok (.aload_n 0, 1) := by decide +kernel
theorem dX10_rest_18 : decode cX10_rest 18 = .ok (.aload_n 2, 1) := by decide +kernel
theorem dX10_rest_19 : decode cX10_rest 19 = .ok (.invokevirtual 232, 3) := by decide +kernel
theorem dX10_rest_22 : decode cX10_rest 22 = .ok (.aload_n 0, 1) := by decide +kernel
theorem dX10_rest_23 : decode cX10_rest 23 = .ok (.aload_n 0, 1) := by decide +kernel
theorem dX10_rest_24 : decode cX10_rest 24 = .ok (.getfield 44, 3) := by decide +kernel
theorem dX10_rest_27 : decode cX10_rest 27 = .ok (.aload_n 2, 1) := by decide +kernel
theorem dX10_rest_28 : decode cX10_rest 28 = .ok (.getfield 201, 3) := by decide +kernel
theorem dX10_rest_31 : decode cX10_rest 31 = .ok (.aload_n 2, 1) := by decide +kernel
theorem dX10_rest_32 : decode cX10_rest 32 = .ok (.getfield 223, 3) := by decide +kernel
theorem dX10_rest_35 : decode cX10_rest 35 = .ok (.invokevirtual 171, 3) := by decide +kernel
theorem dX10_rest_38 : decode cX10_rest 38 = .ok (.invokevirtual 108, 3) := by decide +kernel
theorem dX10_rest_41 : decode cX10_rest 41 = .ok (.ireturn, 1) := by decide +kernel
theorem dX10_lost_0 : decode cX10_lost 0 = .ok (.aload_n 0, 1) := by decide +kernel
theorem dX10_lost_1 : decode cX10_lost 1 = .ok (.iload_n 1, 1) := by decide +kernel
theorem dX10_lost_2 : decode cX10_lost 2 = .ok (.invokevirtual 193, 3) := by decide +kernel
theorem dX10_lost_5 : decode cX10_lost 5 = .ok (.astore_n 2, 1) := by decide +kernel
theorem dX10_lost_6 : decode cX10_lost 6 = .ok (.aload_n 2, 1) := by decide +kernel
theorem dX10_lost_7 : decode cX10_lost 7 = .ok (.ifnonnull 10, 3) := by decide +kernel
theorem dX10_lost_10 : decode cX10_lost 10 = .ok (.aload_n 0, 1) := by decide +kernel
theorem dX10_lost_11 : decode cX10_lost 11 = .ok (.ldc 65, 2) := by decide +kernel
theorem dX10_lost_13 : decode cX10_lost 13 = .ok (.invokevirtual 66, 3) := by decide +kernel
theorem dX10_lost_16 : decode cX10_lost 16 = .ok (.ireturn, 1) := by decide +kernel
theorem dX10_lost_17 : decode cX10_lost 17 = .ok (.aload_n 0, 1) := by decide +kernel
theorem dX10_lost_18 : decode cX10_lost 18 = .ok (.aload_n 2, 1) := by decide +kernel
theorem dX10_lost_19 : decode cX10_lost 19 = .ok (.invokevirtual 232, 3) := by decide +kernel
theorem dX10_lost_22 : decode cX10_lost 22 = .ok (.aload_n 2, 1) := by decide +kernel
theorem dX10_lost_23 : decode cX10_lost 23 = .ok (.getfield 240, 3) := by decide +kernel
theorem dX10_lost_26 : decode cX10_lost 26 = .ok (.invokevirtual 244, 3) := by decide +kernel
theorem dX10_lost_29 : decode cX10_lost 29 = .ok (.aload_n 0, 1) := by decide +kernel
theorem dX10_lost_30 : decode cX10_lost 30 = .ok (.getfield 44, 3) := by decide +kernel
theorem dX10_lost_33 : decode cX10_lost 33 = .ok (.invokevirtual 168, 3) := by decide +kernel
theorem dX10_lost_36 : decode cX10_lost 36 = .ok (.iconst (-1), 1) := by decide +kernel
theorem dX10_lost_37 : decode cX10_lost 37 = .ok (.ixor, 1) := by decide +kernel
theorem dX10_lost_38 : decode cX10_lost 38 = .ok (.iand, 1) := by decide +kernel
theorem dX10_lost_39 : decode cX10_lost 39 = .ok (.ireturn, 1) := by decide +kernel
theorem dX10_seen_0 : decode cX10_seen 0 = .ok (.aload_n 0, 1) := by decide +kernel
theorem dX10_seen_1 : decode cX10_seen 1 = .ok (.iload_n 1, 1) := by decide +kernel
theorem dX10_seen_2 : decode cX10_seen 2 = .ok (.invokevirtual 193, 3) := by decide +kernel
theorem dX10_seen_5 : decode cX10_seen 5 = .ok (.astore 5, 2) := by decide +kernel
theorem dX10_seen_7 : decode cX10_seen 7 = .ok (.aload 5, 2) := by decide +kernel
theorem dX10_seen_9 : decode cX10_seen 9 = .ok (.ifnull 11, 3) := by decide +kernel
theorem dX10_seen_12 : decode cX10_seen 12 = .ok (.iload 4, 2) := by decide +kernel
theorem dX10_seen_14 : decode cX10_seen 14 = .ok (.invokestatic 247, 3) := by decide +kernel
theorem dX10_seen_17 : decode cX10_seen 17 = .ok (.ifCond .ne 10, 3) := by decide +kernel
theorem dX10_seen_20 : decode cX10_seen 20 = .ok (.aload_n 0, 1) := by decide +kernel
theorem dX10_seen_21 : decode cX10_seen 21 = .ok (.ldc 65, 2) := by decide +kernel
theorem dX10_seen_23 : decode cX10_seen 23 = .ok (.invokevirtual 66, 3) := by decide +kernel
theorem dX10_seen_26 : decode cX10_seen 26 = .ok (.ireturn, 1) := by decide +kernel
theorem dX10_seen_27 : decode cX10_seen 27 = .ok (.aload 5, 2) := by decide +kernel
theorem dX10_seen_29 : decode cX10_seen 29 = .ok (.invokevirtual 197, 3) := by decide +kernel
theorem dX10_seen_32 : decode cX10_seen 32 = .ok (.ifCond .eq 10, 3) := by decide +kernel
theorem dX10_seen_35 : decode cX10_seen 35 = .ok (.aload_n 0, 1) := by decide +kernel
theorem dX10_seen_36 : decode cX10_seen 36 = .ok (.ldc 183, 2) := by decide +kernel
theorem dX10_seen_38 : decode cX10_seen 38 = .ok (.invokevirtual 66, 3) := by decide +kernel
theorem dX10_seen_41 : decode cX10_seen 41 = .ok (.ireturn, 1) := by decide +kernel
theorem dX10_seen_42 : decode cX10_seen 42 = .ok (.aload 5, 2) := by decide +kernel
theorem dX10_seen_44 : decode cX10_seen 44 = .ok (.aload_n 0, 1) := by decide +kernel
theorem dX10_seen_45 : decode cX10_seen 45 = .ok (.getfield 10, 3) := by decide +kernel
theorem dX10_seen_48 : decode cX10_seen 48 = .ok (.aload_n 0, 1) := by decide +kernel
theorem dX10_seen_49 : decode cX10_seen 49 = .ok (.getfield 55, 3) := by decide +kernel
theorem dX10_seen_52 : decode cX10_seen 52 = .ok (.iload_n 2, 1) := by decide +kernel
theorem dX10_seen_53 : decode cX10_seen 53 = .ok (.iload_n 3, 1) := by decide +kernel
theorem dX10_seen_54 : decode cX10_seen 54 = .ok (.iload 4, 2) := by decide +kernel
theorem dX10_seen_56 : decode cX10_seen 56 = .ok (.invokevirtual 250, 3) := by decide +kernel
theorem dX10_seen_59 : decode cX10_seen 59 = .ok (.aload 5, 2) := by decide +kernel
theorem dX10_seen_61 : decode cX10_seen 61 = .ok (.getfield 201, 3) := by decide +kernel
theorem dX10_seen_64 : decode cX10_seen 64 = .ok (.ireturn, 1) := by decide +kernel
theorem dX10_sheet_0 : decode cX10_sheet 0 = .ok (.iload_n 1, 1) := by decide +kernel
theorem dX10_sheet_1 : decode cX10_sheet 1 = .ok (.invokestatic 254, 3) := by decide +kernel
theorem dX10_sheet_4 : decode cX10_sheet 4 = .ok (.ifCond .eq 10, 3) := by decide +kernel
theorem dX10_sheet_7 : decode cX10_sheet 7 = .ok (.iload_n 2, 1) := by decide +kernel
theorem dX10_sheet_8 : decode cX10_sheet 8 = .ok (.invokestatic 257, 3) := by decide +kernel
theorem dX10_sheet_11 : decode cX10_sheet 11 = .ok (.ifCond .ne 10, 3) := by decide +kernel
theorem dX10_sheet_14 : decode cX10_sheet 14 = .ok (.aload_n 0, 1) := by decide +kernel
theorem dX10_sheet_15 : decode cX10_sheet 15 = .ok (.ldc 65, 2) := by decide +kernel
theorem dX10_sheet_17 : decode cX10_sheet 17 = .ok (.invokevirtual 66, 3) := by decide +kernel
theorem dX10_sheet_20 : decode cX10_sheet 20 = .ok (.ireturn, 1) := by decide +kernel
theorem dX10_sheet_21 : decode cX10_sheet 21 = .ok (.iload_n 3, 1) := by decide +kernel
theorem dX10_sheet_22 : decode cX10_sheet 22 = .ok (.ifCond .ge 11, 3) := by decide +kernel
theorem dX10_sheet_25 : decode cX10_sheet 25 = .ok (.aload_n 0, 1) := by decide +kernel
theorem dX10_sheet_26 : decode cX10_sheet 26 = .ok (.ldc_w 260, 3) := by decide +kernel
theorem dX10_sheet_29 : decode cX10_sheet 29 = .ok (.invokevirtual 66, 3) := by decide +kernel
theorem dX10_sheet_32 : decode cX10_sheet 32 = .ok (.ireturn, 1) := by decide +kernel
theorem dX10_sheet_33 : decode cX10_sheet 33 = .ok (.iload_n 3, 1) := by decide +kernel
theorem dX10_sheet_34 : decode cX10_sheet 34 = .ok (.bipush 12, 2) := by decide +kernel
theorem dX10_sheet_36 : decode cX10_sheet 36 = .ok (.if_icmp .le 10, 3) := by decide +kernel
theorem dX10_sheet_39 : decode cX10_sheet 39 = .ok (.aload_n 0, 1) := by decide +kernel
theorem dX10_sheet_40 : decode cX10_sheet 40 = .ok (.ldc 65, 2) := by decide +kernel
theorem dX10_sheet_42 : decode cX10_sheet 42 = .ok (.invokevirtual 66, 3) := by decide +kernel
theorem dX10_sheet_45 : decode cX10_sheet 45 = .ok (.ireturn, 1) := by decide +kernel
theorem dX10_sheet_46 : decode cX10_sheet 46 = .ok (.iload_n 2, 1) := by decide +kernel
theorem dX10_sheet_47 : decode cX10_sheet 47 = .ok (.ifCond .ne 12, 3) := by decide +kernel
theorem dX10_sheet_50 : decode cX10_sheet 50 = .ok (.aload_n 0, 1) := by decide +kernel
theorem dX10_sheet_51 : decode cX10_sheet 51 = .ok (.getfield 37, 3) := by decide +kernel
theorem dX10_sheet_54 : decode cX10_sheet 54 = .ok (.iload_n 1, 1) := by decide +kernel
theorem dX10_sheet_55 : decode cX10_sheet 55 = .ok (.aconst_null, 1) := by decide +kernel
theorem dX10_sheet_56 : decode cX10_sheet 56 = .ok (.aastore, 1) := by decide +kernel
theorem dX10_sheet_57 : decode cX10_sheet 57 = .ok (.iconst 0, 1) := by decide +kernel
theorem dX10_sheet_58 : decode cX10_sheet 58 = .ok (.ireturn, 1) := by decide +kernel
theorem dX10_sheet_59 : decode cX10_sheet 59 = .ok (.aload_n 0, 1) := by decide +kernel
theorem dX10_sheet_60 : decode cX10_sheet 60 = .ok (.getfield 37, 3) := by decide +kernel
theorem dX10_sheet_63 : decode cX10_sheet 63 = .ok (.iload_n 1, 1) := by decide +kernel
theorem dX10_sheet_64 : decode cX10_sheet 64 = .ok (.new 35, 3) := by decide +kernel
theorem dX10_sheet_67 : decode cX10_sheet 67 = .ok (.dup, 1) := by decide +kernel
theorem dX10_sheet_68 : decode cX10_sheet 68 = .ok (.iload_n 2, 1) := by decide +kernel
theorem dX10_sheet_69 : decode cX10_sheet 69 = .ok (.iload_n 3, 1) := by decide +kernel
theorem dX10_sheet_70 : decode cX10_sheet 70 = .ok (.invokespecial 261, 3) := by decide +kernel
theorem dX10_sheet_73 : decode cX10_sheet 73 = .ok (.aastore, 1) := by decide +kernel
theorem dX10_sheet_74 : decode cX10_sheet 74 = .ok (.iload_n 3, 1) := by decide +kernel
theorem dX10_sheet_75 : decode cX10_sheet 75 = .ok (.ireturn, 1) := by decide +kernel
theorem dX10_write_0 : decode cX10_write 0 = .ok (.iload_n 1, 1) := by decide +kernel
theorem dX10_write_1 : decode cX10_write 1 = .ok (.invokestatic 254, 3) := by decide +kernel
theorem dX10_write_4 : decode cX10_write 4 = .ok (.ifCond .ne 10, 3) := by decide +kernel
theorem dX10_write_7 : decode cX10_write 7 = .ok (.aload_n 0, 1) := by decide +kernel
theorem dX10_write_8 : decode cX10_write 8 = .ok (.ldc 65, 2) := by decide +kernel
theorem dX10_write_10 : decode cX10_write 10 = .ok (.invokevirtual 66, 3) := by decide +kernel
theorem dX10_write_13 : decode cX10_write 13 = .ok (.ireturn, 1) := by decide +kernel
theorem dX10_write_14 : decode cX10_write 14 = .ok (.aload_n 0, 1) := by decide +kernel
theorem dX10_write_15 : decode cX10_write 15 = .ok (.getfield 37, 3) := by decide +kernel
theorem dX10_write_18 : decode cX10_write 18 = .ok (.iload_n 1, 1) := by decide +kernel
theorem dX10_write_19 : decode cX10_write 19 = .ok (.aaload, 1) := by decide +kernel
theorem dX10_write_20 : decode cX10_write 20 = .ok (.astore 4, 2) := by decide +kernel
theorem dX10_write_22 : decode cX10_write 22 = .ok (.aload 4, 2) := by decide +kernel
theorem dX10_write_24 : decode cX10_write 24 = .ok (.ifnonnull 11, 3) := by decide +kernel
theorem dX10_write_27 : decode cX10_write 27 = .ok (.aload_n 0, 1) := by decide +kernel
theorem dX10_write_28 : decode cX10_write 28 = .ok (.ldc_w 264, 3) := by decide +kernel
theorem dX10_write_31 : decode cX10_write 31 = .ok (.invokevirtual 66, 3) := by decide +kernel
theorem dX10_write_34 : decode cX10_write 34 = .ok (.ireturn, 1) := by decide +kernel
theorem dX10_write_35 : decode cX10_write 35 = .ok (.iload_n 2, 1) := by decide +kernel
theorem dX10_write_36 : decode cX10_write 36 = .ok (.iconst 0, 1) := by decide +kernel
theorem dX10_write_37 : decode cX10_write 37 = .ok (.aload 4, 2) := by decide +kernel
theorem dX10_write_39 : decode cX10_write 39 = .ok (.getfield 265, 3) := by decide +kernel
theorem dX10_write_42 : decode cX10_write 42 = .ok (.arraylength, 1) := by decide +kernel
theorem dX10_write_43 : decode cX10_write 43 = .ok (.iconst 1, 1) := by decide +kernel
theorem dX10_write_44 : decode cX10_write 44 = .ok (.isub, 1) := by decide +kernel
theorem dX10_write_45 : decode cX10_write 45 = .ok (.invokestatic 61, 3) := by decide +kernel
theorem dX10_write_48 : decode cX10_write 48 = .ok (.ifCond .ne 10, 3) := by decide +kernel
theorem dX10_write_51 : decode cX10_write 51 = .ok (.aload_n 0, 1) := by decide +kernel
theorem dX10_write_52 : decode cX10_write 52 = .ok (.ldc 65, 2) := by decide +kernel
theorem dX10_write_54 : decode cX10_write 54 = .ok (.invokevirtual 66, 3) := by decide +kernel
theorem dX10_write_57 : decode cX10_write 57 = .ok (.ireturn, 1) := by decide +kernel
theorem dX10_write_58 : decode cX10_write 58 = .ok (.aload 4, 2) := by decide +kernel
theorem dX10_write_60 : decode cX10_write 60 = .ok (.getfield 265, 3) := by decide +kernel
theorem dX10_write_63 : decode cX10_write 63 = .ok (.iload_n 2, 1) := by decide +kernel
theorem dX10_write_64 : decode cX10_write 64 = .ok (.iaload, 1) := by decide +kernel
theorem dX10_write_65 : decode cX10_write 65 = .ok (.istore 5, 2) := by decide +kernel
theorem dX10_write_67 : decode cX10_write 67 = .ok (.aload 4, 2) := by decide +kernel
theorem dX10_write_69 : decode cX10_write 69 = .ok (.getfield 265, 3) := by decide +kernel
theorem dX10_write_72 : decode cX10_write 72 = .ok (.iload_n 2, 1) := by decide +kernel
theorem dX10_write_73 : decode cX10_write 73 = .ok (.aload 4, 2) := by decide +kernel
theorem dX10_write_75 : decode cX10_write 75 = .ok (.iload_n 3, 1) := by decide +kernel
theorem dX10_write_76 : decode cX10_write 76 = .ok (.invokevirtual 269, 3) := by decide +kernel
theorem dX10_write_79 : decode cX10_write 79 = .ok (.iastore, 1) := by decide +kernel
theorem dX10_write_80 : decode cX10_write 80 = .ok (.iload 5, 2) := by decide +kernel
theorem dX10_write_82 : decode cX10_write 82 = .ok (.ireturn, 1) := by decide +kernel
theorem dX10_copy_0 : decode cX10_copy 0 = .ok (.iload_n 1, 1) := by decide +kernel
theorem dX10_copy_1 : decode cX10_copy 1 = .ok (.invokestatic 254, 3) := by decide +kernel
theorem dX10_copy_4 : decode cX10_copy 4 = .ok (.ifCond .eq 10, 3) := by decide +kernel
theorem dX10_copy_7 : decode cX10_copy 7 = .ok (.iload_n 3, 1) := by decide +kernel
theorem dX10_copy_8 : decode cX10_copy 8 = .ok (.invokestatic 254, 3) := by decide +kernel
theorem dX10_copy_11 : decode cX10_copy 11 = .ok (.ifCond .ne 10, 3) := by decide +kernel
theorem dX10_copy_14 : decode cX10_copy 14 = .ok (.aload_n 0, 1) := by decide +kernel
theorem dX10_copy_15 : decode cX10_copy 15 = .ok (.ldc 65, 2) := by decide +kernel
theorem dX10_copy_17 : decode cX10_copy 17 = .ok (.invokevirtual 66, 3) := by decide +kernel
theorem dX10_copy_20 : decode cX10_copy 20 = .ok (.ireturn, 1) := by decide +kernel
theorem dX10_copy_21 : decode cX10_copy 21 = .ok (.aload_n 0, 1) := by decide +kernel
theorem dX10_copy_22 : decode cX10_copy 22 = .ok (.getfield 37, 3) := by decide +kernel
theorem dX10_copy_25 : decode cX10_copy 25 = .ok (.iload_n 1, 1) := by decide +kernel
theorem dX10_copy_26 : decode cX10_copy 26 = .ok (.aaload, 1) := by decide +kernel
theorem dX10_copy_27 : decode cX10_copy 27 = .ok (.astore 6, 2) := by decide +kernel
theorem dX10_copy_29 : decode cX10_copy 29 = .ok (.aload_n 0, 1) := by decide +kernel
theorem dX10_copy_30 : decode cX10_copy 30 = .ok (.getfield 37, 3) := by decide +kernel
theorem dX10_copy_33 : decode cX10_copy 33 = .ok (.iload_n 3, 1) := by decide +kernel
theorem dX10_copy_34 : decode cX10_copy 34 = .ok (.aaload, 1) := by decide +kernel
theorem dX10_copy_35 : decode cX10_copy 35 = .ok (.astore 7, 2) := by decide +kernel
theorem dX10_copy_37 : decode cX10_copy 37 = .ok (.aload 6, 2) := by decide +kernel
theorem dX10_copy_39 : decode cX10_copy 39 = .ok (.ifnull 8, 3) := by decide +kernel
theorem dX10_copy_42 : decode cX10_copy 42 = .ok (.aload 7, 2) := by decide +kernel
theorem dX10_copy_44 : decode cX10_copy 44 = .ok (.ifnonnull 11, 3) := by decide +kernel
theorem dX10_copy_47 : decode cX10_copy 47 = .ok (.aload_n 0, 1) := by decide +kernel
theorem dX10_copy_48 : decode cX10_copy 48 = .ok (.ldc_w 264, 3) := by decide +kernel
theorem dX10_copy_51 : decode cX10_copy 51 = .ok (.invokevirtual 66, 3) := by decide +kernel
theorem dX10_copy_54 : decode cX10_copy 54 = .ok (.ireturn, 1) := by decide +kernel
theorem dX10_copy_55 : decode cX10_copy 55 = .ok (.aload 6, 2) := by decide +kernel
theorem dX10_copy_57 : decode cX10_copy 57 = .ok (.getfield 272, 3) := by decide +kernel
theorem dX10_copy_60 : decode cX10_copy 60 = .ok (.aload 7, 2) := by decide +kernel
theorem dX10_copy_62 : decode cX10_copy 62 = .ok (.getfield 272, 3) := by decide +kernel
theorem dX10_copy_65 : decode cX10_copy 65 = .ok (.if_icmp .eq 10, 3) := by decide +kernel
theorem dX10_copy_68 : decode cX10_copy 68 = .ok (.aload_n 0, 1) := by decide +kernel
theorem dX10_copy_69 : decode cX10_copy 69 = .ok (.ldc 140, 2) := by decide +kernel
theorem dX10_copy_71 : decode cX10_copy 71 = .ok (.invokevirtual 66, 3) := by decide +kernel
theorem dX10_copy_74 : decode cX10_copy 74 = .ok (.ireturn, 1) := by decide +kernel
theorem dX10_copy_75 : decode cX10_copy 75 = .ok (.aload 6, 2) := by decide +kernel
theorem dX10_copy_77 : decode cX10_copy 77 = .ok (.iload_n 2, 1) := by decide +kernel
theorem dX10_copy_78 : decode cX10_copy 78 = .ok (.iload 5, 2) := by decide +kernel
theorem dX10_copy_80 : decode cX10_copy 80 = .ok (.invokevirtual 275, 3) := by decide +kernel
theorem dX10_copy_83 : decode cX10_copy 83 = .ok (.ifCond .eq 15, 3) := by decide +kernel
theorem dX10_copy_86 : decode cX10_copy 86 = .ok (.aload 7, 2) := by decide +kernel
theorem dX10_copy_88 : decode cX10_copy 88 = .ok (.iload 4, 2) := by decide +kernel
theorem dX10_copy_90 : decode cX10_copy 90 = .ok (.iload 5, 2) := by decide +kernel
theorem dX10_copy_92 : decode cX10_copy 92 = .ok (.invokevirtual 275, 3) := by decide +kernel
theorem dX10_copy_95 : decode cX10_copy 95 = .ok (.ifCond .ne 10, 3) := by decide +kernel
theorem dX10_copy_98 : decode cX10_copy 98 = .ok (.aload_n 0, 1) := by decide +kernel
theorem dX10_copy_99 : decode cX10_copy 99 = .ok (.ldc 65, 2) := by decide +kernel
theorem dX10_copy_101 : decode cX10_copy 101 = .ok (.invokevirtual 66, 3) := by decide +kernel
theorem dX10_copy_104 : decode cX10_copy 104 = .ok (.ireturn, 1) := by decide +kernel
theorem dX10_copy_105 : decode cX10_copy 105 = .ok (.aload 6, 2) := by decide +kernel
theorem dX10_copy_107 : decode cX10_copy 107 = .ok (.getfield 265, 3) := by decide +kernel
theorem dX10_copy_110 : decode cX10_copy 110 = .ok (.iload_n 2, 1) := by decide +kernel
theorem dX10_copy_111 : decode cX10_copy 111 = .ok (.aload 7, 2) := by decide +kernel
theorem dX10_copy_113 : decode cX10_copy 113 = .ok (.getfield 265, 3) := by decide +kernel
theorem dX10_copy_116 : decode cX10_copy 116 = .ok (.iload 4, 2) := by decide +kernel
theorem dX10_copy_118 : decode cX10_copy 118 = .ok (.iload 5, 2) := by decide +kernel
theorem dX10_copy_120 : decode cX10_copy 120 = .ok (.invokestatic 279, 3) := by decide +kernel
theorem dX10_copy_123 : decode cX10_copy 123 = .ok (.iload 5, 2) := by decide +kernel
theorem dX10_copy_125 : decode cX10_copy 125 = .ok (.ireturn, 1) := by decide +kernel
theorem dX10_trace_0 : decode cX10_trace 0 = .ok (.aload_n 0, 1) := by decide +kernel
theorem dX10_trace_1 : decode cX10_trace 1 = .ok (.iload_n 2, 1) := by decide +kernel
theorem dX10_trace_2 : decode cX10_trace 2 = .ok (.invokevirtual 193, 3) := by decide +kernel
theorem dX10_trace_5 : decode cX10_trace 5 = .ok (.astore_n 3, 1) := by decide +kernel
theorem dX10_trace_6 : decode cX10_trace 6 = .ok (.iload_n 1, 1) := by decide +kernel
theorem dX10_trace_7 : decode cX10_trace 7 = .ok (.invokestatic 254, 3) := by decide +kernel
theorem dX10_trace_10 : decode cX10_trace 10 = .ok (.ifCond .eq 7, 3) := by decide +kernel
theorem dX10_trace_13 : decode cX10_trace 13 = .ok (.aload_n 3, 1) := by decide +kernel
theorem dX10_trace_14 : decode cX10_trace 14 = .ok (.ifnonnull 10, 3) := by decide +kernel
theorem dX10_trace_17 : decode cX10_trace 17 = .ok (.aload_n 0, 1) := by decide +kernel
theorem dX10_trace_18 : decode cX10_trace 18 = .ok (.ldc 65, 2) := by decide +kernel
theorem dX10_trace_20 : decode cX10_trace 20 = .ok (.invokevirtual 66, 3) := by decide +kernel
theorem dX10_trace_23 : decode cX10_trace 23 = .ok (.ireturn, 1) := by decide +kernel
theorem dX10_trace_24 : decode cX10_trace 24 = .ok (.aload_n 0, 1) := by decide +kernel
theorem dX10_trace_25 : decode cX10_trace 25 = .ok (.getfield 37, 3) := by decide +kernel
theorem dX10_trace_28 : decode cX10_trace 28 = .ok (.iload_n 1, 1) := by decide +kernel
theorem dX10_trace_29 : decode cX10_trace 29 = .ok (.aaload, 1) := by decide +kernel
theorem dX10_trace_30 : decode cX10_trace 30 = .ok (.astore 4, 2) := by decide +kernel
theorem dX10_trace_32 : decode cX10_trace 32 = .ok (.aload 4, 2) := by decide +kernel
theorem dX10_trace_34 : decode cX10_trace 34 = .ok (.ifnonnull 11, 3) := by decide +kernel
theorem dX10_trace_37 : decode cX10_trace 37 = .ok (.aload_n 0, 1) := by decide +kernel
theorem dX10_trace_38 : decode cX10_trace 38 = .ok (.ldc_w 264, 3) := by decide +kernel
theorem dX10_trace_41 : decode cX10_trace 41 = .ok (.invokevirtual 66, 3) := by decide +kernel
theorem dX10_trace_44 : decode cX10_trace 44 = .ok (.ireturn, 1) := by decide +kernel
theorem dX10_trace_45 : decode cX10_trace 45 = .ok (.aload 4, 2) := by decide +kernel
theorem dX10_trace_47 : decode cX10_trace 47 = .ok (.getfield 265, 3) := by decide +kernel
theorem dX10_trace_50 : decode cX10_trace 50 = .ok (.astore 5, 2) := by decide +kernel
theorem dX10_trace_52 : decode cX10_trace 52 = .ok (.iconst 0, 1) := by decide +kernel
theorem dX10_trace_53 : decode cX10_trace 53 = .ok (.istore 6, 2) := by decide +kernel
theorem dX10_trace_55 : decode cX10_trace 55 = .ok (.iconst 0, 1) := by decide +kernel
theorem dX10_trace_56 : decode cX10_trace 56 = .ok (.istore 7, 2) := by decide +kernel
theorem dX10_trace_58 : decode cX10_trace 58 = .ok (.iload 7, 2) := by decide +kernel
theorem dX10_trace_60 : decode cX10_trace 60 = .ok (.iconst 2, 1) := by decide +kernel
theorem dX10_trace_61 : decode cX10_trace 61 = .ok (.iadd, 1) := by decide +kernel
theorem dX10_trace_62 : decode cX10_trace 62 = .ok (.aload 5, 2) := by decide +kernel
theorem dX10_trace_64 : decode cX10_trace 64 = .ok (.arraylength, 1) := by decide +kernel
theorem dX10_trace_65 : decode cX10_trace 65 = .ok (.if_icmp .ge 66, 3) := by decide +kernel
theorem dX10_trace_68 : decode cX10_trace 68 = .ok (.aload_n 3, 1) := by decide +kernel
theorem dX10_trace_69 : decode cX10_trace 69 = .ok (.invokevirtual 197, 3) := by decide +kernel
theorem dX10_trace_72 : decode cX10_trace 72 = .ok (.ifCond .ne 59, 3) := by decide +kernel
theorem dX10_trace_75 : decode cX10_trace 75 = .ok (.aload 5, 2) := by decide +kernel
theorem dX10_trace_77 : decode cX10_trace 77 = .ok (.iload 7, 2) := by decide +kernel
theorem dX10_trace_79 : decode cX10_trace 79 = .ok (.iconst 2, 1) := by decide +kernel
theorem dX10_trace_80 : decode cX10_trace 80 = .ok (.iadd, 1) := by decide +kernel
theorem dX10_trace_81 : decode cX10_trace 81 = .ok (.iaload, 1) := by decide +kernel
theorem dX10_trace_82 : decode cX10_trace 82 = .ok (.invokestatic 247, 3) := by decide +kernel
theorem dX10_trace_85 : decode cX10_trace 85 = .ok (.ifCond .ne 6, 3) := by decide +kernel
theorem dX10_trace_88 : decode cX10_trace 88 = .ok (.goto 43, 3) := by decide +kernel
theorem dX10_trace_91 : decode cX10_trace 91 = .ok (.aload_n 3, 1) := by decide +kernel
theorem dX10_trace_92 : decode cX10_trace 92 = .ok (.aload_n 0, 1) := by decide +kernel
theorem dX10_trace_93 : decode cX10_trace 93 = .ok (.getfield 10, 3) := by decide +kernel
theorem dX10_trace_96 : decode cX10_trace 96 = .ok (.aload_n 0, 1) := by decide +kernel
theorem dX10_trace_97 : decode cX10_trace 97 = .ok (.getfield 55, 3) := by decide +kernel
theorem dX10_trace_100 : decode cX10_trace 100 = .ok (.aload 5, 2) := by decide +kernel
theorem dX10_trace_102 : decode cX10_trace 102 = .ok (.iload 7, 2) := by decide +kernel
theorem dX10_trace_104 : decode cX10_trace 104 = .ok (.iaload, 1) := by decide +kernel
theorem dX10_trace_105 : decode cX10_trace 105 = .ok (.aload 5, 2) := by decide +kernel
theorem dX10_trace_107 : decode cX10_trace 107 = .ok (.iload 7, 2) := by decide +kernel
theorem dX10_trace_109 : decode cX10_trace 109 = .ok (.iconst 1, 1) := by decide +kernel
theorem dX10_trace_110 : decode cX10_trace 110 = .ok (.iadd, 1) := by decide +kernel
theorem dX10_trace_111 : decode cX10_trace 111 = .ok (.iaload, 1) := by decide +kernel
theorem dX10_trace_112 : decode cX10_trace 112 = .ok (.aload 5, 2) := by decide +kernel
theorem dX10_trace_114 : decode cX10_trace 114 = .ok (.iload 7, 2) := by decide +kernel
theorem dX10_trace_116 : decode cX10_trace 116 = .ok (.iconst 2, 1) := by decide +kernel
theorem dX10_trace_117 : decode cX10_trace 117 = .ok (.iadd, 1) := by decide +kernel
theorem dX10_trace_118 : decode cX10_trace 118 = .ok (.iaload, 1) := by decide +kernel
theorem dX10_trace_119 : decode cX10_trace 119 = .ok (.invokevirtual 250, 3) := by decide +kernel
theorem dX10_trace_122 : decode cX10_trace 122 = .ok (.iinc 6 1, 3) := by decide +kernel
theorem dX10_trace_125 : decode cX10_trace 125 = .ok (.iinc 7 3, 3) := by decide +kernel
theorem dX10_trace_128 : decode cX10_trace 128 = .ok (.goto (-70), 3) := by decide +kernel
theorem dX10_trace_131 : decode cX10_trace 131 = .ok (.iload 6, 2) := by decide +kernel
theorem dX10_trace_133 : decode cX10_trace 133 = .ok (.ireturn, 1) := by decide +kernel
theorem dX10_told_0 : decode cX10_told 0 = .ok (.iload_n 1, 1) := by decide +kernel
theorem dX10_told_1 : decode cX10_told 1 = .ok (.tableswitch 87 0 6 #[43, 51, 59, 64, 69, 74, 82], 43) := by decide +kernel
theorem dX10_told_44 : decode cX10_told 44 = .ok (.aload_n 0, 1) := by decide +kernel
theorem dX10_told_45 : decode cX10_told 45 = .ok (.getfield 10, 3) := by decide +kernel
theorem dX10_told_48 : decode cX10_told 48 = .ok (.getfield 70, 3) := by decide +kernel
theorem dX10_told_51 : decode cX10_told 51 = .ok (.ireturn, 1) := by decide +kernel
theorem dX10_told_52 : decode cX10_told 52 = .ok (.aload_n 0, 1) := by decide +kernel
theorem dX10_told_53 : decode cX10_told 53 = .ok (.getfield 10, 3) := by decide +kernel
theorem dX10_told_56 : decode cX10_told 56 = .ok (.getfield 82, 3) := by decide +kernel
theorem dX10_told_59 : decode cX10_told 59 = .ok (.ireturn, 1) := by decide +kernel
theorem dX10_told_60 : decode cX10_told 60 = .ok (.aload_n 0, 1) := by decide +kernel
theorem dX10_told_61 : decode cX10_told 61 = .ok (.getfield 48, 3) := by decide +kernel
theorem dX10_told_64 : decode cX10_told 64 = .ok (.ireturn, 1) := by decide +kernel
theorem dX10_told_65 : decode cX10_told 65 = .ok (.aload_n 0, 1) := by decide +kernel
theorem dX10_told_66 : decode cX10_told 66 = .ok (.getfield 52, 3) := by decide +kernel
theorem dX10_told_69 : decode cX10_told 69 = .ok (.ireturn, 1) := by decide +kernel
theorem dX10_told_70 : decode cX10_told 70 = .ok (.aload_n 0, 1) := by decide +kernel
theorem dX10_told_71 : decode cX10_told 71 = .ok (.getfield 55, 3) := by decide +kernel
theorem dX10_told_74 : decode cX10_told 74 = .ok (.ireturn, 1) := by decide +kernel
theorem dX10_told_75 : decode cX10_told 75 = .ok (.aload_n 0, 1) := by decide +kernel
theorem dX10_told_76 : decode cX10_told 76 = .ok (.getfield 19, 3) := by decide +kernel
theorem dX10_told_79 : decode cX10_told 79 = .ok (.getfield 111, 3) := by decide +kernel
theorem dX10_told_82 : decode cX10_told 82 = .ok (.ireturn, 1) := by decide +kernel
theorem dX10_told_83 : decode cX10_told 83 = .ok (.aload_n 0, 1) := by decide +kernel
theorem dX10_told_84 : decode cX10_told 84 = .ok (.getfield 58, 3) := by decide +kernel
theorem dX10_told_87 : decode cX10_told 87 = .ok (.ireturn, 1) := by decide +kernel
theorem dX10_told_88 : decode cX10_told 88 = .ok (.aload_n 0, 1) := by decide +kernel
theorem dX10_told_89 : decode cX10_told 89 = .ok (.ldc 65, 2) := by decide +kernel
theorem dX10_told_91 : decode cX10_told 91 = .ok (.invokevirtual 66, 3) := by decide +kernel
theorem dX10_told_94 : decode cX10_told 94 = .ok (.ireturn, 1) := by decide +kernel
theorem dX10_finding_0 : decode cX10_finding 0 = .ok (.aload_n 0, 1) := by decide +kernel
theorem dX10_finding_1 : decode cX10_finding 1 = .ok (.dup, 1) := by decide +kernel
theorem dX10_finding_2 : decode cX10_finding 2 = .ok (.getfield 58, 3) := by decide +kernel
theorem dX10_finding_5 : decode cX10_finding 5 = .ok (.iconst 1, 1) := by decide +kernel
theorem dX10_finding_6 : decode cX10_finding 6 = .ok (.iadd, 1) := by decide +kernel
theorem dX10_finding_7 : decode cX10_finding 7 = .ok (.putfield 58, 3) := by decide +kernel
theorem dX10_finding_10 : decode cX10_finding 10 = .ok (.iload_n 1, 1) := by decide +kernel
theorem dX10_finding_11 : decode cX10_finding 11 = .ok (.ireturn, 1) := by decide +kernel
theorem dX10_timeOrNone_0 : decode cX10_timeOrNone 0 = .ok (.iload_n 1, 1) := by decide +kernel
theorem dX10_timeOrNone_1 : decode cX10_timeOrNone 1 = .ok (.ldc 174, 2) := by decide +kernel
theorem dX10_timeOrNone_3 : decode cX10_timeOrNone 3 = .ok (.if_icmp .ge 7, 3) := by decide +kernel
theorem dX10_timeOrNone_6 : decode cX10_timeOrNone 6 = .ok (.iload_n 1, 1) := by decide +kernel
theorem dX10_timeOrNone_7 : decode cX10_timeOrNone 7 = .ok (.goto 9, 3) := by decide +kernel
theorem dX10_timeOrNone_10 : decode cX10_timeOrNone 10 = .ok (.aload_n 0, 1) := by decide +kernel
theorem dX10_timeOrNone_11 : decode cX10_timeOrNone 11 = .ok (.ldc 175, 2) := by decide +kernel
theorem dX10_timeOrNone_13 : decode cX10_timeOrNone 13 = .ok (.invokevirtual 66, 3) := by decide +kernel
theorem dX10_timeOrNone_16 : decode cX10_timeOrNone 16 = .ok (.ireturn, 1) := by decide +kernel
theorem dX10_findEdition_0 : decode cX10_findEdition 0 = .ok (.iload_n 1, 1) := by decide +kernel
theorem dX10_findEdition_1 : decode cX10_findEdition 1 = .ok (.iconst 0, 1) := by decide +kernel
theorem dX10_findEdition_2 : decode cX10_findEdition 2 = .ok (.aload_n 0, 1) := by decide +kernel
theorem dX10_findEdition_3 : decode cX10_findEdition 3 = .ok (.getfield 48, 3) := by decide +kernel
theorem dX10_findEdition_6 : decode cX10_findEdition 6 = .ok (.iconst 1, 1) := by decide +kernel
theorem dX10_findEdition_7 : decode cX10_findEdition 7 = .ok (.isub, 1) := by decide +kernel
theorem dX10_findEdition_8 : decode cX10_findEdition 8 = .ok (.invokestatic 61, 3) := by decide +kernel
theorem dX10_findEdition_11 : decode cX10_findEdition 11 = .ok (.ifCond .eq 12, 3) := by decide +kernel
theorem dX10_findEdition_14 : decode cX10_findEdition 14 = .ok (.aload_n 0, 1) := by decide +kernel
theorem dX10_findEdition_15 : decode cX10_findEdition 15 = .ok (.getfield 25, 3) := by decide +kernel
theorem dX10_findEdition_18 : decode cX10_findEdition 18 = .ok (.iload_n 1, 1) := by decide +kernel
theorem dX10_findEdition_19 : decode cX10_findEdition 19 = .ok (.aaload, 1) := by decide +kernel
theorem dX10_findEdition_20 : decode cX10_findEdition 20 = .ok (.goto 4, 3) := by decide +kernel
theorem dX10_findEdition_23 : decode cX10_findEdition 23 = .ok (.aconst_null, 1) := by decide +kernel
theorem dX10_findEdition_24 : decode cX10_findEdition 24 = .ok (.areturn, 1) := by decide +kernel
theorem dX10_findPiece_0 : decode cX10_findPiece 0 = .ok (.aload_n 0, 1) := by decide +kernel
theorem dX10_findPiece_1 : decode cX10_findPiece 1 = .ok (.iload_n 1, 1) := by decide +kernel
theorem dX10_findPiece_2 : decode cX10_findPiece 2 = .ok (.invokevirtual 179, 3) := by decide +kernel
theorem dX10_findPiece_5 : decode cX10_findPiece 5 = .ok (.astore_n 3, 1) := by decide +kernel
theorem dX10_findPiece_6 : decode cX10_findPiece 6 = .ok (.aload_n 3, 1) := by decide +kernel
theorem dX10_findPiece_7 : decode cX10_findPiece 7 = .ok (.ifnonnull 7, 3) := by decide +kernel
theorem dX10_findPiece_10 : decode cX10_findPiece 10 = .ok (.aconst_null, 1) := by decide +kernel
theorem dX10_findPiece_11 : decode cX10_findPiece 11 = .ok (.goto 8, 3) := by decide +kernel
theorem dX10_findPiece_14 : decode cX10_findPiece 14 = .ok (.aload_n 3, 1) := by decide +kernel
theorem dX10_findPiece_15 : decode cX10_findPiece 15 = .ok (.iload_n 2, 1) := by decide +kernel
theorem dX10_findPiece_16 : decode cX10_findPiece 16 = .ok (.invokevirtual 285, 3) := by decide +kernel
theorem dX10_findPiece_19 : decode cX10_findPiece 19 = .ok (.areturn, 1) := by decide +kernel
theorem dX10_findWalker_0 : decode cX10_findWalker 0 = .ok (.iload_n 1, 1) := by decide +kernel
theorem dX10_findWalker_1 : decode cX10_findWalker 1 = .ok (.iconst 0, 1) := by decide +kernel
theorem dX10_findWalker_2 : decode cX10_findWalker 2 = .ok (.aload_n 0, 1) := by decide +kernel
theorem dX10_findWalker_3 : decode cX10_findWalker 3 = .ok (.getfield 52, 3) := by decide +kernel
theorem dX10_findWalker_6 : decode cX10_findWalker 6 = .ok (.iconst 1, 1) := by decide +kernel
theorem dX10_findWalker_7 : decode cX10_findWalker 7 = .ok (.isub, 1) := by decide +kernel
theorem dX10_findWalker_8 : decode cX10_findWalker 8 = .ok (.invokestatic 61, 3) := by decide +kernel
theorem dX10_findWalker_11 : decode cX10_findWalker 11 = .ok (.ifCond .eq 12, 3) := by decide +kernel
theorem dX10_findWalker_14 : decode cX10_findWalker 14 = .ok (.aload_n 0, 1) := by decide +kernel
theorem dX10_findWalker_15 : decode cX10_findWalker 15 = .ok (.getfield 31, 3) := by decide +kernel
theorem dX10_findWalker_18 : decode cX10_findWalker 18 = .ok (.iload_n 1, 1) := by decide +kernel
theorem dX10_findWalker_19 : decode cX10_findWalker 19 = .ok (.aaload, 1) := by decide +kernel
theorem dX10_findWalker_20 : decode cX10_findWalker 20 = .ok (.goto 4, 3) := by decide +kernel
theorem dX10_findWalker_23 : decode cX10_findWalker 23 = .ok (.aconst_null, 1) := by decide +kernel
theorem dX10_findWalker_24 : decode cX10_findWalker 24 = .ok (.areturn, 1) := by decide +kernel
theorem dX10_searchAnew_0 : decode cX10_searchAnew 0 = .ok (.aload_n 0, 1) := by decide +kernel
theorem dX10_searchAnew_1 : decode cX10_searchAnew 1 = .ok (.iload_n 1, 1) := by decide +kernel
theorem dX10_searchAnew_2 : decode cX10_searchAnew 2 = .ok (.invokevirtual 179, 3) := by decide +kernel
theorem dX10_searchAnew_5 : decode cX10_searchAnew 5 = .ok (.astore 5, 2) := by decide +kernel
theorem dX10_searchAnew_7 : decode cX10_searchAnew 7 = .ok (.aload 5, 2) := by decide +kernel
theorem dX10_searchAnew_9 : decode cX10_searchAnew 9 = .ok (.ifnull 21, 3) := by decide +kernel
theorem dX10_searchAnew_12 : decode cX10_searchAnew 12 = .ok (.aload_n 0, 1) := by decide +kernel
theorem dX10_searchAnew_13 : decode cX10_searchAnew 13 = .ok (.getfield 10, 3) := by decide +kernel
theorem dX10_searchAnew_16 : decode cX10_searchAnew 16 = .ok (.iload_n 2, 1) := by decide +kernel
theorem dX10_searchAnew_17 : decode cX10_searchAnew 17 = .ok (.invokevirtual 78, 3) := by decide +kernel
theorem dX10_searchAnew_20 : decode cX10_searchAnew 20 = .ok (.ifCond .eq 10, 3) := by decide +kernel
theorem dX10_searchAnew_23 : decode cX10_searchAnew 23 = .ok (.iload_n 3, 1) := by decide +kernel
theorem dX10_searchAnew_24 : decode cX10_searchAnew 24 = .ok (.invokestatic 101, 3) := by decide +kernel
theorem dX10_searchAnew_27 : decode cX10_searchAnew 27 = .ok (.ifCond .ne 5, 3) := by decide +kernel
theorem dX10_searchAnew_30 : decode cX10_searchAnew 30 = .ok (.iconst 0, 1) := by decide +kernel
theorem dX10_searchAnew_31 : decode cX10_searchAnew 31 = .ok (.ireturn, 1) := by decide +kernel
theorem dX10_searchAnew_32 : decode cX10_searchAnew 32 = .ok (.aload_n 0, 1) := by decide +kernel
theorem dX10_searchAnew_33 : decode cX10_searchAnew 33 = .ok (.getfield 44, 3) := by decide +kernel
theorem dX10_searchAnew_36 : decode cX10_searchAnew 36 = .ok (.aload_n 0, 1) := by decide +kernel
theorem dX10_searchAnew_37 : decode cX10_searchAnew 37 = .ok (.getfield 10, 3) := by decide +kernel
theorem dX10_searchAnew_40 : decode cX10_searchAnew 40 = .ok (.aload 5, 2) := by decide +kernel
theorem dX10_searchAnew_42 : decode cX10_searchAnew 42 = .ok (.iload_n 2, 1) := by decide +kernel
theorem dX10_searchAnew_43 : decode cX10_searchAnew 43 = .ok (.iconst 0, 1) := by decide +kernel
theorem dX10_searchAnew_44 : decode cX10_searchAnew 44 = .ok (.iload_n 3, 1) := by decide +kernel
theorem dX10_searchAnew_45 : decode cX10_searchAnew 45 = .ok (.iload 4, 2) := by decide +kernel
theorem dX10_searchAnew_47 : decode cX10_searchAnew 47 = .ok (.invokevirtual 288, 3) := by decide +kernel
theorem dX10_searchAnew_50 : decode cX10_searchAnew 50 = .ok (.iconst 1, 1) := by decide +kernel
theorem dX10_searchAnew_51 : decode cX10_searchAnew 51 = .ok (.ireturn, 1) := by decide +kernel
theorem dX10_searchFrom_0 : decode cX10_searchFrom 0 = .ok (.aload_n 0, 1) := by decide +kernel
theorem dX10_searchFrom_1 : decode cX10_searchFrom 1 = .ok (.getfield 44, 3) := by decide +kernel
theorem dX10_searchFrom_4 : decode cX10_searchFrom 4 = .ok (.aload_n 0, 1) := by decide +kernel
theorem dX10_searchFrom_5 : decode cX10_searchFrom 5 = .ok (.getfield 10, 3) := by decide +kernel
theorem dX10_searchFrom_8 : decode cX10_searchFrom 8 = .ok (.aload_n 1, 1) := by decide +kernel
theorem dX10_searchFrom_9 : decode cX10_searchFrom 9 = .ok (.getfield 240, 3) := by decide +kernel
theorem dX10_searchFrom_12 : decode cX10_searchFrom 12 = .ok (.aload_n 1, 1) := by decide +kernel
theorem dX10_searchFrom_13 : decode cX10_searchFrom 13 = .ok (.getfield 201, 3) := by decide +kernel
theorem dX10_searchFrom_16 : decode cX10_searchFrom 16 = .ok (.aload_n 1, 1) := by decide +kernel
theorem dX10_searchFrom_17 : decode cX10_searchFrom 17 = .ok (.getfield 223, 3) := by decide +kernel
theorem dX10_searchFrom_20 : decode cX10_searchFrom 20 = .ok (.aload_n 0, 1) := by decide +kernel
theorem dX10_searchFrom_21 : decode cX10_searchFrom 21 = .ok (.getfield 55, 3) := by decide +kernel
theorem dX10_searchFrom_24 : decode cX10_searchFrom 24 = .ok (.aload_n 1, 1) := by decide +kernel
theorem dX10_searchFrom_25 : decode cX10_searchFrom 25 = .ok (.getfield 208, 3) := by decide +kernel
theorem dX10_searchFrom_28 : decode cX10_searchFrom 28 = .ok (.invokevirtual 288, 3) := by decide +kernel
theorem dX10_searchFrom_31 : decode cX10_searchFrom 31 = .ok (.return_, 1) := by decide +kernel
theorem dX10_bestNextCorner_0 : decode cX10_bestNextCorner 0 = .ok (.iconst (-1), 1) := by decide +kernel
theorem dX10_bestNextCorner_1 : decode cX10_bestNextCorner 1 = .ok (.istore_n 2, 1) := by decide +kernel
theorem dX10_bestNextCorner_2 : decode cX10_bestNextCorner 2 = .ok (.iconst 0, 1) := by decide +kernel
theorem dX10_bestNextCorner_3 : decode cX10_bestNextCorner 3 = .ok (.istore_n 3, 1) := by decide +kernel
theorem dX10_bestNextCorner_4 : decode cX10_bestNextCorner 4 = .ok (.iconst 0, 1) := by decide +kernel
theorem dX10_bestNextCorner_5 : decode cX10_bestNextCorner 5 = .ok (.istore 4, 2) := by decide +kernel
theorem dX10_bestNextCorner_7 : decode cX10_bestNextCorner 7 = .ok (.iconst 0, 1) := by decide +kernel
theorem dX10_bestNextCorner_8 : decode cX10_bestNextCorner 8 = .ok (.istore 5, 2) := by decide +kernel
theorem dX10_bestNextCorner_10 : decode cX10_bestNextCorner 10 = .ok (.iload 5, 2) := by decide +kernel
theorem dX10_bestNextCorner_12 : decode cX10_bestNextCorner 12 = .ok (.bipush 8, 2) := by decide +kernel
theorem dX10_bestNextCorner_14 : decode cX10_bestNextCorner 14 = .ok (.if_icmp .ge 79, 3) := by decide +kernel
theorem dX10_bestNextCorner_17 : decode cX10_bestNextCorner 17 = .ok (.aload_n 0, 1) := by decide +kernel
theorem dX10_bestNextCorner_18 : decode cX10_bestNextCorner 18 = .ok (.getfield 44, 3) := by decide +kernel
theorem dX10_bestNextCorner_21 : decode cX10_bestNextCorner 21 = .ok (.aload_n 1, 1) := by decide +kernel
theorem dX10_bestNextCorner_22 : decode cX10_bestNextCorner 22 = .ok (.getfield 201, 3) := by decide +kernel
theorem dX10_bestNextCorner_25 : decode cX10_bestNextCorner 25 = .ok (.iload 5, 2) := by decide +kernel
theorem dX10_bestNextCorner_27 : decode cX10_bestNextCorner 27 = .ok (.aload_n 1, 1) := by decide +kernel
theorem dX10_bestNextCorner_28 : decode cX10_bestNextCorner 28 = .ok (.getfield 223, 3) := by decide +kernel
theorem dX10_bestNextCorner_31 : decode cX10_bestNextCorner 31 = .ok (.invokevirtual 292, 3) := by decide +kernel
theorem dX10_bestNextCorner_34 : decode cX10_bestNextCorner 34 = .ok (.istore 6, 2) := by decide +kernel
theorem dX10_bestNextCorner_36 : decode cX10_bestNextCorner 36 = .ok (.iload 6, 2) := by decide +kernel
theorem dX10_bestNextCorner_38 : decode cX10_bestNextCorner 38 = .ok (.ldc 174, 2) := by decide +kernel
theorem dX10_bestNextCorner_40 : decode cX10_bestNextCorner 40 = .ok (.if_icmp .lt 6, 3) := by decide +kernel
theorem dX10_bestNextCorner_43 : decode cX10_bestNextCorner 43 = .ok (.goto 44, 3) := by decide +kernel
theorem dX10_bestNextCorner_46 : decode cX10_bestNextCorner 46 = .ok (.aload_n 0, 1) := by decide +kernel
theorem dX10_bestNextCorner_47 : decode cX10_bestNextCorner 47 = .ok (.iload 5, 2) := by decide +kernel
theorem dX10_bestNextCorner_49 : decode cX10_bestNextCorner 49 = .ok (.invokevirtual 296, 3) := by decide +kernel
theorem dX10_bestNextCorner_52 : decode cX10_bestNextCorner 52 = .ok (.istore 7, 2) := by decide +kernel
theorem dX10_bestNextCorner_54 : decode cX10_bestNextCorner 54 = .ok (.iload_n 2, 1) := by decide +kernel
theorem dX10_bestNextCorner_55 : decode cX10_bestNextCorner 55 = .ok (.ifCond .lt 22, 3) := by decide +kernel
theorem dX10_bestNextCorner_58 : decode cX10_bestNextCorner 58 = .ok (.iload 7, 2) := by decide +kernel
theorem dX10_bestNextCorner_60 : decode cX10_bestNextCorner 60 = .ok (.iload_n 3, 1) := by decide +kernel
theorem dX10_bestNextCorner_61 : decode cX10_bestNextCorner 61 = .ok (.if_icmp .lt 16, 3) := by decide +kernel
theorem dX10_bestNextCorner_64 : decode cX10_bestNextCorner 64 = .ok (.iload 7, 2) := by decide +kernel
theorem dX10_bestNextCorner_66 : decode cX10_bestNextCorner 66 = .ok (.iload_n 3, 1) := by decide +kernel
theorem dX10_bestNextCorner_67 : decode cX10_bestNextCorner 67 = .ok (.if_icmp .ne 20, 3) := by decide +kernel
theorem dX10_bestNextCorner_70 : decode cX10_bestNextCorner 70 = .ok (.iload 6, 2) := by decide +kernel
theorem dX10_bestNextCorner_72 : decode cX10_bestNextCorner 72 = .ok (.iload 4, 2) := by decide +kernel
theorem dX10_bestNextCorner_74 : decode cX10_bestNextCorner 74 = .ok (.if_icmp .ge 13, 3) := by decide +kernel
theorem dX10_bestNextCorner_77 : decode cX10_bestNextCorner 77 = .ok (.iload 5, 2) := by decide +kernel
theorem dX10_bestNextCorner_79 : decode cX10_bestNextCorner 79 = .ok (.istore_n 2, 1) := by decide +kernel
theorem dX10_bestNextCorner_80 : decode cX10_bestNextCorner 80 = .ok (.iload 7, 2) := by decide +kernel
theorem dX10_bestNextCorner_82 : decode cX10_bestNextCorner 82 = .ok (.istore_n 3, 1) := by decide +kernel
theorem dX10_bestNextCorner_83 : decode cX10_bestNextCorner 83 = .ok (.iload 6, 2) := by decide +kernel
theorem dX10_bestNextCorner_85 : decode cX10_bestNextCorner 85 = .ok (.istore 4, 2) := by decide +kernel
theorem dX10_bestNextCorner_87 : decode cX10_bestNextCorner 87 = .ok (.iinc 5 1, 3) := by decide +kernel
theorem dX10_bestNextCorner_90 : decode cX10_bestNextCorner 90 = .ok (.goto (-80), 3) := by decide +kernel
theorem dX10_bestNextCorner_93 : decode cX10_bestNextCorner 93 = .ok (.iload_n 2, 1) := by decide +kernel
theorem dX10_bestNextCorner_94 : decode cX10_bestNextCorner 94 = .ok (.ireturn, 1) := by decide +kernel
theorem dX10_countWalking_0 : decode cX10_countWalking 0 = .ok (.iconst 0, 1) := by decide +kernel
theorem dX10_countWalking_1 : decode cX10_countWalking 1 = .ok (.istore_n 2, 1) := by decide +kernel
theorem dX10_countWalking_2 : decode cX10_countWalking 2 = .ok (.iconst 0, 1) := by decide +kernel
theorem dX10_countWalking_3 : decode cX10_countWalking 3 = .ok (.istore_n 3, 1) := by decide +kernel
theorem dX10_countWalking_4 : decode cX10_countWalking 4 = .ok (.iload_n 3, 1) := by decide +kernel
theorem dX10_countWalking_5 : decode cX10_countWalking 5 = .ok (.aload_n 0, 1) := by decide +kernel
theorem dX10_countWalking_6 : decode cX10_countWalking 6 = .ok (.getfield 52, 3) := by decide +kernel
theorem dX10_countWalking_9 : decode cX10_countWalking 9 = .ok (.if_icmp .ge 37, 3) := by decide +kernel
theorem dX10_countWalking_12 : decode cX10_countWalking 12 = .ok (.aload_n 0, 1) := by decide +kernel
theorem dX10_countWalking_13 : decode cX10_countWalking 13 = .ok (.getfield 31, 3) := by decide +kernel
theorem dX10_countWalking_16 : decode cX10_countWalking 16 = .ok (.iload_n 3, 1) := by decide +kernel
theorem dX10_countWalking_17 : decode cX10_countWalking 17 = .ok (.aaload, 1) := by decide +kernel
theorem dX10_countWalking_18 : decode cX10_countWalking 18 = .ok (.getfield 201, 3) := by decide +kernel
theorem dX10_countWalking_21 : decode cX10_countWalking 21 = .ok (.iload_n 1, 1) := by decide +kernel
theorem dX10_countWalking_22 : decode cX10_countWalking 22 = .ok (.if_icmp .ne 18, 3) := by decide +kernel
theorem dX10_countWalking_25 : decode cX10_countWalking 25 = .ok (.aload_n 0, 1) := by decide +kernel
theorem dX10_countWalking_26 : decode cX10_countWalking 26 = .ok (.getfield 31, 3) := by decide +kernel
theorem dX10_countWalking_29 : decode cX10_countWalking 29 = .ok (.iload_n 3, 1) := by decide +kernel
theorem dX10_countWalking_30 : decode cX10_countWalking 30 = .ok (.aaload, 1) := by decide +kernel
theorem dX10_countWalking_31 : decode cX10_countWalking 31 = .ok (.invokevirtual 197, 3) := by decide +kernel
theorem dX10_countWalking_34 : decode cX10_countWalking 34 = .ok (.ifCond .ne 6, 3) := by decide +kernel
theorem dX10_countWalking_37 : decode cX10_countWalking 37 = .ok (.iinc 2 1, 3) := by decide +kernel
theorem dX10_countWalking_40 : decode cX10_countWalking 40 = .ok (.iinc 3 1, 3) := by decide +kernel
theorem dX10_countWalking_43 : decode cX10_countWalking 43 = .ok (.goto (-39), 3) := by decide +kernel
theorem dX10_countWalking_46 : decode cX10_countWalking 46 = .ok (.iload_n 2, 1) := by decide +kernel
theorem dX10_countWalking_47 : decode cX10_countWalking 47 = .ok (.ireturn, 1) := by decide +kernel
theorem dX10_isWithin_0 : decode cX10_isWithin 0 = .ok (.iload_n 0, 1) := by decide +kernel
theorem dX10_isWithin_1 : decode cX10_isWithin 1 = .ok (.iload_n 1, 1) := by decide +kernel
theorem dX10_isWithin_2 : decode cX10_isWithin 2 = .ok (.if_icmp .lt 12, 3) := by decide +kernel
theorem dX10_isWithin_5 : decode cX10_isWithin 5 = .ok (.iload_n 0, 1) := by decide +kernel
theorem dX10_isWithin_6 : decode cX10_isWithin 6 = .ok (.iload_n 2, 1) := by decide +kernel
theorem dX10_isWithin_7 : decode cX10_isWithin 7 = .ok (.if_icmp .gt 7, 3) := by decide +kernel
theorem dX10_isWithin_10 : decode cX10_isWithin 10 = .ok (.iconst 1, 1) := by decide +kernel
theorem dX10_isWithin_11 : decode cX10_isWithin 11 = .ok (.goto 4, 3) := by decide +kernel
theorem dX10_isWithin_14 : decode cX10_isWithin 14 = .ok (.iconst 0, 1) := by decide +kernel
theorem dX10_isWithin_15 : decode cX10_isWithin 15 = .ok (.ireturn, 1) := by decide +kernel
theorem dX10_isDay_0 : decode cX10_isDay 0 = .ok (.iload_n 0, 1) := by decide +kernel
theorem dX10_isDay_1 : decode cX10_isDay 1 = .ok (.iconst 0, 1) := by decide +kernel
theorem dX10_isDay_2 : decode cX10_isDay 2 = .ok (.bipush 6, 2) := by decide +kernel
theorem dX10_isDay_4 : decode cX10_isDay 4 = .ok (.invokestatic 61, 3) := by decide +kernel
theorem dX10_isDay_7 : decode cX10_isDay 7 = .ok (.ireturn, 1) := by decide +kernel
theorem dX10_isDoubt_0 : decode cX10_isDoubt 0 = .ok (.iload_n 0, 1) := by decide +kernel
theorem dX10_isDoubt_1 : decode cX10_isDoubt 1 = .ok (.iconst 0, 1) := by decide +kernel
theorem dX10_isDoubt_2 : decode cX10_isDoubt 2 = .ok (.bipush 30, 2) := by decide +kernel
theorem dX10_isDoubt_4 : decode cX10_isDoubt 4 = .ok (.invokestatic 61, 3) := by decide +kernel
theorem dX10_isDoubt_7 : decode cX10_isDoubt 7 = .ok (.ireturn, 1) := by decide +kernel
theorem dX10_isSheet_0 : decode cX10_isSheet 0 = .ok (.iload_n 0, 1) := by decide +kernel
theorem dX10_isSheet_1 : decode cX10_isSheet 1 = .ok (.iconst 0, 1) := by decide +kernel
theorem dX10_isSheet_2 : decode cX10_isSheet 2 = .ok (.iconst 3, 1) := by decide +kernel
theorem dX10_isSheet_3 : decode cX10_isSheet 3 = .ok (.invokestatic 61, 3) := by decide +kernel
theorem dX10_isSheet_6 : decode cX10_isSheet 6 = .ok (.ireturn, 1) := by decide +kernel
theorem dX10_isSheetBits_0 : decode cX10_isSheetBits 0 = .ok (.iload_n 0, 1) := by decide +kernel
theorem dX10_isSheetBits_1 : decode cX10_isSheetBits 1 = .ok (.ifCond .eq 21, 3) := by decide +kernel
theorem dX10_isSheetBits_4 : decode cX10_isSheetBits 4 = .ok (.iload_n 0, 1) := by decide +kernel
theorem dX10_isSheetBits_5 : decode cX10_isSheetBits 5 = .ok (.bipush 8, 2) := by decide +kernel
theorem dX10_isSheetBits_7 : decode cX10_isSheetBits 7 = .ok (.if_icmp .eq 15, 3) := by decide +kernel
theorem dX10_isSheetBits_10 : decode cX10_isSheetBits 10 = .ok (.iload_n 0, 1) := by decide +kernel
theorem dX10_isSheetBits_11 : decode cX10_isSheetBits 11 = .ok (.bipush 16, 2) := by decide +kernel
theorem dX10_isSheetBits_13 : decode cX10_isSheetBits 13 = .ok (.if_icmp .eq 9, 3) := by decide +kernel
theorem dX10_isSheetBits_16 : decode cX10_isSheetBits 16 = .ok (.iload_n 0, 1) := by decide +kernel
theorem dX10_isSheetBits_17 : decode cX10_isSheetBits 17 = .ok (.bipush 32, 2) := by decide +kernel
theorem dX10_isSheetBits_19 : decode cX10_isSheetBits 19 = .ok (.if_icmp .ne 7, 3) := by decide +kernel
theorem dX10_isSheetBits_22 : decode cX10_isSheetBits 22 = .ok (.iconst 1, 1) := by decide +kernel
theorem dX10_isSheetBits_23 : decode cX10_isSheetBits 23 = .ok (.goto 4, 3) := by decide +kernel
theorem dX10_isSheetBits_26 : decode cX10_isSheetBits 26 = .ok (.iconst 0, 1) := by decide +kernel
theorem dX10_isSheetBits_27 : decode cX10_isSheetBits 27 = .ok (.ireturn, 1) := by decide +kernel
theorem dX10_has_0 : decode cX10_has 0 = .ok (.iload_n 0, 1) := by decide +kernel
theorem dX10_has_1 : decode cX10_has 1 = .ok (.iload_n 1, 1) := by decide +kernel
theorem dX10_has_2 : decode cX10_has 2 = .ok (.ishr, 1) := by decide +kernel
theorem dX10_has_3 : decode cX10_has 3 = .ok (.iconst 1, 1) := by decide +kernel
theorem dX10_has_4 : decode cX10_has 4 = .ok (.iand, 1) := by decide +kernel
theorem dX10_has_5 : decode cX10_has 5 = .ok (.ifCond .eq 7, 3) := by decide +kernel
theorem dX10_has_8 : decode cX10_has 8 = .ok (.iconst 1, 1) := by decide +kernel
theorem dX10_has_9 : decode cX10_has 9 = .ok (.goto 4, 3) := by decide +kernel
theorem dX10_has_12 : decode cX10_has 12 = .ok (.iconst 0, 1) := by decide +kernel
theorem dX10_has_13 : decode cX10_has 13 = .ok (.ireturn, 1) := by decide +kernel
end
section
theorem dX11_init_0 : decode cX11_init 0 = .ok (.aload_n 0, 1) := by decide +kernel
theorem dX11_init_1 : decode cX11_init 1 = .ok (.invokespecial 1, 3) := by decide +kernel
theorem dX11_init_4 : decode cX11_init 4 = .ok (.aload_n 0, 1) := by decide +kernel
theorem dX11_init_5 : decode cX11_init 5 = .ok (.bipush 8, 2) := by decide +kernel
theorem dX11_init_7 : decode cX11_init 7 = .ok (.newarray .int, 2) := by decide +kernel
theorem dX11_init_9 : decode cX11_init 9 = .ok (.putfield 9, 3) := by decide +kernel
theorem dX11_init_12 : decode cX11_init 12 = .ok (.aload_n 0, 1) := by decide +kernel
theorem dX11_init_13 : decode cX11_init 13 = .ok (.bipush 8, 2) := by decide +kernel
theorem dX11_init_15 : decode cX11_init 15 = .ok (.newarray .int, 2) := by decide +kernel
theorem dX11_init_17 : decode cX11_init 17 = .ok (.putfield 13, 3) := by decide +kernel
theorem dX11_init_20 : decode cX11_init 20 = .ok (.aload_n 0, 1) := by decide +kernel
theorem dX11_init_21 : decode cX11_init 21 = .ok (.bipush 14, 2) := by decide +kernel
theorem dX11_init_23 : decode cX11_init 23 = .ok (.newarray .int, 2) := by decide +kernel
theorem dX11_init_25 : decode cX11_init 25 = .ok (.putfield 16, 3) := by decide +kernel
theorem dX11_init_28 : decode cX11_init 28 = .ok (.aload_n 0, 1) := by decide +kernel
theorem dX11_init_29 : decode cX11_init 29 = .ok (.bipush 14, 2) := by decide +kernel
theorem dX11_init_31 : decode cX11_init 31 = .ok (.newarray .int, 2) := by decide +kernel
theorem dX11_init_33 : decode cX11_init 33 = .ok (.putfield 19, 3) := by decide +kernel
theorem dX11_init_36 : decode cX11_init 36 = .ok (.aload_n 0, 1) := by decide +kernel
theorem dX11_init_37 : decode cX11_init 37 = .ok (.bipush 14, 2) := by decide +kernel
theorem dX11_init_39 : decode cX11_init 39 = .ok (.newarray .int, 2) := by decide +kernel
theorem dX11_init_41 : decode cX11_init 41 = .ok (.putfield 22, 3) := by decide +kernel
theorem dX11_init_44 : decode cX11_init 44 = .ok (.aload_n 0, 1) := by decide +kernel
theorem dX11_init_45 : decode cX11_init 45 = .ok (.bipush 14, 2) := by decide +kernel
theorem dX11_init_47 : decode cX11_init 47 = .ok (.newarray .boolean, 2) := by decide +kernel
theorem dX11_init_49 : decode cX11_init 49 = .ok (.putfield 25, 3) := by decide +kernel
theorem dX11_init_52 : decode cX11_init 52 = .ok (.aload_n 0, 1) := by decide +kernel
theorem dX11_init_53 : decode cX11_init 53 = .ok (.bipush 14, 2) := by decide +kernel
theorem dX11_init_55 : decode cX11_init 55 = .ok (.newarray .int, 2) := by decide +kernel
theorem dX11_init_57 : decode cX11_init 57 = .ok (.putfield 29, 3) := by decide +kernel
theorem dX11_init_60 : decode cX11_init 60 = .ok (.aload_n 0, 1) := by decide +kernel
theorem dX11_init_61 : decode cX11_init 61 = .ok (.iconst 4, 1) := by decide +kernel
theorem dX11_init_62 : decode cX11_init 62 = .ok (.newarray .int, 2) := by decide +kernel
theorem dX11_init_64 : decode cX11_init 64 = .ok (.putfield 32, 3) := by decide +kernel
theorem dX11_init_67 : decode cX11_init 67 = .ok (.aload_n 0, 1) := by decide +kernel
theorem dX11_init_68 : decode cX11_init 68 = .ok (.bipush 48, 2) := by decide +kernel
theorem dX11_init_70 : decode cX11_init 70 = .ok (.newarray .int, 2) := by decide +kernel
theorem dX11_init_72 : decode cX11_init 72 = .ok (.putfield 35, 3) := by decide +kernel
theorem dX11_init_75 : decode cX11_init 75 = .ok (.aload_n 0, 1) := by decide +kernel
theorem dX11_init_76 : decode cX11_init 76 = .ok (.bipush 48, 2) := by decide +kernel
theorem dX11_init_78 : decode cX11_init 78 = .ok (.newarray .int, 2) := by decide +kernel
theorem dX11_init_80 : decode cX11_init 80 = .ok (.putfield 38, 3) := by decide +kernel
theorem dX11_init_83 : decode cX11_init 83 = .ok (.aload_n 0, 1) := by decide +kernel
theorem dX11_init_84 : decode cX11_init 84 = .ok (.bipush 48, 2) := by decide +kernel
theorem dX11_init_86 : decode cX11_init 86 = .ok (.newarray .int, 2) := by decide +kernel
theorem dX11_init_88 : decode cX11_init 88 = .ok (.putfield 41, 3) := by decide +kernel
theorem dX11_init_91 : decode cX11_init 91 = .ok (.aload_n 0, 1) := by decide +kernel
theorem dX11_init_92 : decode cX11_init 92 = .ok (.bipush 48, 2) := by decide +kernel
theorem dX11_init_94 : decode cX11_init 94 = .ok (.newarray .int, 2) := by decide +kernel
theorem dX11_init_96 : decode cX11_init 96 = .ok (.putfield 44, 3) := by decide +kernel
theorem dX11_init_99 : decode cX11_init 99 = .ok (.aload_n 0, 1) := by decide +kernel
theorem dX11_init_100 : decode cX11_init 100 = .ok (.bipush 48, 2) := by decide +kernel
theorem dX11_init_102 : decode cX11_init 102 = .ok (.newarray .int, 2) := by decide +kernel
theorem dX11_init_104 : decode cX11_init 104 = .ok (.putfield 47, 3) := by decide +kernel
theorem dX11_init_107 : decode cX11_init 107 = .ok (.aload_n 0, 1) := by decide +kernel
theorem dX11_init_108 : decode cX11_init 108 = .ok (.sipush 200, 3) := by decide +kernel
theorem dX11_init_111 : decode cX11_init 111 = .ok (.newarray .int, 2) := by decide +kernel
theorem dX11_init_113 : decode cX11_init 113 = .ok (.putfield 50, 3) := by decide +kernel
theorem dX11_init_116 : decode cX11_init 116 = .ok (.aload_n 0, 1) := by decide +kernel
theorem dX11_init_117 : decode cX11_init 117 = .ok (.bipush 6, 2) := by decide +kernel
theorem dX11_init_119 : decode cX11_init 119 = .ok (.newarray .int, 2) := by decide +kernel
theorem dX11_init_121 : decode cX11_init 121 = .ok (.putfield 53, 3) := by decide +kernel
theorem dX11_init_124 : decode cX11_init 124 = .ok (.aload_n 0, 1) := by decide +kernel
theorem dX11_init_125 : decode cX11_init 125 = .ok (.bipush 6, 2) := by decide +kernel
theorem dX11_init_127 : decode cX11_init 127 = .ok (.newarray .int, 2) := by decide +kernel
theorem dX11_init_129 : decode cX11_init 129 = .ok (.putfield 56, 3) := by decide +kernel
theorem dX11_init_132 : decode cX11_init 132 = .ok (.aload_n 0, 1) := by decide +kernel
theorem dX11_init_133 : decode cX11_init 133 = .ok (.bipush 6, 2) := by decide +kernel
theorem dX11_init_135 : decode cX11_init 135 = .ok (.newarray .int, 2) := by decide +kernel
theorem dX11_init_137 : decode cX11_init 137 = .ok (.putfield 59, 3) := by decide +kernel
theorem dX11_init_140 : decode cX11_init 140 = .ok (.aload_n 0, 1) := by decide +kernel
theorem dX11_init_141 : decode cX11_init 141 = .ok (.bipush 6, 2) := by decide +kernel
theorem dX11_init_143 : decode cX11_init 143 = .ok (.newarray .int, 2) := by decide +kernel
theorem dX11_init_145 : decode cX11_init 145 = .ok (.putfield 62, 3) := by decide +kernel
theorem dX11_init_148 : decode cX11_init 148 = .ok (.aload_n 0, 1) := by decide +kernel
theorem dX11_init_149 : decode cX11_init 149 = .ok (.bipush 6, 2) := by decide +kernel
theorem dX11_init_151 : decode cX11_init 151 = .ok (.newarray .boolean, 2) := by decide +kernel
theorem dX11_init_153 : decode cX11_init 153 = .ok (.putfield 65, 3) := by decide +kernel
theorem dX11_init_156 : decode cX11_init 156 = .ok (.aload_n 0, 1) := by decide +kernel
theorem dX11_init_157 : decode cX11_init 157 = .ok (.bipush 6, 2) := by decide +kernel
theorem dX11_init_159 : decode cX11_init 159 = .ok (.newarray .int, 2) := by decide +kernel
theorem dX11_init_161 : decode cX11_init 161 = .ok (.putfield 68, 3) := by decide +kernel
theorem dX11_init_164 : decode cX11_init 164 = .ok (.aload_n 0, 1) := by decide +kernel
theorem dX11_init_165 : decode cX11_init 165 = .ok (.bipush 6, 2) := by decide +kernel
theorem dX11_init_167 : decode cX11_init 167 = .ok (.newarray .int, 2) := by decide +kernel
theorem dX11_init_169 : decode cX11_init 169 = .ok (.putfield 71, 3) := by decide +kernel
theorem dX11_init_172 : decode cX11_init 172 = .ok (.aload_n 0, 1) := by decide +kernel
theorem dX11_init_173 : decode cX11_init 173 = .ok (.bipush 6, 2) := by decide +kernel
theorem dX11_init_175 : decode cX11_init 175 = .ok (.newarray .int, 2) := by decide +kernel
theorem dX11_init_177 : decode cX11_init 177 = .ok (.putfield 74, 3) := by decide +kernel
theorem dX11_init_180 : decode cX11_init 180 = .ok (.aload_n 0, 1) := by decide +kernel
theorem dX11_init_181 : decode cX11_init 181 = .ok (.iconst 4, 1) := by decide +kernel
theorem dX11_init_182 : decode cX11_init 182 = .ok (.newarray .int, 2) := by decide +kernel
theorem dX11_init_184 : decode cX11_init 184 = .ok (.putfield 77, 3) := by decide +kernel
theorem dX11_init_187 : decode cX11_init 187 = .ok (.aload_n 0, 1) := by decide +kernel
theorem dX11_init_188 : decode cX11_init 188 = .ok (.iconst 4, 1) := by decide +kernel
theorem dX11_init_189 : decode cX11_init 189 = .ok (.newarray .int, 2) := by decide +kernel
theorem dX11_init_191 : decode cX11_init 191 = .ok (.putfield 80, 3) := by decide +kernel
theorem dX11_init_194 : decode cX11_init 194 = .ok (.aload_n 0, 1) := by decide +kernel
theorem dX11_init_195 : decode cX11_init 195 = .ok (.bipush 48, 2) := by decide +kernel
theorem dX11_init_197 : decode cX11_init 197 = .ok (.newarray .int, 2) := by decide +kernel
theorem dX11_init_199 : decode cX11_init 199 = .ok (.putfield 83, 3) := by decide +kernel
theorem dX11_init_202 : decode cX11_init 202 = .ok (.aload_n 0, 1) := by decide +kernel
theorem dX11_init_203 : decode cX11_init 203 = .ok (.bipush 12, 2) := by decide +kernel
theorem dX11_init_205 : decode cX11_init 205 = .ok (.newarray .int, 2) := by decide +kernel
theorem dX11_init_207 : decode cX11_init 207 = .ok (.putfield 86, 3) := by decide +kernel
theorem dX11_init_210 : decode cX11_init 210 = .ok (.aload_n 0, 1) := by decide +kernel
theorem dX11_init_211 : decode cX11_init 211 = .ok (.bipush 12, 2) := by decide +kernel
theorem dX11_init_213 : decode cX11_init 213 = .ok (.newarray .int, 2) := by decide +kernel
theorem dX11_init_215 : decode cX11_init 215 = .ok (.putfield 89, 3) := by decide +kernel
theorem dX11_init_218 : decode cX11_init 218 = .ok (.aload_n 0, 1) := by decide +kernel
theorem dX11_init_219 : decode cX11_init 219 = .ok (.bipush 12, 2) := by decide +kernel
theorem dX11_init_221 : decode cX11_init 221 = .ok (.newarray .int, 2) := by decide +kernel
theorem dX11_init_223 : decode cX11_init 223 = .ok (.putfield 92, 3) := by decide +kernel
theorem dX11_init_226 : decode cX11_init 226 = .ok (.aload_n 0, 1) := by decide +kernel
theorem dX11_init_227 : decode cX11_init 227 = .ok (.bipush 12, 2) := by decide +kernel
theorem dX11_init_229 : decode cX11_init 229 = .ok (.newarray .int, 2) := by decide +kernel
theorem dX11_init_231 : decode cX11_init 231 = .ok (.putfield 95, 3) := by decide +kernel
theorem dX11_init_234 : decode cX11_init 234 = .ok (.aload_n 0, 1) := by decide +kernel
theorem dX11_init_235 : decode cX11_init 235 = .ok (.bipush 12, 2) := by decide +kernel
theorem dX11_init_237 : decode cX11_init 237 = .ok (.newarray .int, 2) := by decide +kernel
theorem dX11_init_239 : decode cX11_init 239 = .ok (.putfield 98, 3) := by decide +kernel
theorem dX11_init_242 : decode cX11_init 242 = .ok (.aload_n 0, 1) := by decide +kernel
theorem dX11_init_243 : decode cX11_init 243 = .ok (.ldc 101, 2) := by decide +kernel
theorem dX11_init_245 : decode cX11_init 245 = .ok (.newarray .int, 2) := by decide +kernel
theorem dX11_init_247 : decode cX11_init 247 = .ok (.putfield 102, 3) := by decide +kernel
theorem dX11_init_250 : decode cX11_init 250 = .ok (.aload_n 0, 1) := by decide +kernel
theorem dX11_init_251 : decode cX11_init 251 = .ok (.ldc 101, 2) := by decide +kernel
theorem dX11_init_253 : decode cX11_init 253 = .ok (.newarray .boolean, 2) := by decide +kernel
theorem dX11_init_255 : decode cX11_init 255 = .ok (.putfield 105, 3) := by decide +kernel
theorem dX11_init_258 : decode cX11_init 258 = .ok (.aload_n 0, 1) := by decide +kernel
theorem dX11_init_259 : decode cX11_init 259 = .ok (.ldc 101, 2) := by decide +kernel
theorem dX11_init_261 : decode cX11_init 261 = .ok (.newarray .int, 2) := by decide +kernel
theorem dX11_init_263 : decode cX11_init 263 = .ok (.putfield 108, 3) := by decide +kernel
theorem dX11_init_266 : decode cX11_init 266 = .ok (.aload_n 0, 1) := by decide +kernel
theorem dX11_init_267 : decode cX11_init 267 = .ok (.bipush 12, 2) := by decide +kernel
theorem dX11_init_269 : decode cX11_init 269 = .ok (.newarray .int, 2) := by decide +kernel
theorem dX11_init_271 : decode cX11_init 271 = .ok (.putfield 111, 3) := by decide +kernel
theorem dX11_init_274 : decode cX11_init 274 = .ok (.return_, 1) := by decide +kernel
theorem dX11_finding_0 : decode cX11_finding 0 = .ok (.aload_n 0, 1) := by decide +kernel
theorem dX11_finding_1 : decode cX11_finding 1 = .ok (.dup, 1) := by decide +kernel
theorem dX11_finding_2 : decode cX11_finding 2 = .ok (.getfield 114, 3) := by decide +kernel
theorem dX11_finding_5 : decode cX11_finding 5 = .ok (.iconst 1, 1) := by decide +kernel
theorem dX11_finding_6 : decode cX11_finding 6 = .ok (.iadd, 1) := by decide +kernel
theorem dX11_finding_7 : decode cX11_finding 7 = .ok (.putfield 114, 3) := by decide +kernel
theorem dX11_finding_10 : decode cX11_finding 10 = .ok (.iload_n 1, 1) := by decide +kernel
theorem dX11_finding_11 : decode cX11_finding 11 = .ok (.ireturn, 1) := by decide +kernel
theorem dX11_within_0 : decode cX11_within 0 = .ok (.iload_n 0, 1) := by decide +kernel
theorem dX11_within_1 : decode cX11_within 1 = .ok (.iload_n 1, 1) := by decide +kernel
theorem dX11_within_2 : decode cX11_within 2 = .ok (.if_icmp .lt 12, 3) := by decide +kernel
theorem dX11_within_5 : decode cX11_within 5 = .ok (.iload_n 0, 1) := by decide +kernel
theorem dX11_within_6 : decode cX11_within 6 = .ok (.iload_n 2, 1) := by decide +kernel
theorem dX11_within_7 : decode cX11_within 7 = .ok (.if_icmp .gt 7, 3) := by decide +kernel
theorem dX11_within_10 : decode cX11_within 10 = .ok (.iconst 1, 1) := by decide +kernel
theorem dX11_within_11 : decode cX11_within 11 = .ok (.goto 4, 3) := by decide +kernel
theorem dX11_within_14 : decode cX11_within 14 = .ok (.iconst 0, 1) := by decide +kernel
theorem dX11_within_15 : decode cX11_within 15 = .ok (.ireturn, 1) := by decide +kernel
theorem dX11_isCorner_0 : decode cX11_isCorner 0 = .ok (.iload_n 1, 1) := by decide +kernel
theorem dX11_isCorner_1 : decode cX11_isCorner 1 = .ok (.iconst 0, 1) := by decide +kernel
theorem dX11_isCorner_2 : decode cX11_isCorner 2 = .ok (.aload_n 0, 1) := by decide +kernel
theorem dX11_isCorner_3 : decode cX11_isCorner 3 = .ok (.getfield 118, 3) := by decide +kernel
theorem dX11_isCorner_6 : decode cX11_isCorner 6 = .ok (.iconst 1, 1) := by decide +kernel
theorem dX11_isCorner_7 : decode cX11_isCorner 7 = .ok (.isub, 1) := by decide +kernel
theorem dX11_isCorner_8 : decode cX11_isCorner 8 = .ok (.invokestatic 121, 3) := by decide +kernel
theorem dX11_isCorner_11 : decode cX11_isCorner 11 = .ok (.ireturn, 1) := by decide +kernel
theorem dX11_isWay_0 : decode cX11_isWay 0 = .ok (.iload_n 1, 1) := by decide +kernel
theorem dX11_isWay_1 : decode cX11_isWay 1 = .ok (.iconst 0, 1) := by decide +kernel
theorem dX11_isWay_2 : decode cX11_isWay 2 = .ok (.aload_n 0, 1) := by decide +kernel
theorem dX11_isWay_3 : decode cX11_isWay 3 = .ok (.getfield 125, 3) := by decide +kernel
theorem dX11_isWay_6 : decode cX11_isWay 6 = .ok (.iconst 1, 1) := by decide +kernel
theorem dX11_isWay_7 : decode cX11_isWay 7 = .ok (.isub, 1) := by decide +kernel
theorem dX11_isWay_8 : decode cX11_isWay 8 = .ok (.invokestatic 121, 3) := by decide +kernel
theorem dX11_isWay_11 : decode cX11_isWay 11 = .ok (.ireturn, 1) := by decide +kernel
theorem dX11_isWalker_0 : decode cX11_isWalker 0 = .ok (.iload_n 1, 1) := by decide +kernel
theorem dX11_isWalker_1 : decode cX11_isWalker 1 = .ok (.iconst 0, 1) := by decide +kernel
theorem dX11_isWalker_2 : decode cX11_isWalker 2 = .ok (.aload_n 0, 1) := by decide +kernel
theorem dX11_isWalker_3 : decode cX11_isWalker 3 = .ok (.getfield 128, 3) := by decide +kernel
theorem dX11_isWalker_6 : decode cX11_isWalker 6 = .ok (.iconst 1, 1) := by decide +kernel
theorem dX11_isWalker_7 : decode cX11_isWalker 7 = .ok (.isub, 1) := by decide +kernel
theorem dX11_isWalker_8 : decode cX11_isWalker 8 = .ok (.invokestatic 121, 3) := by decide +kernel
theorem dX11_isWalker_11 : decode cX11_isWalker 11 = .ok (.ireturn, 1) := by decide +kernel
theorem dX11_isDay_0 : decode cX11_isDay 0 = .ok (.iload_n 0, 1) := by decide +kernel
theorem dX11_isDay_1 : decode cX11_isDay 1 = .ok (.iconst 0, 1) := by decide +kernel
theorem dX11_isDay_2 : decode cX11_isDay 2 = .ok (.bipush 6, 2) := by decide +kernel
theorem dX11_isDay_4 : decode cX11_isDay 4 = .ok (.invokestatic 121, 3) := by decide +kernel
theorem dX11_isDay_7 : decode cX11_isDay 7 = .ok (.ireturn, 1) := by decide +kernel
theorem dX11_corner_0 : decode cX11_corner 0 = .ok (.iload_n 1, 1) := by decide +kernel
theorem dX11_corner_1 : decode cX11_corner 1 = .ok (.iconst 0, 1) := by decide +kernel
theorem dX11_corner_2 : decode cX11_corner 2 = .ok (.bipush 99, 2) := by decide +kernel
theorem dX11_corner_4 : decode cX11_corner 4 = .ok (.invokestatic 121, 3) := by decide +kernel
theorem dX11_corner_7 : decode cX11_corner 7 = .ok (.ifCond .eq 13, 3) := by decide +kernel
theorem dX11_corner_10 : decode cX11_corner 10 = .ok (.iload_n 2, 1) := by decide +kernel
theorem dX11_corner_11 : decode cX11_corner 11 = .ok (.iconst 0, 1) := by decide +kernel
theorem dX11_corner_12 : decode cX11_corner 12 = .ok (.bipush 99, 2) := by decide +kernel
theorem dX11_corner_14 : decode cX11_corner 14 = .ok (.invokestatic 121, 3) := by decide +kernel
theorem dX11_corner_17 : decode cX11_corner 17 = .ok (.ifCond .ne 10, 3) := by decide +kernel
theorem dX11_corner_20 : decode cX11_corner 20 = .ok (.aload_n 0, 1) := by decide +kernel
theorem dX11_corner_21 : decode cX11_corner 21 = .ok (.ldc 131, 2) := by decide +kernel
theorem dX11_corner_23 : decode cX11_corner 23 = .ok (.invokevirtual 132, 3) := by decide +kernel
theorem dX11_corner_26 : decode cX11_corner 26 = .ok (.ireturn, 1) := by decide +kernel
theorem dX11_corner_27 : decode cX11_corner 27 = .ok (.aload_n 0, 1) := by decide +kernel
theorem dX11_corner_28 : decode cX11_corner 28 = .ok (.getfield 118, 3) := by decide +kernel
theorem dX11_corner_31 : decode cX11_corner 31 = .ok (.bipush 8, 2) := by decide +kernel
theorem dX11_corner_33 : decode cX11_corner 33 = .ok (.if_icmp .ne 10, 3) := by decide +kernel
theorem dX11_corner_36 : decode cX11_corner 36 = .ok (.aload_n 0, 1) := by decide +kernel
theorem dX11_corner_37 : decode cX11_corner 37 = .ok (.ldc 136, 2) := by decide +kernel
theorem dX11_corner_39 : decode cX11_corner 39 = .ok (.invokevirtual 132, 3) := by decide +kernel
theorem dX11_corner_42 : decode cX11_corner 42 = .ok (.ireturn, 1) := by decide +kernel
theorem dX11_corner_43 : decode cX11_corner 43 = .ok (.aload_n 0, 1) := by decide +kernel
theorem dX11_corner_44 : decode cX11_corner 44 = .ok (.getfield 9, 3) := by decide +kernel
theorem dX11_corner_47 : decode cX11_corner 47 = .ok (.aload_n 0, 1) := by decide +kernel
theorem dX11_corner_48 : decode cX11_corner 48 = .ok (.getfield 118, 3) := by decide +kernel
theorem dX11_corner_51 : decode cX11_corner 51 = .ok (.iload_n 1, 1) := by decide +kernel
theorem dX11_corner_52 : decode cX11_corner 52 = .ok (.iastore, 1) := by decide +kernel
theorem dX11_corner_53 : decode cX11_corner 53 = .ok (.aload_n 0, 1) := by decide +kernel
theorem dX11_corner_54 : decode cX11_corner 54 = .ok (.getfield 13, 3) := by decide +kernel
theorem dX11_corner_57 : decode cX11_corner 57 = .ok (.aload_n 0, 1) := by decide +kernel
theorem dX11_corner_58 : decode cX11_corner 58 = .ok (.getfield 118, 3) := by decide +kernel
theorem dX11_corner_61 : decode cX11_corner 61 = .ok (.iload_n 2, 1) := by decide +kernel
theorem dX11_corner_62 : decode cX11_corner 62 = .ok (.iastore, 1) := by decide +kernel
theorem dX11_corner_63 : decode cX11_corner 63 = .ok (.aload_n 0, 1) := by decide +kernel
theorem dX11_corner_64 : decode cX11_corner 64 = .ok (.dup, 1) := by decide +kernel
theorem dX11_corner_65 : decode cX11_corner 65 = .ok (.getfield 118, 3) := by decide +kernel
theorem dX11_corner_68 : decode cX11_corner 68 = .ok (.iconst 1, 1) := by decide +kernel
theorem dX11_corner_69 : decode cX11_corner 69 = .ok (.iadd, 1) := by decide +kernel
theorem dX11_corner_70 : decode cX11_corner 70 = .ok (.putfield 118, 3) := by decide +kernel
theorem dX11_corner_73 : decode cX11_corner 73 = .ok (.aload_n 0, 1) := by decide +kernel
theorem dX11_corner_74 : decode cX11_corner 74 = .ok (.getfield 118, 3) := by decide +kernel
theorem dX11_corner_77 : decode cX11_corner 77 = .ok (.iconst 1, 1) := by decide +kernel
theorem dX11_corner_78 : decode cX11_corner 78 = .ok (.isub, 1) := by decide +kernel
theorem dX11_corner_79 : decode cX11_corner 79 = .ok (.ireturn, 1) := by decide +kernel
theorem dX11_way_0 : decode cX11_way 0 = .ok (.aload_n 0, 1) := by decide +kernel
theorem dX11_way_1 : decode cX11_way 1 = .ok (.iload_n 1, 1) := by decide +kernel
theorem dX11_way_2 : decode cX11_way 2 = .ok (.invokevirtual 137, 3) := by decide +kernel
theorem dX11_way_5 : decode cX11_way 5 = .ok (.ifCond .eq 26, 3) := by decide +kernel
theorem dX11_way_8 : decode cX11_way 8 = .ok (.aload_n 0, 1) := by decide +kernel
theorem dX11_way_9 : decode cX11_way 9 = .ok (.iload_n 2, 1) := by decide +kernel
theorem dX11_way_10 : decode cX11_way 10 = .ok (.invokevirtual 137, 3) := by decide +kernel
theorem dX11_way_13 : decode cX11_way 13 = .ok (.ifCond .eq 18, 3) := by decide +kernel
theorem dX11_way_16 : decode cX11_way 16 = .ok (.iload_n 1, 1) := by decide +kernel
theorem dX11_way_17 : decode cX11_way 17 = .ok (.iload_n 2, 1) := by decide +kernel
theorem dX11_way_18 : decode cX11_way 18 = .ok (.if_icmp .eq 13, 3) := by decide +kernel
theorem dX11_way_21 : decode cX11_way 21 = .ok (.iload_n 3, 1) := by decide +kernel
theorem dX11_way_22 : decode cX11_way 22 = .ok (.iconst 1, 1) := by decide +kernel
theorem dX11_way_23 : decode cX11_way 23 = .ok (.bipush 20, 2) := by decide +kernel
theorem dX11_way_25 : decode cX11_way 25 = .ok (.invokestatic 121, 3) := by decide +kernel
theorem dX11_way_28 : decode cX11_way 28 = .ok (.ifCond .ne 10, 3) := by decide +kernel
theorem dX11_way_31 : decode cX11_way 31 = .ok (.aload_n 0, 1) := by decide +kernel
theorem dX11_way_32 : decode cX11_way 32 = .ok (.ldc 131, 2) := by decide +kernel
theorem dX11_way_34 : decode cX11_way 34 = .ok (.invokevirtual 132, 3) := by decide +kernel
theorem dX11_way_37 : decode cX11_way 37 = .ok (.ireturn, 1) := by decide +kernel
theorem dX11_way_38 : decode cX11_way 38 = .ok (.aload_n 0, 1) := by decide +kernel
theorem dX11_way_39 : decode cX11_way 39 = .ok (.getfield 125, 3) := by decide +kernel
theorem dX11_way_42 : decode cX11_way 42 = .ok (.bipush 14, 2) := by decide +kernel
theorem dX11_way_44 : decode cX11_way 44 = .ok (.if_icmp .ne 10, 3) := by decide +kernel
theorem dX11_way_47 : decode cX11_way 47 = .ok (.aload_n 0, 1) := by decide +kernel
theorem dX11_way_48 : decode cX11_way 48 = .ok (.ldc 136, 2) := by decide +kernel
theorem dX11_way_50 : decode cX11_way 50 = .ok (.invokevirtual 132, 3) := by decide +kernel
theorem dX11_way_53 : decode cX11_way 53 = .ok (.ireturn, 1) := by decide +kernel
theorem dX11_way_54 : decode cX11_way 54 = .ok (.aload_n 0, 1) := by decide +kernel
theorem dX11_way_55 : decode cX11_way 55 = .ok (.getfield 16, 3) := by decide +kernel
theorem dX11_way_58 : decode cX11_way 58 = .ok (.aload_n 0, 1) := by decide +kernel
theorem dX11_way_59 : decode cX11_way 59 = .ok (.getfield 125, 3) := by decide +kernel
theorem dX11_way_62 : decode cX11_way 62 = .ok (.iload_n 1, 1) := by decide +kernel
theorem dX11_way_63 : decode cX11_way 63 = .ok (.iastore, 1) := by decide +kernel
theorem dX11_way_64 : decode cX11_way 64 = .ok (.aload_n 0, 1) := by decide +kernel
theorem dX11_way_65 : decode cX11_way 65 = .ok (.getfield 19, 3) := by decide +kernel
theorem dX11_way_68 : decode cX11_way 68 = .ok (.aload_n 0, 1) := by decide +kernel
theorem dX11_way_69 : decode cX11_way 69 = .ok (.getfield 125, 3) := by decide +kernel
theorem dX11_way_72 : decode cX11_way 72 = .ok (.iload_n 2, 1) := by decide +kernel
theorem dX11_way_73 : decode cX11_way 73 = .ok (.iastore, 1) := by decide +kernel
theorem dX11_way_74 : decode cX11_way 74 = .ok (.aload_n 0, 1) := by decide +kernel
theorem dX11_way_75 : decode cX11_way 75 = .ok (.getfield 22, 3) := by decide +kernel
theorem dX11_way_78 : decode cX11_way 78 = .ok (.aload_n 0, 1) := by decide +kernel
theorem dX11_way_79 : decode cX11_way 79 = .ok (.getfield 125, 3) := by decide +kernel
theorem dX11_way_82 : decode cX11_way 82 = .ok (.iload_n 3, 1) := by decide +kernel
theorem dX11_way_83 : decode cX11_way 83 = .ok (.iastore, 1) := by decide +kernel
theorem dX11_way_84 : decode cX11_way 84 = .ok (.aload_n 0, 1) := by decide +kernel
theorem dX11_way_85 : decode cX11_way 85 = .ok (.getfield 25, 3) := by decide +kernel
theorem dX11_way_88 : decode cX11_way 88 = .ok (.aload_n 0, 1) := by decide +kernel
theorem dX11_way_89 : decode cX11_way 89 = .ok (.getfield 125, 3) := by decide +kernel
theorem dX11_way_92 : decode cX11_way 92 = .ok (.iload 4, 2) := by decide +kernel
theorem dX11_way_94 : decode cX11_way 94 = .ok (.bastore, 1) := by decide +kernel
theorem dX11_way_95 : decode cX11_way 95 = .ok (.aload_n 0, 1) := by decide +kernel
theorem dX11_way_96 : decode cX11_way 96 = .ok (.dup, 1) := by decide +kernel
theorem dX11_way_97 : decode cX11_way 97 = .ok (.getfield 125, 3) := by decide +kernel
theorem dX11_way_100 : decode cX11_way 100 = .ok (.iconst 1, 1) := by decide +kernel
theorem dX11_way_101 : decode cX11_way 101 = .ok (.iadd, 1) := by decide +kernel
theorem dX11_way_102 : decode cX11_way 102 = .ok (.putfield 125, 3) := by decide +kernel
theorem dX11_way_105 : decode cX11_way 105 = .ok (.aload_n 0, 1) := by decide +kernel
theorem dX11_way_106 : decode cX11_way 106 = .ok (.getfield 125, 3) := by decide +kernel
theorem dX11_way_109 : decode cX11_way 109 = .ok (.iconst 1, 1) := by decide +kernel
theorem dX11_way_110 : decode cX11_way 110 = .ok (.isub, 1) := by decide +kernel
theorem dX11_way_111 : decode cX11_way 111 = .ok (.ireturn, 1) := by decide +kernel
theorem dX11_shut_0 : decode cX11_shut 0 = .ok (.aload_n 0, 1) := by decide +kernel
theorem dX11_shut_1 : decode cX11_shut 1 = .ok (.iload_n 1, 1) := by decide +kernel
theorem dX11_shut_2 : decode cX11_shut 2 = .ok (.invokevirtual 141, 3) := by decide +kernel
theorem dX11_shut_5 : decode cX11_shut 5 = .ok (.ifCond .eq 13, 3) := by decide +kernel
theorem dX11_shut_8 : decode cX11_shut 8 = .ok (.iload_n 2, 1) := by decide +kernel
theorem dX11_shut_9 : decode cX11_shut 9 = .ok (.iconst 0, 1) := by decide +kernel
theorem dX11_shut_10 : decode cX11_shut 10 = .ok (.bipush 127, 2) := by decide +kernel
theorem dX11_shut_12 : decode cX11_shut 12 = .ok (.invokestatic 121, 3) := by decide +kernel
theorem dX11_shut_15 : decode cX11_shut 15 = .ok (.ifCond .ne 10, 3) := by decide +kernel
theorem dX11_shut_18 : decode cX11_shut 18 = .ok (.aload_n 0, 1) := by decide +kernel
theorem dX11_shut_19 : decode cX11_shut 19 = .ok (.ldc 131, 2) := by decide +kernel
theorem dX11_shut_21 : decode cX11_shut 21 = .ok (.invokevirtual 132, 3) := by decide +kernel
theorem dX11_shut_24 : decode cX11_shut 24 = .ok (.ireturn, 1) := by decide +kernel
theorem dX11_shut_25 : decode cX11_shut 25 = .ok (.aload_n 0, 1) := by decide +kernel
theorem dX11_shut_26 : decode cX11_shut 26 = .ok (.getfield 29, 3) := by decide +kernel
theorem dX11_shut_29 : decode cX11_shut 29 = .ok (.iload_n 1, 1) := by decide +kernel
theorem dX11_shut_30 : decode cX11_shut 30 = .ok (.iaload, 1) := by decide +kernel
theorem dX11_shut_31 : decode cX11_shut 31 = .ok (.istore_n 3, 1) := by decide +kernel
theorem dX11_shut_32 : decode cX11_shut 32 = .ok (.aload_n 0, 1) := by decide +kernel
theorem dX11_shut_33 : decode cX11_shut 33 = .ok (.getfield 29, 3) := by decide +kernel
theorem dX11_shut_36 : decode cX11_shut 36 = .ok (.iload_n 1, 1) := by decide +kernel
theorem dX11_shut_37 : decode cX11_shut 37 = .ok (.iload_n 2, 1) := by decide +kernel
theorem dX11_shut_38 : decode cX11_shut 38 = .ok (.iastore, 1) := by decide +kernel
theorem dX11_shut_39 : decode cX11_shut 39 = .ok (.iload_n 3, 1) := by decide +kernel
theorem dX11_shut_40 : decode cX11_shut 40 = .ok (.ireturn, 1) := by decide +kernel
theorem dX11_isOpen_0 : decode cX11_isOpen 0 = .ok (.aload_n 0, 1) := by decide +kernel
theorem dX11_isOpen_1 : decode cX11_isOpen 1 = .ok (.getfield 29, 3) := by decide +kernel
theorem dX11_isOpen_4 : decode cX11_isOpen 4 = .ok (.iload_n 1, 1) := by decide +kernel
theorem dX11_isOpen_5 : decode cX11_isOpen 5 = .ok (.iaload, 1) := by decide +kernel
theorem dX11_isOpen_6 : decode cX11_isOpen 6 = .ok (.iload_n 2, 1) := by decide +kernel
theorem dX11_isOpen_7 : decode cX11_isOpen 7 = .ok (.ishr, 1) := by decide +kernel
theorem dX11_isOpen_8 : decode cX11_isOpen 8 = .ok (.iconst 1, 1) := by decide +kernel
theorem dX11_isOpen_9 : decode cX11_isOpen 9 = .ok (.iand, 1) := by decide +kernel
theorem dX11_isOpen_10 : decode cX11_isOpen 10 = .ok (.ifCond .ne 20, 3) := by decide +kernel
theorem dX11_isOpen_13 : decode cX11_isOpen 13 = .ok (.iload_n 3, 1) := by decide +kernel
theorem dX11_isOpen_14 : decode cX11_isOpen 14 = .ok (.ifCond .ne 12, 3) := by decide +kernel
theorem dX11_isOpen_17 : decode cX11_isOpen 17 = .ok (.aload_n 0, 1) := by decide +kernel
theorem dX11_isOpen_18 : decode cX11_isOpen 18 = .ok (.getfield 25, 3) := by decide +kernel
theorem dX11_isOpen_21 : decode cX11_isOpen 21 = .ok (.iload_n 1, 1) := by decide +kernel
theorem dX11_isOpen_22 : decode cX11_isOpen 22 = .ok (.baload, 1) := by decide +kernel
theorem dX11_isOpen_23 : decode cX11_isOpen 23 = .ok (.ifCond .ne 7, 3) := by decide +kernel
theorem dX11_isOpen_26 : decode cX11_isOpen 26 = .ok (.iconst 1, 1) := by decide +kernel
theorem dX11_isOpen_27 : decode cX11_isOpen 27 = .ok (.goto 4, 3) := by decide +kernel
theorem dX11_isOpen_30 : decode cX11_isOpen 30 = .ok (.iconst 0, 1) := by decide +kernel
theorem dX11_isOpen_31 : decode cX11_isOpen 31 = .ok (.ireturn, 1) := by decide +kernel
theorem dX11_far_0 : decode cX11_far 0 = .ok (.aload_n 0, 1) := by decide +kernel
theorem dX11_far_1 : decode cX11_far 1 = .ok (.iload_n 1, 1) := by decide +kernel
theorem dX11_far_2 : decode cX11_far 2 = .ok (.invokevirtual 137, 3) := by decide +kernel
theorem dX11_far_5 : decode cX11_far 5 = .ok (.ifCond .eq 18, 3) := by decide +kernel
theorem dX11_far_8 : decode cX11_far 8 = .ok (.aload_n 0, 1) := by decide +kernel
theorem dX11_far_9 : decode cX11_far 9 = .ok (.iload_n 2, 1) := by decide +kernel
theorem dX11_far_10 : decode cX11_far 10 = .ok (.invokevirtual 137, 3) := by decide +kernel
theorem dX11_far_13 : decode cX11_far 13 = .ok (.ifCond .eq 10, 3) := by decide +kernel
theorem dX11_far_16 : decode cX11_far 16 = .ok (.iload_n 3, 1) := by decide +kernel
theorem dX11_far_17 : decode cX11_far 17 = .ok (.invokestatic 144, 3) := by decide +kernel
theorem dX11_far_20 : decode cX11_far 20 = .ok (.ifCond .ne 10, 3) := by decide +kernel
theorem dX11_far_23 : decode cX11_far 23 = .ok (.aload_n 0, 1) := by decide +kernel
theorem dX11_far_24 : decode cX11_far 24 = .ok (.ldc 131, 2) := by decide +kernel
theorem dX11_far_26 : decode cX11_far 26 = .ok (.invokevirtual 132, 3) := by decide +kernel
theorem dX11_far_29 : decode cX11_far 29 = .ok (.ireturn, 1) := by decide +kernel
theorem dX11_far_30 : decode cX11_far 30 = .ok (.bipush 8, 2) := by decide +kernel
theorem dX11_far_32 : decode cX11_far 32 = .ok (.newarray .int, 2) := by decide +kernel
theorem dX11_far_34 : decode cX11_far 34 = .ok (.astore 5, 2) := by decide +kernel
theorem dX11_far_36 : decode cX11_far 36 = .ok (.iconst 0, 1) := by decide +kernel
theorem dX11_far_37 : decode cX11_far 37 = .ok (.istore 6, 2) := by decide +kernel
theorem dX11_far_39 : decode cX11_far 39 = .ok (.iload 6, 2) := by decide +kernel
theorem dX11_far_41 : decode cX11_far 41 = .ok (.aload_n 0, 1) := by decide +kernel
theorem dX11_far_42 : decode cX11_far 42 = .ok (.getfield 118, 3) := by decide +kernel
theorem dX11_far_45 : decode cX11_far 45 = .ok (.if_icmp .ge 26, 3) := by decide +kernel
theorem dX11_far_48 : decode cX11_far 48 = .ok (.aload 5, 2) := by decide +kernel
theorem dX11_far_50 : decode cX11_far 50 = .ok (.iload 6, 2) := by decide +kernel
theorem dX11_far_52 : decode cX11_far 52 = .ok (.iload 6, 2) := by decide +kernel
theorem dX11_far_54 : decode cX11_far 54 = .ok (.iload_n 2, 1) := by decide +kernel
theorem dX11_far_55 : decode cX11_far 55 = .ok (.if_icmp .ne 7, 3) := by decide +kernel
theorem dX11_far_58 : decode cX11_far 58 = .ok (.iconst 0, 1) := by decide +kernel
theorem dX11_far_59 : decode cX11_far 59 = .ok (.goto 5, 3) := by decide +kernel
theorem dX11_far_62 : decode cX11_far 62 = .ok (.ldc 147, 2) := by decide +kernel
theorem dX11_far_64 : decode cX11_far 64 = .ok (.iastore, 1) := by decide +kernel
theorem dX11_far_65 : decode cX11_far 65 = .ok (.iinc 6 1, 3) := by decide +kernel
theorem dX11_far_68 : decode cX11_far 68 = .ok (.goto (-29), 3) := by decide +kernel
theorem dX11_far_71 : decode cX11_far 71 = .ok (.iconst 0, 1) := by decide +kernel
theorem dX11_far_72 : decode cX11_far 72 = .ok (.istore 6, 2) := by decide +kernel
theorem dX11_far_74 : decode cX11_far 74 = .ok (.iload 6, 2) := by decide +kernel
theorem dX11_far_76 : decode cX11_far 76 = .ok (.aload_n 0, 1) := by decide +kernel
theorem dX11_far_77 : decode cX11_far 77 = .ok (.getfield 118, 3) := by decide +kernel
theorem dX11_far_80 : decode cX11_far 80 = .ok (.if_icmp .ge 109, 3) := by decide +kernel
theorem dX11_far_83 : decode cX11_far 83 = .ok (.iconst 0, 1) := by decide +kernel
theorem dX11_far_84 : decode cX11_far 84 = .ok (.istore 7, 2) := by decide +kernel
theorem dX11_far_86 : decode cX11_far 86 = .ok (.iload 7, 2) := by decide +kernel
theorem dX11_far_88 : decode cX11_far 88 = .ok (.aload_n 0, 1) := by decide +kernel
theorem dX11_far_89 : decode cX11_far 89 = .ok (.getfield 125, 3) := by decide +kernel
theorem dX11_far_92 : decode cX11_far 92 = .ok (.if_icmp .ge 91, 3) := by decide +kernel
theorem dX11_far_95 : decode cX11_far 95 = .ok (.aload_n 0, 1) := by decide +kernel
theorem dX11_far_96 : decode cX11_far 96 = .ok (.iload 7, 2) := by decide +kernel
theorem dX11_far_98 : decode cX11_far 98 = .ok (.iload_n 3, 1) := by decide +kernel
theorem dX11_far_99 : decode cX11_far 99 = .ok (.iload 4, 2) := by decide +kernel
theorem dX11_far_101 : decode cX11_far 101 = .ok (.invokevirtual 148, 3) := by decide +kernel
theorem dX11_far_104 : decode cX11_far 104 = .ok (.ifCond .eq 73, 3) := by decide +kernel
theorem dX11_far_107 : decode cX11_far 107 = .ok (.aload_n 0, 1) := by decide +kernel
theorem dX11_far_108 : decode cX11_far 108 = .ok (.getfield 16, 3) := by decide +kernel
theorem dX11_far_111 : decode cX11_far 111 = .ok (.iload 7, 2) := by decide +kernel
theorem dX11_far_113 : decode cX11_far 113 = .ok (.iaload, 1) := by decide +kernel
theorem dX11_far_114 : decode cX11_far 114 = .ok (.istore 8, 2) := by decide +kernel
theorem dX11_far_116 : decode cX11_far 116 = .ok (.aload_n 0, 1) := by decide +kernel
theorem dX11_far_117 : decode cX11_far 117 = .ok (.getfield 19, 3) := by decide +kernel
theorem dX11_far_120 : decode cX11_far 120 = .ok (.iload 7, 2) := by decide +kernel
theorem dX11_far_122 : decode cX11_far 122 = .ok (.iaload, 1) := by decide +kernel
theorem dX11_far_123 : decode cX11_far 123 = .ok (.istore 9, 2) := by decide +kernel
theorem dX11_far_125 : decode cX11_far 125 = .ok (.aload 5, 2) := by decide +kernel
theorem dX11_far_127 : decode cX11_far 127 = .ok (.iload 8, 2) := by decide +kernel
theorem dX11_far_129 : decode cX11_far 129 = .ok (.aload 5, 2) := by decide +kernel
theorem dX11_far_131 : decode cX11_far 131 = .ok (.iload 8, 2) := by decide +kernel
theorem dX11_far_133 : decode cX11_far 133 = .ok (.iaload, 1) := by decide +kernel
theorem dX11_far_134 : decode cX11_far 134 = .ok (.aload 5, 2) := by decide +kernel
theorem dX11_far_136 : decode cX11_far 136 = .ok (.iload 9, 2) := by decide +kernel
theorem dX11_far_138 : decode cX11_far 138 = .ok (.iaload, 1) := by decide +kernel
theorem dX11_far_139 : decode cX11_far 139 = .ok (.aload_n 0, 1) := by decide +kernel
theorem dX11_far_140 : decode cX11_far 140 = .ok (.getfield 22, 3) := by decide +kernel
theorem dX11_far_143 : decode cX11_far 143 = .ok (.iload 7, 2) := by decide +kernel
theorem dX11_far_145 : decode cX11_far 145 = .ok (.iaload, 1) := by decide +kernel
theorem dX11_far_146 : decode cX11_far 146 = .ok (.iadd, 1) := by decide +kernel
theorem dX11_far_147 : decode cX11_far 147 = .ok (.invokestatic 152, 3) := by decide +kernel
theorem dX11_far_150 : decode cX11_far 150 = .ok (.iastore, 1) := by decide +kernel
theorem dX11_far_151 : decode cX11_far 151 = .ok (.aload 5, 2) := by decide +kernel
theorem dX11_far_153 : decode cX11_far 153 = .ok (.iload 9, 2) := by decide +kernel
theorem dX11_far_155 : decode cX11_far 155 = .ok (.aload 5, 2) := by decide +kernel
theorem dX11_far_157 : decode cX11_far 157 = .ok (.iload 9, 2) := by decide +kernel
theorem dX11_far_159 : decode cX11_far 159 = .ok (.iaload, 1) := by decide +kernel
theorem dX11_far_160 : decode cX11_far 160 = .ok (.aload 5, 2) := by decide +kernel
theorem dX11_far_162 : decode cX11_far 162 = .ok (.iload 8, 2) := by decide +kernel
theorem dX11_far_164 : decode cX11_far 164 = .ok (.iaload, 1) := by decide +kernel
theorem dX11_far_165 : decode cX11_far 165 = .ok (.aload_n 0, 1) := by decide +kernel
theorem dX11_far_166 : decode cX11_far 166 = .ok (.getfield 22, 3) := by decide +kernel
theorem dX11_far_169 : decode cX11_far 169 = .ok (.iload 7, 2) := by decide +kernel
theorem dX11_far_171 : decode cX11_far 171 = .ok (.iaload, 1) := by decide +kernel
theorem dX11_far_172 : decode cX11_far 172 = .ok (.iadd, 1) := by decide +kernel
theorem dX11_far_173 : decode cX11_far 173 = .ok (.invokestatic 152, 3) := by decide +kernel
theorem dX11_far_176 : decode cX11_far 176 = .ok (.iastore, 1) := by decide +kernel
theorem dX11_far_177 : decode cX11_far 177 = .ok (.iinc 7 1, 3) := by decide +kernel
theorem dX11_far_180 : decode cX11_far 180 = .ok (.goto (-94), 3) := by decide +kernel
theorem dX11_far_183 : decode cX11_far 183 = .ok (.iinc 6 1, 3) := by decide +kernel
theorem dX11_far_186 : decode cX11_far 186 = .ok (.goto (-112), 3) := by decide +kernel
theorem dX11_far_189 : decode cX11_far 189 = .ok (.aload 5, 2) := by decide +kernel
theorem dX11_far_191 : decode cX11_far 191 = .ok (.iload_n 1, 1) := by decide +kernel
theorem dX11_far_192 : decode cX11_far 192 = .ok (.iaload, 1) := by decide +kernel
theorem dX11_far_193 : decode cX11_far 193 = .ok (.ldc 147, 2) := by decide +kernel
theorem dX11_far_195 : decode cX11_far 195 = .ok (.if_icmp .lt 12, 3) := by decide +kernel
theorem dX11_far_198 : decode cX11_far 198 = .ok (.aload_n 0, 1) := by decide +kernel
theorem dX11_far_199 : decode cX11_far 199 = .ok (.ldc 158, 2) := by decide +kernel
theorem dX11_far_201 : decode cX11_far 201 = .ok (.invokevirtual 132, 3) := by decide +kernel
theorem dX11_far_204 : decode cX11_far 204 = .ok (.goto 7, 3) := by decide +kernel
theorem dX11_far_207 : decode cX11_far 207 = .ok (.aload 5, 2) := by decide +kernel
theorem dX11_far_209 : decode cX11_far 209 = .ok (.iload_n 1, 1) := by decide +kernel
theorem dX11_far_210 : decode cX11_far 210 = .ok (.iaload, 1) := by decide +kernel
theorem dX11_far_211 : decode cX11_far 211 = .ok (.ireturn, 1) := by decide +kernel
theorem dX11_feed_0 : decode cX11_feed 0 = .ok (.iload_n 3, 1) := by decide +kernel
theorem dX11_feed_1 : decode cX11_feed 1 = .ok (.iconst 1, 1) := by decide +kernel
theorem dX11_feed_2 : decode cX11_feed 2 = .ok (.bipush 8, 2) := by decide +kernel
theorem dX11_feed_4 : decode cX11_feed 4 = .ok (.invokestatic 121, 3) := by decide +kernel
theorem dX11_feed_7 : decode cX11_feed 7 = .ok (.ifCond .ne 10, 3) := by decide +kernel
theorem dX11_feed_10 : decode cX11_feed 10 = .ok (.aload_n 0, 1) := by decide +kernel
theorem dX11_feed_11 : decode cX11_feed 11 = .ok (.ldc 131, 2) := by decide +kernel
theorem dX11_feed_13 : decode cX11_feed 13 = .ok (.invokevirtual 132, 3) := by decide +kernel
theorem dX11_feed_16 : decode cX11_feed 16 = .ok (.ireturn, 1) := by decide +kernel
theorem dX11_feed_17 : decode cX11_feed 17 = .ok (.aload_n 0, 1) := by decide +kernel
theorem dX11_feed_18 : decode cX11_feed 18 = .ok (.getfield 159, 3) := by decide +kernel
theorem dX11_feed_21 : decode cX11_feed 21 = .ok (.iload_n 3, 1) := by decide +kernel
theorem dX11_feed_22 : decode cX11_feed 22 = .ok (.iadd, 1) := by decide +kernel
theorem dX11_feed_23 : decode cX11_feed 23 = .ok (.sipush 200, 3) := by decide +kernel
theorem dX11_feed_26 : decode cX11_feed 26 = .ok (.if_icmp .le 10, 3) := by decide +kernel
theorem dX11_feed_29 : decode cX11_feed 29 = .ok (.aload_n 0, 1) := by decide +kernel
theorem dX11_feed_30 : decode cX11_feed 30 = .ok (.ldc 136, 2) := by decide +kernel
theorem dX11_feed_32 : decode cX11_feed 32 = .ok (.invokevirtual 132, 3) := by decide +kernel
theorem dX11_feed_35 : decode cX11_feed 35 = .ok (.ireturn, 1) := by decide +kernel
theorem dX11_feed_36 : decode cX11_feed 36 = .ok (.iconst 0, 1) := by decide +kernel
theorem dX11_feed_37 : decode cX11_feed 37 = .ok (.istore 4, 2) := by decide +kernel
theorem dX11_feed_39 : decode cX11_feed 39 = .ok (.iload 4, 2) := by decide +kernel
theorem dX11_feed_41 : decode cX11_feed 41 = .ok (.iload_n 3, 1) := by decide +kernel
theorem dX11_feed_42 : decode cX11_feed 42 = .ok (.if_icmp .ge 40, 3) := by decide +kernel
theorem dX11_feed_45 : decode cX11_feed 45 = .ok (.aload_n 0, 1) := by decide +kernel
theorem dX11_feed_46 : decode cX11_feed 46 = .ok (.getfield 50, 3) := by decide +kernel
theorem dX11_feed_49 : decode cX11_feed 49 = .ok (.aload_n 0, 1) := by decide +kernel
theorem dX11_feed_50 : decode cX11_feed 50 = .ok (.getfield 159, 3) := by decide +kernel
theorem dX11_feed_53 : decode cX11_feed 53 = .ok (.lload_n 1, 1) := by decide +kernel
theorem dX11_feed_54 : decode cX11_feed 54 = .ok (.bipush 8, 2) := by decide +kernel
theorem dX11_feed_56 : decode cX11_feed 56 = .ok (.iload 4, 2) := by decide +kernel
theorem dX11_feed_58 : decode cX11_feed 58 = .ok (.imul, 1) := by decide +kernel
theorem dX11_feed_59 : decode cX11_feed 59 = .ok (.lshr, 1) := by decide +kernel
theorem dX11_feed_60 : decode cX11_feed 60 = .ok (.ldc2_w 162, 3) := by decide +kernel
theorem dX11_feed_63 : decode cX11_feed 63 = .ok (.land, 1) := by decide +kernel
theorem dX11_feed_64 : decode cX11_feed 64 = .ok (.l2i, 1) := by decide +kernel
theorem dX11_feed_65 : decode cX11_feed 65 = .ok (.iastore, 1) := by decide +kernel
theorem dX11_feed_66 : decode cX11_feed 66 = .ok (.aload_n 0, 1) := by decide +kernel
theorem dX11_feed_67 : decode cX11_feed 67 = .ok (.dup, 1) := by decide +kernel
theorem dX11_feed_68 : decode cX11_feed 68 = .ok (.getfield 159, 3) := by decide +kernel
theorem dX11_feed_71 : decode cX11_feed 71 = .ok (.iconst 1, 1) := by decide +kernel
theorem dX11_feed_72 : decode cX11_feed 72 = .ok (.iadd, 1) := by decide +kernel
theorem dX11_feed_73 : decode cX11_feed 73 = .ok (.putfield 159, 3) := by decide +kernel
theorem dX11_feed_76 : decode cX11_feed 76 = .ok (.iinc 4 1, 3) := by decide +kernel
theorem dX11_feed_79 : decode cX11_feed 79 = .ok (.goto (-40), 3) := by decide +kernel
theorem dX11_feed_82 : decode cX11_feed 82 = .ok (.aload_n 0, 1) := by decide +kernel
theorem dX11_feed_83 : decode cX11_feed 83 = .ok (.getfield 159, 3) := by decide +kernel
theorem dX11_feed_86 : decode cX11_feed 86 = .ok (.ireturn, 1) := by decide +kernel
theorem dX11_byteAt_0 : decode cX11_byteAt 0 = .ok (.iload_n 1, 1) := by decide +kernel
theorem dX11_byteAt_1 : decode cX11_byteAt 1 = .ok (.aload_n 0, 1) := by decide +kernel
theorem dX11_byteAt_2 : decode cX11_byteAt 2 = .ok (.getfield 159, 3) := by decide +kernel
theorem dX11_byteAt_5 : decode cX11_byteAt 5 = .ok (.if_icmp .ge 12, 3) := by decide +kernel
theorem dX11_byteAt_8 : decode cX11_byteAt 8 = .ok (.aload_n 0, 1) := by decide +kernel
theorem dX11_byteAt_9 : decode cX11_byteAt 9 = .ok (.getfield 50, 3) := by decide +kernel
theorem dX11_byteAt_12 : decode cX11_byteAt 12 = .ok (.iload_n 1, 1) := by decide +kernel
theorem dX11_byteAt_13 : decode cX11_byteAt 13 = .ok (.iaload, 1) := by decide +kernel
theorem dX11_byteAt_14 : decode cX11_byteAt 14 = .ok (.goto 4, 3) := by decide +kernel
theorem dX11_byteAt_17 : decode cX11_byteAt 17 = .ok (.iconst (-1), 1) := by decide +kernel
theorem dX11_byteAt_18 : decode cX11_byteAt 18 = .ok (.ireturn, 1) := by decide +kernel
theorem dX11_kindBy_0 : decode cX11_kindBy 0 = .ok (.iload_n 0, 1) := by decide +kernel
theorem dX11_kindBy_1 : decode cX11_kindBy 1 = .ok (.bipush 112, 2) := by decide +kernel
theorem dX11_kindBy_3 : decode cX11_kindBy 3 = .ok (.if_icmp .ne 7, 3) := by decide +kernel
theorem dX11_kindBy_6 : decode cX11_kindBy 6 = .ok (.iconst 0, 1) := by decide +kernel
theorem dX11_kindBy_7 : decode cX11_kindBy 7 = .ok (.goto 34, 3) := by decide +kernel
theorem dX11_kindBy_10 : decode cX11_kindBy 10 = .ok (.iload_n 0, 1) := by decide +kernel
theorem dX11_kindBy_11 : decode cX11_kindBy 11 = .ok (.bipush 115, 2) := by decide +kernel
theorem dX11_kindBy_13 : decode cX11_kindBy 13 = .ok (.if_icmp .ne 7, 3) := by decide +kernel
theorem dX11_kindBy_16 : decode cX11_kindBy 16 = .ok (.iconst 1, 1) := by decide +kernel
theorem dX11_kindBy_17 : decode cX11_kindBy 17 = .ok (.goto 24, 3) := by decide +kernel
theorem dX11_kindBy_20 : decode cX11_kindBy 20 = .ok (.iload_n 0, 1) := by decide +kernel
theorem dX11_kindBy_21 : decode cX11_kindBy 21 = .ok (.bipush 116, 2) := by decide +kernel
theorem dX11_kindBy_23 : decode cX11_kindBy 23 = .ok (.if_icmp .ne 7, 3) := by decide +kernel
theorem dX11_kindBy_26 : decode cX11_kindBy 26 = .ok (.iconst 2, 1) := by decide +kernel
theorem dX11_kindBy_27 : decode cX11_kindBy 27 = .ok (.goto 14, 3) := by decide +kernel
theorem dX11_kindBy_30 : decode cX11_kindBy 30 = .ok (.iload_n 0, 1) := by decide +kernel
theorem dX11_kindBy_31 : decode cX11_kindBy 31 = .ok (.bipush 101, 2) := by decide +kernel
theorem dX11_kindBy_33 : decode cX11_kindBy 33 = .ok (.if_icmp .ne 7, 3) := by decide +kernel
theorem dX11_kindBy_36 : decode cX11_kindBy 36 = .ok (.iconst 3, 1) := by decide +kernel
theorem dX11_kindBy_37 : decode cX11_kindBy 37 = .ok (.goto 4, 3) := by decide +kernel
theorem dX11_kindBy_40 : decode cX11_kindBy 40 = .ok (.iconst (-1), 1) := by decide +kernel
theorem dX11_kindBy_41 : decode cX11_kindBy 41 = .ok (.ireturn, 1) := by decide +kernel
theorem dX11_readsPiece_0 : decode cX11_readsPiece 0 = .ok (.aload_n 0, 1) := by decide +kernel
theorem dX11_readsPiece_1 : decode cX11_readsPiece 1 = .ok (.getfield 164, 3) := by decide +kernel
theorem dX11_readsPiece_4 : decode cX11_readsPiece 4 = .ok (.bipush 12, 2) := by decide +kernel
theorem dX11_readsPiece_6 : decode cX11_readsPiece 6 = .ok (.if_icmp .eq 27, 3) := by decide +kernel
theorem dX11_readsPiece_9 : decode cX11_readsPiece 9 = .ok (.aload_n 0, 1) := by decide +kernel
theorem dX11_readsPiece_10 : decode cX11_readsPiece 10 = .ok (.aload_n 0, 1) := by decide +kernel
theorem dX11_readsPiece_11 : decode cX11_readsPiece 11 = .ok (.getfield 167, 3) := by decide +kernel
theorem dX11_readsPiece_14 : decode cX11_readsPiece 14 = .ok (.invokevirtual 170, 3) := by decide +kernel
theorem dX11_readsPiece_17 : decode cX11_readsPiece 17 = .ok (.bipush 48, 2) := by decide +kernel
theorem dX11_readsPiece_19 : decode cX11_readsPiece 19 = .ok (.isub, 1) := by decide +kernel
theorem dX11_readsPiece_20 : decode cX11_readsPiece 20 = .ok (.iconst 0, 1) := by decide +kernel
theorem dX11_readsPiece_21 : decode cX11_readsPiece 21 = .ok (.aload_n 0, 1) := by decide +kernel
theorem dX11_readsPiece_22 : decode cX11_readsPiece 22 = .ok (.getfield 118, 3) := by decide +kernel
theorem dX11_readsPiece_25 : decode cX11_readsPiece 25 = .ok (.iconst 1, 1) := by decide +kernel
theorem dX11_readsPiece_26 : decode cX11_readsPiece 26 = .ok (.isub, 1) := by decide +kernel
theorem dX11_readsPiece_27 : decode cX11_readsPiece 27 = .ok (.invokestatic 121, 3) := by decide +kernel
theorem dX11_readsPiece_30 : decode cX11_readsPiece 30 = .ok (.ifCond .ne 5, 3) := by decide +kernel
theorem dX11_readsPiece_33 : decode cX11_readsPiece 33 = .ok (.iconst 0, 1) := by decide +kernel
theorem dX11_readsPiece_34 : decode cX11_readsPiece 34 = .ok (.ireturn, 1) := by decide +kernel
theorem dX11_readsPiece_35 : decode cX11_readsPiece 35 = .ok (.aload_n 0, 1) := by decide +kernel
theorem dX11_readsPiece_36 : decode cX11_readsPiece 36 = .ok (.getfield 89, 3) := by decide +kernel
theorem dX11_readsPiece_39 : decode cX11_readsPiece 39 = .ok (.aload_n 0, 1) := by decide +kernel
theorem dX11_readsPiece_40 : decode cX11_readsPiece 40 = .ok (.getfield 164, 3) := by decide +kernel
theorem dX11_readsPiece_43 : decode cX11_readsPiece 43 = .ok (.aload_n 0, 1) := by decide +kernel
theorem dX11_readsPiece_44 : decode cX11_readsPiece 44 = .ok (.aload_n 0, 1) := by decide +kernel
theorem dX11_readsPiece_45 : decode cX11_readsPiece 45 = .ok (.getfield 167, 3) := by decide +kernel
theorem dX11_readsPiece_48 : decode cX11_readsPiece 48 = .ok (.invokevirtual 170, 3) := by decide +kernel
theorem dX11_readsPiece_51 : decode cX11_readsPiece 51 = .ok (.bipush 48, 2) := by decide +kernel
theorem dX11_readsPiece_53 : decode cX11_readsPiece 53 = .ok (.isub, 1) := by decide +kernel
theorem dX11_readsPiece_54 : decode cX11_readsPiece 54 = .ok (.iastore, 1) := by decide +kernel
theorem dX11_readsPiece_55 : decode cX11_readsPiece 55 = .ok (.aload_n 0, 1) := by decide +kernel
theorem dX11_readsPiece_56 : decode cX11_readsPiece 56 = .ok (.dup, 1) := by decide +kernel
theorem dX11_readsPiece_57 : decode cX11_readsPiece 57 = .ok (.getfield 167, 3) := by decide +kernel
theorem dX11_readsPiece_60 : decode cX11_readsPiece 60 = .ok (.iconst 1, 1) := by decide +kernel
theorem dX11_readsPiece_61 : decode cX11_readsPiece 61 = .ok (.iadd, 1) := by decide +kernel
theorem dX11_readsPiece_62 : decode cX11_readsPiece 62 = .ok (.putfield 167, 3) := by decide +kernel
theorem dX11_readsPiece_65 : decode cX11_readsPiece 65 = .ok (.aload_n 0, 1) := by decide +kernel
theorem dX11_readsPiece_66 : decode cX11_readsPiece 66 = .ok (.getfield 86, 3) := by decide +kernel
theorem dX11_readsPiece_69 : decode cX11_readsPiece 69 = .ok (.aload_n 0, 1) := by decide +kernel
theorem dX11_readsPiece_70 : decode cX11_readsPiece 70 = .ok (.getfield 164, 3) := by decide +kernel
theorem dX11_readsPiece_73 : decode cX11_readsPiece 73 = .ok (.aload_n 0, 1) := by decide +kernel
theorem dX11_readsPiece_74 : decode cX11_readsPiece 74 = .ok (.aload_n 0, 1) := by decide +kernel
theorem dX11_readsPiece_75 : decode cX11_readsPiece 75 = .ok (.getfield 167, 3) := by decide +kernel
theorem dX11_readsPiece_78 : decode cX11_readsPiece 78 = .ok (.invokevirtual 170, 3) := by decide +kernel
theorem dX11_readsPiece_81 : decode cX11_readsPiece 81 = .ok (.invokestatic 173, 3) := by decide +kernel
theorem dX11_readsPiece_84 : decode cX11_readsPiece 84 = .ok (.iastore, 1) := by decide +kernel
theorem dX11_readsPiece_85 : decode cX11_readsPiece 85 = .ok (.aload_n 0, 1) := by decide +kernel
theorem dX11_readsPiece_86 : decode cX11_readsPiece 86 = .ok (.getfield 86, 3) := by decide +kernel
theorem dX11_readsPiece_89 : decode cX11_readsPiece 89 = .ok (.aload_n 0, 1) := by decide +kernel
theorem dX11_readsPiece_90 : decode cX11_readsPiece 90 = .ok (.getfield 164, 3) := by decide +kernel
theorem dX11_readsPiece_93 : decode cX11_readsPiece 93 = .ok (.iaload, 1) := by decide +kernel
theorem dX11_readsPiece_94 : decode cX11_readsPiece 94 = .ok (.ifCond .ge 5, 3) := by decide +kernel
theorem dX11_readsPiece_97 : decode cX11_readsPiece 97 = .ok (.iconst 0, 1) := by decide +kernel
theorem dX11_readsPiece_98 : decode cX11_readsPiece 98 = .ok (.ireturn, 1) := by decide +kernel
theorem dX11_readsPiece_99 : decode cX11_readsPiece 99 = .ok (.aload_n 0, 1) := by decide +kernel
theorem dX11_readsPiece_100 : decode cX11_readsPiece 100 = .ok (.dup, 1) := by decide +kernel
theorem dX11_readsPiece_101 : decode cX11_readsPiece 101 = .ok (.getfield 167, 3) := by decide +kernel
theorem dX11_readsPiece_104 : decode cX11_readsPiece 104 = .ok (.iconst 1, 1) := by decide +kernel
theorem dX11_readsPiece_105 : decode cX11_readsPiece 105 = .ok (.iadd, 1) := by decide +kernel
theorem dX11_readsPiece_106 : decode cX11_readsPiece 106 = .ok (.putfield 167, 3) := by decide +kernel
theorem dX11_readsPiece_109 : decode cX11_readsPiece 109 = .ok (.aload_n 0, 1) := by decide +kernel
theorem dX11_readsPiece_110 : decode cX11_readsPiece 110 = .ok (.aload_n 0, 1) := by decide +kernel
theorem dX11_readsPiece_111 : decode cX11_readsPiece 111 = .ok (.getfield 167, 3) := by decide +kernel
theorem dX11_readsPiece_114 : decode cX11_readsPiece 114 = .ok (.invokevirtual 170, 3) := by decide +kernel
theorem dX11_readsPiece_117 : decode cX11_readsPiece 117 = .ok (.bipush 49, 2) := by decide +kernel
theorem dX11_readsPiece_119 : decode cX11_readsPiece 119 = .ok (.bipush 57, 2) := by decide +kernel
theorem dX11_readsPiece_121 : decode cX11_readsPiece 121 = .ok (.invokestatic 121, 3) := by decide +kernel
theorem dX11_readsPiece_124 : decode cX11_readsPiece 124 = .ok (.ifCond .ne 5, 3) := by decide +kernel
theorem dX11_readsPiece_127 : decode cX11_readsPiece 127 = .ok (.iconst 0, 1) := by decide +kernel
theorem dX11_readsPiece_128 : decode cX11_readsPiece 128 = .ok (.ireturn, 1) := by decide +kernel
theorem dX11_readsPiece_129 : decode cX11_readsPiece 129 = .ok (.aload_n 0, 1) := by decide +kernel
theorem dX11_readsPiece_130 : decode cX11_readsPiece 130 = .ok (.getfield 92, 3) := by decide +kernel
theorem dX11_readsPiece_133 : decode cX11_readsPiece 133 = .ok (.aload_n 0, 1) := by decide +kernel
theorem dX11_readsPiece_134 : decode cX11_readsPiece 134 = .ok (.getfield 164, 3) := by decide +kernel
theorem dX11_readsPiece_137 : decode cX11_readsPiece 137 = .ok (.aload_n 0, 1) := by decide +kernel
theorem dX11_readsPiece_138 : decode cX11_readsPiece 138 = .ok (.aload_n 0, 1) := by decide +kernel
theorem dX11_readsPiece_139 : decode cX11_readsPiece 139 = .ok (.getfield 167, 3) := by decide +kernel
theorem dX11_readsPiece_142 : decode cX11_readsPiece 142 = .ok (.invokevirtual 170, 3) := by decide +kernel
theorem dX11_readsPiece_145 : decode cX11_readsPiece 145 = .ok (.bipush 48, 2) := by decide +kernel
theorem dX11_readsPiece_147 : decode cX11_readsPiece 147 = .ok (.isub, 1) := by decide +kernel
theorem dX11_readsPiece_148 : decode cX11_readsPiece 148 = .ok (.iastore, 1) := by decide +kernel
theorem dX11_readsPiece_149 : decode cX11_readsPiece 149 = .ok (.aload_n 0, 1) := by decide +kernel
theorem dX11_readsPiece_150 : decode cX11_readsPiece 150 = .ok (.dup, 1) := by decide +kernel
theorem dX11_readsPiece_151 : decode cX11_readsPiece 151 = .ok (.getfield 167, 3) := by decide +kernel
theorem dX11_readsPiece_154 : decode cX11_readsPiece 154 = .ok (.iconst 1, 1) := by decide +kernel
theorem dX11_readsPiece_155 : decode cX11_readsPiece 155 = .ok (.iadd, 1) := by decide +kernel
theorem dX11_readsPiece_156 : decode cX11_readsPiece 156 = .ok (.putfield 167, 3) := by decide +kernel
theorem dX11_readsPiece_159 : decode cX11_readsPiece 159 = .ok (.aload_n 0, 1) := by decide +kernel
theorem dX11_readsPiece_160 : decode cX11_readsPiece 160 = .ok (.getfield 95, 3) := by decide +kernel
theorem dX11_readsPiece_163 : decode cX11_readsPiece 163 = .ok (.aload_n 0, 1) := by decide +kernel
theorem dX11_readsPiece_164 : decode cX11_readsPiece 164 = .ok (.getfield 164, 3) := by decide +kernel
theorem dX11_readsPiece_167 : decode cX11_readsPiece 167 = .ok (.iconst 0, 1) := by decide +kernel
theorem dX11_readsPiece_168 : decode cX11_readsPiece 168 = .ok (.iastore, 1) := by decide +kernel
theorem dX11_readsPiece_169 : decode cX11_readsPiece 169 = .ok (.bipush 97, 2) := by decide +kernel
theorem dX11_readsPiece_171 : decode cX11_readsPiece 171 = .ok (.istore_n 1, 1) := by decide +kernel
theorem dX11_readsPiece_172 : decode cX11_readsPiece 172 = .ok (.aload_n 0, 1) := by decide +kernel
theorem dX11_readsPiece_173 : decode cX11_readsPiece 173 = .ok (.aload_n 0, 1) := by decide +kernel
theorem dX11_readsPiece_174 : decode cX11_readsPiece 174 = .ok (.getfield 167, 3) := by decide +kernel
theorem dX11_readsPiece_177 : decode cX11_readsPiece 177 = .ok (.invokevirtual 170, 3) := by decide +kernel
theorem dX11_readsPiece_180 : decode cX11_readsPiece 180 = .ok (.iload_n 1, 1) := by decide +kernel
theorem dX11_readsPiece_181 : decode cX11_readsPiece 181 = .ok (.bipush 108, 2) := by decide +kernel
theorem dX11_readsPiece_183 : decode cX11_readsPiece 183 = .ok (.invokestatic 121, 3) := by decide +kernel
theorem dX11_readsPiece_186 : decode cX11_readsPiece 186 = .ok (.ifCond .eq 52, 3) := by decide +kernel
theorem dX11_readsPiece_189 : decode cX11_readsPiece 189 = .ok (.aload_n 0, 1) := by decide +kernel
theorem dX11_readsPiece_190 : decode cX11_readsPiece 190 = .ok (.getfield 95, 3) := by decide +kernel
theorem dX11_readsPiece_193 : decode cX11_readsPiece 193 = .ok (.aload_n 0, 1) := by decide +kernel
theorem dX11_readsPiece_194 : decode cX11_readsPiece 194 = .ok (.getfield 164, 3) := by decide +kernel
theorem dX11_readsPiece_197 : decode cX11_readsPiece 197 = .ok (.dup2, 1) := by decide +kernel
theorem dX11_readsPiece_198 : decode cX11_readsPiece 198 = .ok (.iaload, 1) := by decide +kernel
theorem dX11_readsPiece_199 : decode cX11_readsPiece 199 = .ok (.iconst 1, 1) := by decide +kernel
theorem dX11_readsPiece_200 : decode cX11_readsPiece 200 = .ok (.aload_n 0, 1) := by decide +kernel
theorem dX11_readsPiece_201 : decode cX11_readsPiece 201 = .ok (.aload_n 0, 1) := by decide +kernel
theorem dX11_readsPiece_202 : decode cX11_readsPiece 202 = .ok (.getfield 167, 3) := by decide +kernel
theorem dX11_readsPiece_205 : decode cX11_readsPiece 205 = .ok (.invokevirtual 170, 3) := by decide +kernel
theorem dX11_readsPiece_208 : decode cX11_readsPiece 208 = .ok (.bipush 97, 2) := by decide +kernel
theorem dX11_readsPiece_210 : decode cX11_readsPiece 210 = .ok (.isub, 1) := by decide +kernel
theorem dX11_readsPiece_211 : decode cX11_readsPiece 211 = .ok (.ishl, 1) := by decide +kernel
theorem dX11_readsPiece_212 : decode cX11_readsPiece 212 = .ok (.ior, 1) := by decide +kernel
theorem dX11_readsPiece_213 : decode cX11_readsPiece 213 = .ok (.iastore, 1) := by decide +kernel
theorem dX11_readsPiece_214 : decode cX11_readsPiece 214 = .ok (.aload_n 0, 1) := by decide +kernel
theorem dX11_readsPiece_215 : decode cX11_readsPiece 215 = .ok (.aload_n 0, 1) := by decide +kernel
theorem dX11_readsPiece_216 : decode cX11_readsPiece 216 = .ok (.getfield 167, 3) := by decide +kernel
theorem dX11_readsPiece_219 : decode cX11_readsPiece 219 = .ok (.invokevirtual 170, 3) := by decide +kernel
theorem dX11_readsPiece_222 : decode cX11_readsPiece 222 = .ok (.iconst 1, 1) := by decide +kernel
theorem dX11_readsPiece_223 : decode cX11_readsPiece 223 = .ok (.iadd, 1) := by decide +kernel
theorem dX11_readsPiece_224 : decode cX11_readsPiece 224 = .ok (.istore_n 1, 1) := by decide +kernel
theorem dX11_readsPiece_225 : decode cX11_readsPiece 225 = .ok (.aload_n 0, 1) := by decide +kernel
theorem dX11_readsPiece_226 : decode cX11_readsPiece 226 = .ok (.dup, 1) := by decide +kernel
theorem dX11_readsPiece_227 : decode cX11_readsPiece 227 = .ok (.getfield 167, 3) := by decide +kernel
theorem dX11_readsPiece_230 : decode cX11_readsPiece 230 = .ok (.iconst 1, 1) := by decide +kernel
theorem dX11_readsPiece_231 : decode cX11_readsPiece 231 = .ok (.iadd, 1) := by decide +kernel
theorem dX11_readsPiece_232 : decode cX11_readsPiece 232 = .ok (.putfield 167, 3) := by decide +kernel
theorem dX11_readsPiece_235 : decode cX11_readsPiece 235 = .ok (.goto (-63), 3) := by decide +kernel
theorem dX11_readsPiece_238 : decode cX11_readsPiece 238 = .ok (.aload_n 0, 1) := by decide +kernel
theorem dX11_readsPiece_239 : decode cX11_readsPiece 239 = .ok (.getfield 98, 3) := by decide +kernel
theorem dX11_readsPiece_242 : decode cX11_readsPiece 242 = .ok (.aload_n 0, 1) := by decide +kernel
theorem dX11_readsPiece_243 : decode cX11_readsPiece 243 = .ok (.getfield 164, 3) := by decide +kernel
theorem dX11_readsPiece_246 : decode cX11_readsPiece 246 = .ok (.bipush 127, 2) := by decide +kernel
theorem dX11_readsPiece_248 : decode cX11_readsPiece 248 = .ok (.iastore, 1) := by decide +kernel
theorem dX11_readsPiece_249 : decode cX11_readsPiece 249 = .ok (.aload_n 0, 1) := by decide +kernel
theorem dX11_readsPiece_250 : decode cX11_readsPiece 250 = .ok (.getfield 86, 3) := by decide +kernel
theorem dX11_readsPiece_253 : decode cX11_readsPiece 253 = .ok (.aload_n 0, 1) := by decide +kernel
theorem dX11_readsPiece_254 : decode cX11_readsPiece 254 = .ok (.getfield 164, 3) := by decide +kernel
theorem dX11_readsPiece_257 : decode cX11_readsPiece 257 = .ok (.iaload, 1) := by decide +kernel
theorem dX11_readsPiece_258 : decode cX11_readsPiece 258 = .ok (.iconst 1, 1) := by decide +kernel
theorem dX11_readsPiece_259 : decode cX11_readsPiece 259 = .ok (.if_icmp .ne 25, 3) := by decide +kernel
theorem dX11_readsPiece_262 : decode cX11_readsPiece 262 = .ok (.aload_n 0, 1) := by decide +kernel
theorem dX11_readsPiece_263 : decode cX11_readsPiece 263 = .ok (.aload_n 0, 1) := by decide +kernel
theorem dX11_readsPiece_264 : decode cX11_readsPiece 264 = .ok (.getfield 167, 3) := by decide +kernel
theorem dX11_readsPiece_267 : decode cX11_readsPiece 267 = .ok (.invokevirtual 170, 3) := by decide +kernel
theorem dX11_readsPiece_270 : decode cX11_readsPiece 270 = .ok (.bipush 64, 2) := by decide +kernel
theorem dX11_readsPiece_272 : decode cX11_readsPiece 272 = .ok (.if_icmp .ne 12, 3) := by decide +kernel
theorem dX11_readsPiece_275 : decode cX11_readsPiece 275 = .ok (.aload_n 0, 1) := by decide +kernel
theorem dX11_readsPiece_276 : decode cX11_readsPiece 276 = .ok (.invokevirtual 176, 3) := by decide +kernel
theorem dX11_readsPiece_279 : decode cX11_readsPiece 279 = .ok (.ifCond .ne 5, 3) := by decide +kernel
theorem dX11_readsPiece_282 : decode cX11_readsPiece 282 = .ok (.iconst 0, 1) := by decide +kernel
theorem dX11_readsPiece_283 : decode cX11_readsPiece 283 = .ok (.ireturn, 1) := by decide +kernel
theorem dX11_readsPiece_284 : decode cX11_readsPiece 284 = .ok (.aload_n 0, 1) := by decide +kernel
theorem dX11_readsPiece_285 : decode cX11_readsPiece 285 = .ok (.aload_n 0, 1) := by decide +kernel
theorem dX11_readsPiece_286 : decode cX11_readsPiece 286 = .ok (.getfield 167, 3) := by decide +kernel
theorem dX11_readsPiece_289 : decode cX11_readsPiece 289 = .ok (.invokevirtual 170, 3) := by decide +kernel
theorem dX11_readsPiece_292 : decode cX11_readsPiece 292 = .ok (.bipush 59, 2) := by decide +kernel
theorem dX11_readsPiece_294 : decode cX11_readsPiece 294 = .ok (.if_icmp .eq 5, 3) := by decide +kernel
theorem dX11_readsPiece_297 : decode cX11_readsPiece 297 = .ok (.iconst 0, 1) := by decide +kernel
theorem dX11_readsPiece_298 : decode cX11_readsPiece 298 = .ok (.ireturn, 1) := by decide +kernel
theorem dX11_readsPiece_299 : decode cX11_readsPiece 299 = .ok (.aload_n 0, 1) := by decide +kernel
theorem dX11_readsPiece_300 : decode cX11_readsPiece 300 = .ok (.dup, 1) := by decide +kernel
theorem dX11_readsPiece_301 : decode cX11_readsPiece 301 = .ok (.getfield 167, 3) := by decide +kernel
theorem dX11_readsPiece_304 : decode cX11_readsPiece 304 = .ok (.iconst 1, 1) := by decide +kernel
theorem dX11_readsPiece_305 : decode cX11_readsPiece 305 = .ok (.iadd, 1) := by decide +kernel
theorem dX11_readsPiece_306 : decode cX11_readsPiece 306 = .ok (.putfield 167, 3) := by decide +kernel
theorem dX11_readsPiece_309 : decode cX11_readsPiece 309 = .ok (.aload_n 0, 1) := by decide +kernel
theorem dX11_readsPiece_310 : decode cX11_readsPiece 310 = .ok (.dup, 1) := by decide +kernel
theorem dX11_readsPiece_311 : decode cX11_readsPiece 311 = .ok (.getfield 164, 3) := by decide +kernel
theorem dX11_readsPiece_314 : decode cX11_readsPiece 314 = .ok (.iconst 1, 1) := by decide +kernel
theorem dX11_readsPiece_315 : decode cX11_readsPiece 315 = .ok (.iadd, 1) := by decide +kernel
theorem dX11_readsPiece_316 : decode cX11_readsPiece 316 = .ok (.putfield 164, 3) := by decide +kernel
theorem dX11_readsPiece_319 : decode cX11_readsPiece 319 = .ok (.iconst 1, 1) := by decide +kernel
theorem dX11_readsPiece_320 : decode cX11_readsPiece 320 = .ok (.ireturn, 1) := by decide +kernel
theorem dX11_readsDays_0 : decode cX11_readsDays 0 = .ok (.aload_n 0, 1) := by decide +kernel
theorem dX11_readsDays_1 : decode cX11_readsDays 1 = .ok (.dup, 1) := by decide +kernel
theorem dX11_readsDays_2 : decode cX11_readsDays 2 = .ok (.getfield 167, 3) := by decide +kernel
theorem dX11_readsDays_5 : decode cX11_readsDays 5 = .ok (.iconst 1, 1) := by decide +kernel
theorem dX11_readsDays_6 : decode cX11_readsDays 6 = .ok (.iadd, 1) := by decide +kernel
theorem dX11_readsDays_7 : decode cX11_readsDays 7 = .ok (.putfield 167, 3) := by decide +kernel
theorem dX11_readsDays_10 : decode cX11_readsDays 10 = .ok (.iconst 0, 1) := by decide +kernel
theorem dX11_readsDays_11 : decode cX11_readsDays 11 = .ok (.istore_n 1, 1) := by decide +kernel
theorem dX11_readsDays_12 : decode cX11_readsDays 12 = .ok (.bipush 48, 2) := by decide +kernel
theorem dX11_readsDays_14 : decode cX11_readsDays 14 = .ok (.istore_n 2, 1) := by decide +kernel
theorem dX11_readsDays_15 : decode cX11_readsDays 15 = .ok (.aload_n 0, 1) := by decide +kernel
theorem dX11_readsDays_16 : decode cX11_readsDays 16 = .ok (.aload_n 0, 1) := by decide +kernel
theorem dX11_readsDays_17 : decode cX11_readsDays 17 = .ok (.getfield 167, 3) := by decide +kernel
theorem dX11_readsDays_20 : decode cX11_readsDays 20 = .ok (.invokevirtual 170, 3) := by decide +kernel
theorem dX11_readsDays_23 : decode cX11_readsDays 23 = .ok (.iload_n 2, 1) := by decide +kernel
theorem dX11_readsDays_24 : decode cX11_readsDays 24 = .ok (.bipush 54, 2) := by decide +kernel
theorem dX11_readsDays_26 : decode cX11_readsDays 26 = .ok (.invokestatic 121, 3) := by decide +kernel
theorem dX11_readsDays_29 : decode cX11_readsDays 29 = .ok (.ifCond .eq 43, 3) := by decide +kernel
theorem dX11_readsDays_32 : decode cX11_readsDays 32 = .ok (.iload_n 1, 1) := by decide +kernel
theorem dX11_readsDays_33 : decode cX11_readsDays 33 = .ok (.iconst 1, 1) := by decide +kernel
theorem dX11_readsDays_34 : decode cX11_readsDays 34 = .ok (.aload_n 0, 1) := by decide +kernel
theorem dX11_readsDays_35 : decode cX11_readsDays 35 = .ok (.aload_n 0, 1) := by decide +kernel
theorem dX11_readsDays_36 : decode cX11_readsDays 36 = .ok (.getfield 167, 3) := by decide +kernel
theorem dX11_readsDays_39 : decode cX11_readsDays 39 = .ok (.invokevirtual 170, 3) := by decide +kernel
theorem dX11_readsDays_42 : decode cX11_readsDays 42 = .ok (.bipush 48, 2) := by decide +kernel
theorem dX11_readsDays_44 : decode cX11_readsDays 44 = .ok (.isub, 1) := by decide +kernel
theorem dX11_readsDays_45 : decode cX11_readsDays 45 = .ok (.ishl, 1) := by decide +kernel
theorem dX11_readsDays_46 : decode cX11_readsDays 46 = .ok (.ior, 1) := by decide +kernel
theorem dX11_readsDays_47 : decode cX11_readsDays 47 = .ok (.istore_n 1, 1) := by decide +kernel
theorem dX11_readsDays_48 : decode cX11_readsDays 48 = .ok (.aload_n 0, 1) := by decide +kernel
theorem dX11_readsDays_49 : decode cX11_readsDays 49 = .ok (.aload_n 0, 1) := by decide +kernel
theorem dX11_readsDays_50 : decode cX11_readsDays 50 = .ok (.getfield 167, 3) := by decide +kernel
theorem dX11_readsDays_53 : decode cX11_readsDays 53 = .ok (.invokevirtual 170, 3) := by decide +kernel
theorem dX11_readsDays_56 : decode cX11_readsDays 56 = .ok (.iconst 1, 1) := by decide +kernel
theorem dX11_readsDays_57 : decode cX11_readsDays 57 = .ok (.iadd, 1) := by decide +kernel
theorem dX11_readsDays_58 : decode cX11_readsDays 58 = .ok (.istore_n 2, 1) := by decide +kernel
theorem dX11_readsDays_59 : decode cX11_readsDays 59 = .ok (.aload_n 0, 1) := by decide +kernel
theorem dX11_readsDays_60 : decode cX11_readsDays 60 = .ok (.dup, 1) := by decide +kernel
theorem dX11_readsDays_61 : decode cX11_readsDays 61 = .ok (.getfield 167, 3) := by decide +kernel
theorem dX11_readsDays_64 : decode cX11_readsDays 64 = .ok (.iconst 1, 1) := by decide +kernel
theorem dX11_readsDays_65 : decode cX11_readsDays 65 = .ok (.iadd, 1) := by decide +kernel
theorem dX11_readsDays_66 : decode cX11_readsDays 66 = .ok (.putfield 167, 3) := by decide +kernel
theorem dX11_readsDays_69 : decode cX11_readsDays 69 = .ok (.goto (-54), 3) := by decide +kernel
theorem dX11_readsDays_72 : decode cX11_readsDays 72 = .ok (.aload_n 0, 1) := by decide +kernel
theorem dX11_readsDays_73 : decode cX11_readsDays 73 = .ok (.getfield 98, 3) := by decide +kernel
theorem dX11_readsDays_76 : decode cX11_readsDays 76 = .ok (.aload_n 0, 1) := by decide +kernel
theorem dX11_readsDays_77 : decode cX11_readsDays 77 = .ok (.getfield 164, 3) := by decide +kernel
theorem dX11_readsDays_80 : decode cX11_readsDays 80 = .ok (.iload_n 1, 1) := by decide +kernel
theorem dX11_readsDays_81 : decode cX11_readsDays 81 = .ok (.iastore, 1) := by decide +kernel
theorem dX11_readsDays_82 : decode cX11_readsDays 82 = .ok (.iload_n 1, 1) := by decide +kernel
theorem dX11_readsDays_83 : decode cX11_readsDays 83 = .ok (.ifCond .eq 7, 3) := by decide +kernel
theorem dX11_readsDays_86 : decode cX11_readsDays 86 = .ok (.iconst 1, 1) := by decide +kernel
theorem dX11_readsDays_87 : decode cX11_readsDays 87 = .ok (.goto 4, 3) := by decide +kernel
theorem dX11_readsDays_90 : decode cX11_readsDays 90 = .ok (.iconst 0, 1) := by decide +kernel
theorem dX11_readsDays_91 : decode cX11_readsDays 91 = .ok (.ireturn, 1) := by decide +kernel
theorem dX11_newEdition_0 : decode cX11_newEdition 0 = .ok (.aload_n 0, 1) := by decide +kernel
theorem dX11_newEdition_1 : decode cX11_newEdition 1 = .ok (.iconst 0, 1) := by decide +kernel
theorem dX11_newEdition_2 : decode cX11_newEdition 2 = .ok (.putfield 164, 3) := by decide +kernel
theorem dX11_newEdition_5 : decode cX11_newEdition 5 = .ok (.aload_n 0, 1) := by decide +kernel
theorem dX11_newEdition_6 : decode cX11_newEdition 6 = .ok (.iconst 0, 1) := by decide +kernel
theorem dX11_newEdition_7 : decode cX11_newEdition 7 = .ok (.putfield 167, 3) := by decide +kernel
theorem dX11_newEdition_10 : decode cX11_newEdition 10 = .ok (.iconst 1, 1) := by decide +kernel
theorem dX11_newEdition_11 : decode cX11_newEdition 11 = .ok (.istore_n 1, 1) := by decide +kernel
theorem dX11_newEdition_12 : decode cX11_newEdition 12 = .ok (.iload_n 1, 1) := by decide +kernel
theorem dX11_newEdition_13 : decode cX11_newEdition 13 = .ok (.ifCond .eq 29, 3) := by decide +kernel
theorem dX11_newEdition_16 : decode cX11_newEdition 16 = .ok (.aload_n 0, 1) := by decide +kernel
theorem dX11_newEdition_17 : decode cX11_newEdition 17 = .ok (.getfield 164, 3) := by decide +kernel
theorem dX11_newEdition_20 : decode cX11_newEdition 20 = .ok (.ifCond .eq 14, 3) := by decide +kernel
theorem dX11_newEdition_23 : decode cX11_newEdition 23 = .ok (.aload_n 0, 1) := by decide +kernel
theorem dX11_newEdition_24 : decode cX11_newEdition 24 = .ok (.getfield 167, 3) := by decide +kernel
theorem dX11_newEdition_27 : decode cX11_newEdition 27 = .ok (.aload_n 0, 1) := by decide +kernel
theorem dX11_newEdition_28 : decode cX11_newEdition 28 = .ok (.getfield 159, 3) := by decide +kernel
theorem dX11_newEdition_31 : decode cX11_newEdition 31 = .ok (.if_icmp .ge 11, 3) := by decide +kernel
theorem dX11_newEdition_34 : decode cX11_newEdition 34 = .ok (.aload_n 0, 1) := by decide +kernel
theorem dX11_newEdition_35 : decode cX11_newEdition 35 = .ok (.invokevirtual 180, 3) := by decide +kernel
theorem dX11_newEdition_38 : decode cX11_newEdition 38 = .ok (.istore_n 1, 1) := by decide +kernel
theorem dX11_newEdition_39 : decode cX11_newEdition 39 = .ok (.goto (-27), 3) := by decide +kernel
theorem dX11_newEdition_42 : decode cX11_newEdition 42 = .ok (.iload_n 1, 1) := by decide +kernel
theorem dX11_newEdition_43 : decode cX11_newEdition 43 = .ok (.ifCond .ne 15, 3) := by decide +kernel
theorem dX11_newEdition_46 : decode cX11_newEdition 46 = .ok (.aload_n 0, 1) := by decide +kernel
theorem dX11_newEdition_47 : decode cX11_newEdition 47 = .ok (.ldc 183, 2) := by decide +kernel
theorem dX11_newEdition_49 : decode cX11_newEdition 49 = .ok (.aload_n 0, 1) := by decide +kernel
theorem dX11_newEdition_50 : decode cX11_newEdition 50 = .ok (.getfield 167, 3) := by decide +kernel
theorem dX11_newEdition_53 : decode cX11_newEdition 53 = .ok (.isub, 1) := by decide +kernel
theorem dX11_newEdition_54 : decode cX11_newEdition 54 = .ok (.invokevirtual 132, 3) := by decide +kernel
theorem dX11_newEdition_57 : decode cX11_newEdition 57 = .ok (.ireturn, 1) := by decide +kernel
theorem dX11_newEdition_58 : decode cX11_newEdition 58 = .ok (.aload_n 0, 1) := by decide +kernel
theorem dX11_newEdition_59 : decode cX11_newEdition 59 = .ok (.getfield 184, 3) := by decide +kernel
theorem dX11_newEdition_62 : decode cX11_newEdition 62 = .ok (.iconst 4, 1) := by decide +kernel
theorem dX11_newEdition_63 : decode cX11_newEdition 63 = .ok (.if_icmp .ne 10, 3) := by decide +kernel
theorem dX11_newEdition_66 : decode cX11_newEdition 66 = .ok (.aload_n 0, 1) := by decide +kernel
theorem dX11_newEdition_67 : decode cX11_newEdition 67 = .ok (.ldc 136, 2) := by decide +kernel
theorem dX11_newEdition_69 : decode cX11_newEdition 69 = .ok (.invokevirtual 132, 3) := by decide +kernel
theorem dX11_newEdition_72 : decode cX11_newEdition 72 = .ok (.ireturn, 1) := by decide +kernel
theorem dX11_newEdition_73 : decode cX11_newEdition 73 = .ok (.aload_n 0, 1) := by decide +kernel
theorem dX11_newEdition_74 : decode cX11_newEdition 74 = .ok (.getfield 32, 3) := by decide +kernel
theorem dX11_newEdition_77 : decode cX11_newEdition 77 = .ok (.aload_n 0, 1) := by decide +kernel
theorem dX11_newEdition_78 : decode cX11_newEdition 78 = .ok (.getfield 184, 3) := by decide +kernel
theorem dX11_newEdition_81 : decode cX11_newEdition 81 = .ok (.aload_n 0, 1) := by decide +kernel
theorem dX11_newEdition_82 : decode cX11_newEdition 82 = .ok (.getfield 164, 3) := by decide +kernel
theorem dX11_newEdition_85 : decode cX11_newEdition 85 = .ok (.iastore, 1) := by decide +kernel
theorem dX11_newEdition_86 : decode cX11_newEdition 86 = .ok (.iconst 0, 1) := by decide +kernel
theorem dX11_newEdition_87 : decode cX11_newEdition 87 = .ok (.istore_n 2, 1) := by decide +kernel
theorem dX11_newEdition_88 : decode cX11_newEdition 88 = .ok (.iload_n 2, 1) := by decide +kernel
theorem dX11_newEdition_89 : decode cX11_newEdition 89 = .ok (.aload_n 0, 1) := by decide +kernel
theorem dX11_newEdition_90 : decode cX11_newEdition 90 = .ok (.getfield 164, 3) := by decide +kernel
theorem dX11_newEdition_93 : decode cX11_newEdition 93 = .ok (.if_icmp .ge 79, 3) := by decide +kernel
theorem dX11_newEdition_96 : decode cX11_newEdition 96 = .ok (.bipush 12, 2) := by decide +kernel
theorem dX11_newEdition_98 : decode cX11_newEdition 98 = .ok (.aload_n 0, 1) := by decide +kernel
theorem dX11_newEdition_99 : decode cX11_newEdition 99 = .ok (.getfield 184, 3) := by decide +kernel
theorem dX11_newEdition_102 : decode cX11_newEdition 102 = .ok (.imul, 1) := by decide +kernel
theorem dX11_newEdition_103 : decode cX11_newEdition 103 = .ok (.iload_n 2, 1) := by decide +kernel
theorem dX11_newEdition_104 : decode cX11_newEdition 104 = .ok (.iadd, 1) := by decide +kernel
theorem dX11_newEdition_105 : decode cX11_newEdition 105 = .ok (.istore_n 3, 1) := by decide +kernel
theorem dX11_newEdition_106 : decode cX11_newEdition 106 = .ok (.aload_n 0, 1) := by decide +kernel
theorem dX11_newEdition_107 : decode cX11_newEdition 107 = .ok (.getfield 35, 3) := by decide +kernel
theorem dX11_newEdition_110 : decode cX11_newEdition 110 = .ok (.iload_n 3, 1) := by decide +kernel
theorem dX11_newEdition_111 : decode cX11_newEdition 111 = .ok (.aload_n 0, 1) := by decide +kernel
theorem dX11_newEdition_112 : decode cX11_newEdition 112 = .ok (.getfield 86, 3) := by decide +kernel
theorem dX11_newEdition_115 : decode cX11_newEdition 115 = .ok (.iload_n 2, 1) := by decide +kernel
theorem dX11_newEdition_116 : decode cX11_newEdition 116 = .ok (.iaload, 1) := by decide +kernel
theorem dX11_newEdition_117 : decode cX11_newEdition 117 = .ok (.iastore, 1) := by decide +kernel
theorem dX11_newEdition_118 : decode cX11_newEdition 118 = .ok (.aload_n 0, 1) := by decide +kernel
theorem dX11_newEdition_119 : decode cX11_newEdition 119 = .ok (.getfield 38, 3) := by decide +kernel
theorem dX11_newEdition_122 : decode cX11_newEdition 122 = .ok (.iload_n 3, 1) := by decide +kernel
theorem dX11_newEdition_123 : decode cX11_newEdition 123 = .ok (.aload_n 0, 1) := by decide +kernel
theorem dX11_newEdition_124 : decode cX11_newEdition 124 = .ok (.getfield 89, 3) := by decide +kernel
theorem dX11_newEdition_127 : decode cX11_newEdition 127 = .ok (.iload_n 2, 1) := by decide +kernel
theorem dX11_newEdition_128 : decode cX11_newEdition 128 = .ok (.iaload, 1) := by decide +kernel
theorem dX11_newEdition_129 : decode cX11_newEdition 129 = .ok (.iastore, 1) := by decide +kernel
theorem dX11_newEdition_130 : decode cX11_newEdition 130 = .ok (.aload_n 0, 1) := by decide +kernel
theorem dX11_newEdition_131 : decode cX11_newEdition 131 = .ok (.getfield 41, 3) := by decide +kernel
theorem dX11_newEdition_134 : decode cX11_newEdition 134 = .ok (.iload_n 3, 1) := by decide +kernel
theorem dX11_newEdition_135 : decode cX11_newEdition 135 = .ok (.aload_n 0, 1) := by decide +kernel
theorem dX11_newEdition_136 : decode cX11_newEdition 136 = .ok (.getfield 92, 3) := by decide +kernel
theorem dX11_newEdition_139 : decode cX11_newEdition 139 = .ok (.iload_n 2, 1) := by decide +kernel
theorem dX11_newEdition_140 : decode cX11_newEdition 140 = .ok (.iaload, 1) := by decide +kernel
theorem dX11_newEdition_141 : decode cX11_newEdition 141 = .ok (.iastore, 1) := by decide +kernel
theorem dX11_newEdition_142 : decode cX11_newEdition 142 = .ok (.aload_n 0, 1) := by decide +kernel
theorem dX11_newEdition_143 : decode cX11_newEdition 143 = .ok (.getfield 44, 3) := by decide +kernel
theorem dX11_newEdition_146 : decode cX11_newEdition 146 = .ok (.iload_n 3, 1) := by decide +kernel
theorem dX11_newEdition_147 : decode cX11_newEdition 147 = .ok (.aload_n 0, 1) := by decide +kernel
theorem dX11_newEdition_148 : decode cX11_newEdition 148 = .ok (.getfield 95, 3) := by decide +kernel
theorem dX11_newEdition_151 : decode cX11_newEdition 151 = .ok (.iload_n 2, 1) := by decide +kernel
theorem dX11_newEdition_152 : decode cX11_newEdition 152 = .ok (.iaload, 1) := by decide +kernel
theorem dX11_newEdition_153 : decode cX11_newEdition 153 = .ok (.iastore, 1) := by decide +kernel
theorem dX11_newEdition_154 : decode cX11_newEdition 154 = .ok (.aload_n 0, 1) := by decide +kernel
theorem dX11_newEdition_155 : decode cX11_newEdition 155 = .ok (.getfield 47, 3) := by decide +kernel
theorem dX11_newEdition_158 : decode cX11_newEdition 158 = .ok (.iload_n 3, 1) := by decide +kernel
theorem dX11_newEdition_159 : decode cX11_newEdition 159 = .ok (.aload_n 0, 1) := by decide +kernel
theorem dX11_newEdition_160 : decode cX11_newEdition 160 = .ok (.getfield 98, 3) := by decide +kernel
theorem dX11_newEdition_163 : decode cX11_newEdition 163 = .ok (.iload_n 2, 1) := by decide +kernel
theorem dX11_newEdition_164 : decode cX11_newEdition 164 = .ok (.iaload, 1) := by decide +kernel
theorem dX11_newEdition_165 : decode cX11_newEdition 165 = .ok (.iastore, 1) := by decide +kernel
theorem dX11_newEdition_166 : decode cX11_newEdition 166 = .ok (.iinc 2 1, 3) := by decide +kernel
theorem dX11_newEdition_169 : decode cX11_newEdition 169 = .ok (.goto (-81), 3) := by decide +kernel
theorem dX11_newEdition_172 : decode cX11_newEdition 172 = .ok (.aload_n 0, 1) := by decide +kernel
theorem dX11_newEdition_173 : decode cX11_newEdition 173 = .ok (.dup, 1) := by decide +kernel
theorem dX11_newEdition_174 : decode cX11_newEdition 174 = .ok (.getfield 184, 3) := by decide +kernel
theorem dX11_newEdition_177 : decode cX11_newEdition 177 = .ok (.iconst 1, 1) := by decide +kernel
theorem dX11_newEdition_178 : decode cX11_newEdition 178 = .ok (.iadd, 1) := by decide +kernel
theorem dX11_newEdition_179 : decode cX11_newEdition 179 = .ok (.putfield 184, 3) := by decide +kernel
theorem dX11_newEdition_182 : decode cX11_newEdition 182 = .ok (.aload_n 0, 1) := by decide +kernel
theorem dX11_newEdition_183 : decode cX11_newEdition 183 = .ok (.getfield 184, 3) := by decide +kernel
theorem dX11_newEdition_186 : decode cX11_newEdition 186 = .ok (.iconst 1, 1) := by decide +kernel
theorem dX11_newEdition_187 : decode cX11_newEdition 187 = .ok (.isub, 1) := by decide +kernel
theorem dX11_newEdition_188 : decode cX11_newEdition 188 = .ok (.ireturn, 1) := by decide +kernel
theorem dX11_story_0 : decode cX11_story 0 = .ok (.aload_n 0, 1) := by decide +kernel
theorem dX11_story_1 : decode cX11_story 1 = .ok (.invokevirtual 187, 3) := by decide +kernel
theorem dX11_story_4 : decode cX11_story 4 = .ok (.istore_n 1, 1) := by decide +kernel
theorem dX11_story_5 : decode cX11_story 5 = .ok (.aload_n 0, 1) := by decide +kernel
theorem dX11_story_6 : decode cX11_story 6 = .ok (.iconst 0, 1) := by decide +kernel
theorem dX11_story_7 : decode cX11_story 7 = .ok (.putfield 159, 3) := by decide +kernel
theorem dX11_story_10 : decode cX11_story 10 = .ok (.iload_n 1, 1) := by decide +kernel
theorem dX11_story_11 : decode cX11_story 11 = .ok (.ireturn, 1) := by decide +kernel
theorem dX11_isEdition_0 : decode cX11_isEdition 0 = .ok (.iload_n 1, 1) := by decide +kernel
theorem dX11_isEdition_1 : decode cX11_isEdition 1 = .ok (.iconst 0, 1) := by decide +kernel
theorem dX11_isEdition_2 : decode cX11_isEdition 2 = .ok (.aload_n 0, 1) := by decide +kernel
theorem dX11_isEdition_3 : decode cX11_isEdition 3 = .ok (.getfield 184, 3) := by decide +kernel
theorem dX11_isEdition_6 : decode cX11_isEdition 6 = .ok (.iconst 1, 1) := by decide +kernel
theorem dX11_isEdition_7 : decode cX11_isEdition 7 = .ok (.isub, 1) := by decide +kernel
theorem dX11_isEdition_8 : decode cX11_isEdition 8 = .ok (.invokestatic 121, 3) := by decide +kernel
theorem dX11_isEdition_11 : decode cX11_isEdition 11 = .ok (.ireturn, 1) := by decide +kernel
theorem dX11_isPiece_0 : decode cX11_isPiece 0 = .ok (.aload_n 0, 1) := by decide +kernel
theorem dX11_isPiece_1 : decode cX11_isPiece 1 = .ok (.iload_n 1, 1) := by decide +kernel
theorem dX11_isPiece_2 : decode cX11_isPiece 2 = .ok (.invokevirtual 191, 3) := by decide +kernel
theorem dX11_isPiece_5 : decode cX11_isPiece 5 = .ok (.ifCond .eq 23, 3) := by decide +kernel
theorem dX11_isPiece_8 : decode cX11_isPiece 8 = .ok (.iload_n 2, 1) := by decide +kernel
theorem dX11_isPiece_9 : decode cX11_isPiece 9 = .ok (.iconst 0, 1) := by decide +kernel
theorem dX11_isPiece_10 : decode cX11_isPiece 10 = .ok (.aload_n 0, 1) := by decide +kernel
theorem dX11_isPiece_11 : decode cX11_isPiece 11 = .ok (.getfield 32, 3) := by decide +kernel
theorem dX11_isPiece_14 : decode cX11_isPiece 14 = .ok (.iload_n 1, 1) := by decide +kernel
theorem dX11_isPiece_15 : decode cX11_isPiece 15 = .ok (.iaload, 1) := by decide +kernel
theorem dX11_isPiece_16 : decode cX11_isPiece 16 = .ok (.iconst 1, 1) := by decide +kernel
theorem dX11_isPiece_17 : decode cX11_isPiece 17 = .ok (.isub, 1) := by decide +kernel
theorem dX11_isPiece_18 : decode cX11_isPiece 18 = .ok (.invokestatic 121, 3) := by decide +kernel
theorem dX11_isPiece_21 : decode cX11_isPiece 21 = .ok (.ifCond .eq 7, 3) := by decide +kernel
theorem dX11_isPiece_24 : decode cX11_isPiece 24 = .ok (.iconst 1, 1) := by decide +kernel
theorem dX11_isPiece_25 : decode cX11_isPiece 25 = .ok (.goto 4, 3) := by decide +kernel
theorem dX11_isPiece_28 : decode cX11_isPiece 28 = .ok (.iconst 0, 1) := by decide +kernel
theorem dX11_isPiece_29 : decode cX11_isPiece 29 = .ok (.ireturn, 1) := by decide +kernel
theorem dX11_as_0 : decode cX11_as 0 = .ok (.aload_n 0, 1) := by decide +kernel
theorem dX11_as_1 : decode cX11_as 1 = .ok (.iload_n 1, 1) := by decide +kernel
theorem dX11_as_2 : decode cX11_as 2 = .ok (.iload_n 2, 1) := by decide +kernel
theorem dX11_as_3 : decode cX11_as 3 = .ok (.invokevirtual 194, 3) := by decide +kernel
theorem dX11_as_6 : decode cX11_as 6 = .ok (.ifCond .eq 12, 3) := by decide +kernel
theorem dX11_as_9 : decode cX11_as 9 = .ok (.iload_n 3, 1) := by decide +kernel
theorem dX11_as_10 : decode cX11_as 10 = .ok (.iconst 0, 1) := by decide +kernel
theorem dX11_as_11 : decode cX11_as 11 = .ok (.iconst 3, 1) := by decide +kernel
theorem dX11_as_12 : decode cX11_as 12 = .ok (.invokestatic 121, 3) := by decide +kernel
theorem dX11_as_15 : decode cX11_as 15 = .ok (.ifCond .ne 10, 3) := by decide +kernel
theorem dX11_as_18 : decode cX11_as 18 = .ok (.aload_n 0, 1) := by decide +kernel
theorem dX11_as_19 : decode cX11_as 19 = .ok (.ldc 131, 2) := by decide +kernel
theorem dX11_as_21 : decode cX11_as 21 = .ok (.invokevirtual 132, 3) := by decide +kernel
theorem dX11_as_24 : decode cX11_as 24 = .ok (.ireturn, 1) := by decide +kernel
theorem dX11_as_25 : decode cX11_as 25 = .ok (.aload_n 0, 1) := by decide +kernel
theorem dX11_as_26 : decode cX11_as 26 = .ok (.getfield 35, 3) := by decide +kernel
theorem dX11_as_29 : decode cX11_as 29 = .ok (.bipush 12, 2) := by decide +kernel
theorem dX11_as_31 : decode cX11_as 31 = .ok (.iload_n 1, 1) := by decide +kernel
theorem dX11_as_32 : decode cX11_as 32 = .ok (.imul, 1) := by decide +kernel
theorem dX11_as_33 : decode cX11_as 33 = .ok (.iload_n 2, 1) := by decide +kernel
theorem dX11_as_34 : decode cX11_as 34 = .ok (.iadd, 1) := by decide +kernel
theorem dX11_as_35 : decode cX11_as 35 = .ok (.iaload, 1) := by decide +kernel
theorem dX11_as_36 : decode cX11_as 36 = .ok (.istore 4, 2) := by decide +kernel
theorem dX11_as_38 : decode cX11_as 38 = .ok (.iload_n 3, 1) := by decide +kernel
theorem dX11_as_39 : decode cX11_as 39 = .ok (.ifCond .eq 20, 3) := by decide +kernel
theorem dX11_as_42 : decode cX11_as 42 = .ok (.iload 4, 2) := by decide +kernel
theorem dX11_as_44 : decode cX11_as 44 = .ok (.iload_n 3, 1) := by decide +kernel
theorem dX11_as_45 : decode cX11_as 45 = .ok (.if_icmp .eq 14, 3) := by decide +kernel
theorem dX11_as_48 : decode cX11_as 48 = .ok (.iload_n 3, 1) := by decide +kernel
theorem dX11_as_49 : decode cX11_as 49 = .ok (.iconst 2, 1) := by decide +kernel
theorem dX11_as_50 : decode cX11_as 50 = .ok (.if_icmp .ne 13, 3) := by decide +kernel
theorem dX11_as_53 : decode cX11_as 53 = .ok (.iload 4, 2) := by decide +kernel
theorem dX11_as_55 : decode cX11_as 55 = .ok (.iconst 3, 1) := by decide +kernel
theorem dX11_as_56 : decode cX11_as 56 = .ok (.if_icmp .ne 7, 3) := by decide +kernel
theorem dX11_as_59 : decode cX11_as 59 = .ok (.iload_n 2, 1) := by decide +kernel
theorem dX11_as_60 : decode cX11_as 60 = .ok (.goto 9, 3) := by decide +kernel
theorem dX11_as_63 : decode cX11_as 63 = .ok (.aload_n 0, 1) := by decide +kernel
theorem dX11_as_64 : decode cX11_as 64 = .ok (.ldc 198, 2) := by decide +kernel
theorem dX11_as_66 : decode cX11_as 66 = .ok (.invokevirtual 132, 3) := by decide +kernel
theorem dX11_as_69 : decode cX11_as 69 = .ok (.ireturn, 1) := by decide +kernel
theorem dX11_of_0 : decode cX11_of 0 = .ok (.aload_n 0, 1) := by decide +kernel
theorem dX11_of_1 : decode cX11_of 1 = .ok (.iload_n 1, 1) := by decide +kernel
theorem dX11_of_2 : decode cX11_of 2 = .ok (.iload_n 2, 1) := by decide +kernel
theorem dX11_of_3 : decode cX11_of 3 = .ok (.invokevirtual 194, 3) := by decide +kernel
theorem dX11_of_6 : decode cX11_of 6 = .ok (.ifCond .ne 10, 3) := by decide +kernel
theorem dX11_of_9 : decode cX11_of 9 = .ok (.aload_n 0, 1) := by decide +kernel
theorem dX11_of_10 : decode cX11_of 10 = .ok (.ldc 131, 2) := by decide +kernel
theorem dX11_of_12 : decode cX11_of 12 = .ok (.invokevirtual 132, 3) := by decide +kernel
theorem dX11_of_15 : decode cX11_of 15 = .ok (.ireturn, 1) := by decide +kernel
theorem dX11_of_16 : decode cX11_of 16 = .ok (.bipush 12, 2) := by decide +kernel
theorem dX11_of_18 : decode cX11_of 18 = .ok (.iload_n 1, 1) := by decide +kernel
theorem dX11_of_19 : decode cX11_of 19 = .ok (.imul, 1) := by decide +kernel
theorem dX11_of_20 : decode cX11_of 20 = .ok (.iload_n 2, 1) := by decide +kernel
theorem dX11_of_21 : decode cX11_of 21 = .ok (.iadd, 1) := by decide +kernel
theorem dX11_of_22 : decode cX11_of 22 = .ok (.istore 4, 2) := by decide +kernel
theorem dX11_of_24 : decode cX11_of 24 = .ok (.iload_n 3, 1) := by decide +kernel
theorem dX11_of_25 : decode cX11_of 25 = .ok (.tableswitch 75 0 4 #[35, 43, 51, 59, 67], 35) := by decide +kernel
theorem dX11_of_60 : decode cX11_of 60 = .ok (.aload_n 0, 1) := by decide +kernel
theorem dX11_of_61 : decode cX11_of 61 = .ok (.getfield 35, 3) := by decide +kernel
end
section
theorem dX11_of_64 : decode cX11_of 64 = .ok (.iload 4, 2) := by decide +kernel
theorem dX11_of_66 : decode cX11_of 66 = .ok (.iaload, 1) := by decide +kernel
theorem dX11_of_67 : decode cX11_of 67 = .ok (.ireturn, 1) := by decide +kernel
theorem dX11_of_68 : decode cX11_of 68 = .ok (.aload_n 0, 1) := by decide +kernel
theorem dX11_of_69 : decode cX11_of 69 = .ok (.getfield 38, 3) := by decide +kernel
theorem dX11_of_72 : decode cX11_of 72 = .ok (.iload 4, 2) := by decide +kernel
theorem dX11_of_74 : decode cX11_of 74 = .ok (.iaload, 1) := by decide +kernel
theorem dX11_of_75 : decode cX11_of 75 = .ok (.ireturn, 1) := by decide +kernel
theorem dX11_of_76 : decode cX11_of 76 = .ok (.aload_n 0, 1) := by decide +kernel
theorem dX11_of_77 : decode cX11_of 77 = .ok (.getfield 41, 3) := by decide +kernel
theorem dX11_of_80 : decode cX11_of 80 = .ok (.iload 4, 2) := by decide +kernel
theorem dX11_of_82 : decode cX11_of 82 = .ok (.iaload, 1) := by decide +kernel
theorem dX11_of_83 : decode cX11_of 83 = .ok (.ireturn, 1) := by decide +kernel
theorem dX11_of_84 : decode cX11_of 84 = .ok (.aload_n 0, 1) := by decide +kernel
theorem dX11_of_85 : decode cX11_of 85 = .ok (.getfield 44, 3) := by decide +kernel
theorem dX11_of_88 : decode cX11_of 88 = .ok (.iload 4, 2) := by decide +kernel
theorem dX11_of_90 : decode cX11_of 90 = .ok (.iaload, 1) := by decide +kernel
theorem dX11_of_91 : decode cX11_of 91 = .ok (.ireturn, 1) := by decide +kernel
theorem dX11_of_92 : decode cX11_of 92 = .ok (.aload_n 0, 1) := by decide +kernel
theorem dX11_of_93 : decode cX11_of 93 = .ok (.getfield 47, 3) := by decide +kernel
theorem dX11_of_96 : decode cX11_of 96 = .ok (.iload 4, 2) := by decide +kernel
theorem dX11_of_98 : decode cX11_of 98 = .ok (.iaload, 1) := by decide +kernel
theorem dX11_of_99 : decode cX11_of 99 = .ok (.ireturn, 1) := by decide +kernel
theorem dX11_of_100 : decode cX11_of 100 = .ok (.aload_n 0, 1) := by decide +kernel
theorem dX11_of_101 : decode cX11_of 101 = .ok (.ldc 131, 2) := by decide +kernel
theorem dX11_of_103 : decode cX11_of 103 = .ok (.invokevirtual 132, 3) := by decide +kernel
theorem dX11_of_106 : decode cX11_of 106 = .ok (.ireturn, 1) := by decide +kernel
theorem dX11_canTell_0 : decode cX11_canTell 0 = .ok (.bipush 12, 2) := by decide +kernel
theorem dX11_canTell_2 : decode cX11_canTell 2 = .ok (.iload_n 1, 1) := by decide +kernel
theorem dX11_canTell_3 : decode cX11_canTell 3 = .ok (.imul, 1) := by decide +kernel
theorem dX11_canTell_4 : decode cX11_canTell 4 = .ok (.iload_n 2, 1) := by decide +kernel
theorem dX11_canTell_5 : decode cX11_canTell 5 = .ok (.iadd, 1) := by decide +kernel
theorem dX11_canTell_6 : decode cX11_canTell 6 = .ok (.istore 6, 2) := by decide +kernel
theorem dX11_canTell_8 : decode cX11_canTell 8 = .ok (.aload_n 0, 1) := by decide +kernel
theorem dX11_canTell_9 : decode cX11_canTell 9 = .ok (.getfield 35, 3) := by decide +kernel
theorem dX11_canTell_12 : decode cX11_canTell 12 = .ok (.iload 6, 2) := by decide +kernel
theorem dX11_canTell_14 : decode cX11_canTell 14 = .ok (.iaload, 1) := by decide +kernel
theorem dX11_canTell_15 : decode cX11_canTell 15 = .ok (.iconst 2, 1) := by decide +kernel
theorem dX11_canTell_16 : decode cX11_canTell 16 = .ok (.if_icmp .ge 26, 3) := by decide +kernel
theorem dX11_canTell_19 : decode cX11_canTell 19 = .ok (.aload_n 0, 1) := by decide +kernel
theorem dX11_canTell_20 : decode cX11_canTell 20 = .ok (.getfield 44, 3) := by decide +kernel
theorem dX11_canTell_23 : decode cX11_canTell 23 = .ok (.iload 6, 2) := by decide +kernel
theorem dX11_canTell_25 : decode cX11_canTell 25 = .ok (.iaload, 1) := by decide +kernel
theorem dX11_canTell_26 : decode cX11_canTell 26 = .ok (.iload 4, 2) := by decide +kernel
theorem dX11_canTell_28 : decode cX11_canTell 28 = .ok (.iconst (-1), 1) := by decide +kernel
theorem dX11_canTell_29 : decode cX11_canTell 29 = .ok (.ixor, 1) := by decide +kernel
theorem dX11_canTell_30 : decode cX11_canTell 30 = .ok (.iand, 1) := by decide +kernel
theorem dX11_canTell_31 : decode cX11_canTell 31 = .ok (.ifCond .ne 7, 3) := by decide +kernel
theorem dX11_canTell_34 : decode cX11_canTell 34 = .ok (.iconst 1, 1) := by decide +kernel
theorem dX11_canTell_35 : decode cX11_canTell 35 = .ok (.goto 35, 3) := by decide +kernel
theorem dX11_canTell_38 : decode cX11_canTell 38 = .ok (.iconst 0, 1) := by decide +kernel
theorem dX11_canTell_39 : decode cX11_canTell 39 = .ok (.goto 31, 3) := by decide +kernel
theorem dX11_canTell_42 : decode cX11_canTell 42 = .ok (.aload_n 0, 1) := by decide +kernel
theorem dX11_canTell_43 : decode cX11_canTell 43 = .ok (.getfield 44, 3) := by decide +kernel
theorem dX11_canTell_46 : decode cX11_canTell 46 = .ok (.iload 6, 2) := by decide +kernel
theorem dX11_canTell_48 : decode cX11_canTell 48 = .ok (.iaload, 1) := by decide +kernel
theorem dX11_canTell_49 : decode cX11_canTell 49 = .ok (.ifCond .eq 16, 3) := by decide +kernel
theorem dX11_canTell_52 : decode cX11_canTell 52 = .ok (.aload_n 0, 1) := by decide +kernel
theorem dX11_canTell_53 : decode cX11_canTell 53 = .ok (.getfield 44, 3) := by decide +kernel
theorem dX11_canTell_56 : decode cX11_canTell 56 = .ok (.iload 6, 2) := by decide +kernel
theorem dX11_canTell_58 : decode cX11_canTell 58 = .ok (.iaload, 1) := by decide +kernel
theorem dX11_canTell_59 : decode cX11_canTell 59 = .ok (.iload 4, 2) := by decide +kernel
theorem dX11_canTell_61 : decode cX11_canTell 61 = .ok (.iand, 1) := by decide +kernel
theorem dX11_canTell_62 : decode cX11_canTell 62 = .ok (.ifCond .eq 7, 3) := by decide +kernel
theorem dX11_canTell_65 : decode cX11_canTell 65 = .ok (.iconst 1, 1) := by decide +kernel
theorem dX11_canTell_66 : decode cX11_canTell 66 = .ok (.goto 4, 3) := by decide +kernel
theorem dX11_canTell_69 : decode cX11_canTell 69 = .ok (.iconst 0, 1) := by decide +kernel
theorem dX11_canTell_70 : decode cX11_canTell 70 = .ok (.istore 7, 2) := by decide +kernel
theorem dX11_canTell_72 : decode cX11_canTell 72 = .ok (.aload_n 0, 1) := by decide +kernel
theorem dX11_canTell_73 : decode cX11_canTell 73 = .ok (.getfield 38, 3) := by decide +kernel
theorem dX11_canTell_76 : decode cX11_canTell 76 = .ok (.iload 6, 2) := by decide +kernel
theorem dX11_canTell_78 : decode cX11_canTell 78 = .ok (.iaload, 1) := by decide +kernel
theorem dX11_canTell_79 : decode cX11_canTell 79 = .ok (.iload_n 3, 1) := by decide +kernel
theorem dX11_canTell_80 : decode cX11_canTell 80 = .ok (.if_icmp .ne 37, 3) := by decide +kernel
theorem dX11_canTell_83 : decode cX11_canTell 83 = .ok (.iload 4, 2) := by decide +kernel
theorem dX11_canTell_85 : decode cX11_canTell 85 = .ok (.iload_n 2, 1) := by decide +kernel
theorem dX11_canTell_86 : decode cX11_canTell 86 = .ok (.ishr, 1) := by decide +kernel
theorem dX11_canTell_87 : decode cX11_canTell 87 = .ok (.iconst 1, 1) := by decide +kernel
theorem dX11_canTell_88 : decode cX11_canTell 88 = .ok (.iand, 1) := by decide +kernel
theorem dX11_canTell_89 : decode cX11_canTell 89 = .ok (.ifCond .ne 28, 3) := by decide +kernel
theorem dX11_canTell_92 : decode cX11_canTell 92 = .ok (.aload_n 0, 1) := by decide +kernel
theorem dX11_canTell_93 : decode cX11_canTell 93 = .ok (.getfield 47, 3) := by decide +kernel
theorem dX11_canTell_96 : decode cX11_canTell 96 = .ok (.iload 6, 2) := by decide +kernel
theorem dX11_canTell_98 : decode cX11_canTell 98 = .ok (.iaload, 1) := by decide +kernel
theorem dX11_canTell_99 : decode cX11_canTell 99 = .ok (.iload 5, 2) := by decide +kernel
theorem dX11_canTell_101 : decode cX11_canTell 101 = .ok (.ishr, 1) := by decide +kernel
theorem dX11_canTell_102 : decode cX11_canTell 102 = .ok (.iconst 1, 1) := by decide +kernel
theorem dX11_canTell_103 : decode cX11_canTell 103 = .ok (.iand, 1) := by decide +kernel
theorem dX11_canTell_104 : decode cX11_canTell 104 = .ok (.iconst 1, 1) := by decide +kernel
theorem dX11_canTell_105 : decode cX11_canTell 105 = .ok (.if_icmp .ne 12, 3) := by decide +kernel
theorem dX11_canTell_108 : decode cX11_canTell 108 = .ok (.iload 7, 2) := by decide +kernel
theorem dX11_canTell_110 : decode cX11_canTell 110 = .ok (.ifCond .eq 7, 3) := by decide +kernel
theorem dX11_canTell_113 : decode cX11_canTell 113 = .ok (.iconst 1, 1) := by decide +kernel
theorem dX11_canTell_114 : decode cX11_canTell 114 = .ok (.goto 4, 3) := by decide +kernel
theorem dX11_canTell_117 : decode cX11_canTell 117 = .ok (.iconst 0, 1) := by decide +kernel
theorem dX11_canTell_118 : decode cX11_canTell 118 = .ok (.ireturn, 1) := by decide +kernel
theorem dX11_manyCan_0 : decode cX11_manyCan 0 = .ok (.iconst 0, 1) := by decide +kernel
theorem dX11_manyCan_1 : decode cX11_manyCan 1 = .ok (.istore 5, 2) := by decide +kernel
theorem dX11_manyCan_3 : decode cX11_manyCan 3 = .ok (.iconst 0, 1) := by decide +kernel
theorem dX11_manyCan_4 : decode cX11_manyCan 4 = .ok (.istore 6, 2) := by decide +kernel
theorem dX11_manyCan_6 : decode cX11_manyCan 6 = .ok (.iload 6, 2) := by decide +kernel
theorem dX11_manyCan_8 : decode cX11_manyCan 8 = .ok (.aload_n 0, 1) := by decide +kernel
theorem dX11_manyCan_9 : decode cX11_manyCan 9 = .ok (.getfield 32, 3) := by decide +kernel
theorem dX11_manyCan_12 : decode cX11_manyCan 12 = .ok (.iload_n 1, 1) := by decide +kernel
theorem dX11_manyCan_13 : decode cX11_manyCan 13 = .ok (.iaload, 1) := by decide +kernel
theorem dX11_manyCan_14 : decode cX11_manyCan 14 = .ok (.if_icmp .ge 33, 3) := by decide +kernel
theorem dX11_manyCan_17 : decode cX11_manyCan 17 = .ok (.iload 5, 2) := by decide +kernel
theorem dX11_manyCan_19 : decode cX11_manyCan 19 = .ok (.aload_n 0, 1) := by decide +kernel
theorem dX11_manyCan_20 : decode cX11_manyCan 20 = .ok (.iload_n 1, 1) := by decide +kernel
theorem dX11_manyCan_21 : decode cX11_manyCan 21 = .ok (.iload 6, 2) := by decide +kernel
theorem dX11_manyCan_23 : decode cX11_manyCan 23 = .ok (.iload_n 2, 1) := by decide +kernel
theorem dX11_manyCan_24 : decode cX11_manyCan 24 = .ok (.iload_n 3, 1) := by decide +kernel
theorem dX11_manyCan_25 : decode cX11_manyCan 25 = .ok (.iload 4, 2) := by decide +kernel
theorem dX11_manyCan_27 : decode cX11_manyCan 27 = .ok (.invokevirtual 199, 3) := by decide +kernel
theorem dX11_manyCan_30 : decode cX11_manyCan 30 = .ok (.ifCond .eq 7, 3) := by decide +kernel
theorem dX11_manyCan_33 : decode cX11_manyCan 33 = .ok (.iconst 1, 1) := by decide +kernel
theorem dX11_manyCan_34 : decode cX11_manyCan 34 = .ok (.goto 4, 3) := by decide +kernel
theorem dX11_manyCan_37 : decode cX11_manyCan 37 = .ok (.iconst 0, 1) := by decide +kernel
theorem dX11_manyCan_38 : decode cX11_manyCan 38 = .ok (.iadd, 1) := by decide +kernel
theorem dX11_manyCan_39 : decode cX11_manyCan 39 = .ok (.istore 5, 2) := by decide +kernel
theorem dX11_manyCan_41 : decode cX11_manyCan 41 = .ok (.iinc 6 1, 3) := by decide +kernel
theorem dX11_manyCan_44 : decode cX11_manyCan 44 = .ok (.goto (-38), 3) := by decide +kernel
theorem dX11_manyCan_47 : decode cX11_manyCan 47 = .ok (.iload 5, 2) := by decide +kernel
theorem dX11_manyCan_49 : decode cX11_manyCan 49 = .ok (.ireturn, 1) := by decide +kernel
theorem dX11_nextPiece_0 : decode cX11_nextPiece 0 = .ok (.iconst 0, 1) := by decide +kernel
theorem dX11_nextPiece_1 : decode cX11_nextPiece 1 = .ok (.istore 5, 2) := by decide +kernel
theorem dX11_nextPiece_3 : decode cX11_nextPiece 3 = .ok (.iload 5, 2) := by decide +kernel
theorem dX11_nextPiece_5 : decode cX11_nextPiece 5 = .ok (.aload_n 0, 1) := by decide +kernel
theorem dX11_nextPiece_6 : decode cX11_nextPiece 6 = .ok (.getfield 32, 3) := by decide +kernel
theorem dX11_nextPiece_9 : decode cX11_nextPiece 9 = .ok (.iload_n 1, 1) := by decide +kernel
theorem dX11_nextPiece_10 : decode cX11_nextPiece 10 = .ok (.iaload, 1) := by decide +kernel
theorem dX11_nextPiece_11 : decode cX11_nextPiece 11 = .ok (.if_icmp .ge 26, 3) := by decide +kernel
theorem dX11_nextPiece_14 : decode cX11_nextPiece 14 = .ok (.aload_n 0, 1) := by decide +kernel
theorem dX11_nextPiece_15 : decode cX11_nextPiece 15 = .ok (.iload_n 1, 1) := by decide +kernel
theorem dX11_nextPiece_16 : decode cX11_nextPiece 16 = .ok (.iload 5, 2) := by decide +kernel
theorem dX11_nextPiece_18 : decode cX11_nextPiece 18 = .ok (.iload_n 2, 1) := by decide +kernel
theorem dX11_nextPiece_19 : decode cX11_nextPiece 19 = .ok (.iload_n 3, 1) := by decide +kernel
theorem dX11_nextPiece_20 : decode cX11_nextPiece 20 = .ok (.iload 4, 2) := by decide +kernel
theorem dX11_nextPiece_22 : decode cX11_nextPiece 22 = .ok (.invokevirtual 199, 3) := by decide +kernel
theorem dX11_nextPiece_25 : decode cX11_nextPiece 25 = .ok (.ifCond .eq 6, 3) := by decide +kernel
theorem dX11_nextPiece_28 : decode cX11_nextPiece 28 = .ok (.iload 5, 2) := by decide +kernel
theorem dX11_nextPiece_30 : decode cX11_nextPiece 30 = .ok (.ireturn, 1) := by decide +kernel
theorem dX11_nextPiece_31 : decode cX11_nextPiece 31 = .ok (.iinc 5 1, 3) := by decide +kernel
theorem dX11_nextPiece_34 : decode cX11_nextPiece 34 = .ok (.goto (-31), 3) := by decide +kernel
theorem dX11_nextPiece_37 : decode cX11_nextPiece 37 = .ok (.iconst (-1), 1) := by decide +kernel
theorem dX11_nextPiece_38 : decode cX11_nextPiece 38 = .ok (.ireturn, 1) := by decide +kernel
theorem dX11_isOver_0 : decode cX11_isOver 0 = .ok (.iconst 0, 1) := by decide +kernel
theorem dX11_isOver_1 : decode cX11_isOver 1 = .ok (.istore_n 3, 1) := by decide +kernel
theorem dX11_isOver_2 : decode cX11_isOver 2 = .ok (.iconst 0, 1) := by decide +kernel
theorem dX11_isOver_3 : decode cX11_isOver 3 = .ok (.istore 4, 2) := by decide +kernel
theorem dX11_isOver_5 : decode cX11_isOver 5 = .ok (.iload 4, 2) := by decide +kernel
theorem dX11_isOver_7 : decode cX11_isOver 7 = .ok (.aload_n 0, 1) := by decide +kernel
theorem dX11_isOver_8 : decode cX11_isOver 8 = .ok (.getfield 32, 3) := by decide +kernel
theorem dX11_isOver_11 : decode cX11_isOver 11 = .ok (.iload_n 1, 1) := by decide +kernel
theorem dX11_isOver_12 : decode cX11_isOver 12 = .ok (.iaload, 1) := by decide +kernel
theorem dX11_isOver_13 : decode cX11_isOver 13 = .ok (.if_icmp .ge 45, 3) := by decide +kernel
theorem dX11_isOver_16 : decode cX11_isOver 16 = .ok (.iload_n 3, 1) := by decide +kernel
theorem dX11_isOver_17 : decode cX11_isOver 17 = .ok (.ifCond .ne 29, 3) := by decide +kernel
theorem dX11_isOver_20 : decode cX11_isOver 20 = .ok (.aload_n 0, 1) := by decide +kernel
theorem dX11_isOver_21 : decode cX11_isOver 21 = .ok (.getfield 35, 3) := by decide +kernel
theorem dX11_isOver_24 : decode cX11_isOver 24 = .ok (.bipush 12, 2) := by decide +kernel
theorem dX11_isOver_26 : decode cX11_isOver 26 = .ok (.iload_n 1, 1) := by decide +kernel
theorem dX11_isOver_27 : decode cX11_isOver 27 = .ok (.imul, 1) := by decide +kernel
theorem dX11_isOver_28 : decode cX11_isOver 28 = .ok (.iload 4, 2) := by decide +kernel
theorem dX11_isOver_30 : decode cX11_isOver 30 = .ok (.iadd, 1) := by decide +kernel
theorem dX11_isOver_31 : decode cX11_isOver 31 = .ok (.iaload, 1) := by decide +kernel
theorem dX11_isOver_32 : decode cX11_isOver 32 = .ok (.iconst 3, 1) := by decide +kernel
theorem dX11_isOver_33 : decode cX11_isOver 33 = .ok (.if_icmp .ne 17, 3) := by decide +kernel
theorem dX11_isOver_36 : decode cX11_isOver 36 = .ok (.iload_n 2, 1) := by decide +kernel
theorem dX11_isOver_37 : decode cX11_isOver 37 = .ok (.iload 4, 2) := by decide +kernel
theorem dX11_isOver_39 : decode cX11_isOver 39 = .ok (.ishr, 1) := by decide +kernel
theorem dX11_isOver_40 : decode cX11_isOver 40 = .ok (.iconst 1, 1) := by decide +kernel
theorem dX11_isOver_41 : decode cX11_isOver 41 = .ok (.iand, 1) := by decide +kernel
theorem dX11_isOver_42 : decode cX11_isOver 42 = .ok (.iconst 1, 1) := by decide +kernel
theorem dX11_isOver_43 : decode cX11_isOver 43 = .ok (.if_icmp .ne 7, 3) := by decide +kernel
theorem dX11_isOver_46 : decode cX11_isOver 46 = .ok (.iconst 1, 1) := by decide +kernel
theorem dX11_isOver_47 : decode cX11_isOver 47 = .ok (.goto 4, 3) := by decide +kernel
theorem dX11_isOver_50 : decode cX11_isOver 50 = .ok (.iconst 0, 1) := by decide +kernel
theorem dX11_isOver_51 : decode cX11_isOver 51 = .ok (.istore_n 3, 1) := by decide +kernel
theorem dX11_isOver_52 : decode cX11_isOver 52 = .ok (.iinc 4 1, 3) := by decide +kernel
theorem dX11_isOver_55 : decode cX11_isOver 55 = .ok (.goto (-50), 3) := by decide +kernel
theorem dX11_isOver_58 : decode cX11_isOver 58 = .ok (.iload_n 3, 1) := by decide +kernel
theorem dX11_isOver_59 : decode cX11_isOver 59 = .ok (.ireturn, 1) := by decide +kernel
theorem dX11_momentOf_0 : decode cX11_momentOf 0 = .ok (.bipush 8, 2) := by decide +kernel
theorem dX11_momentOf_2 : decode cX11_momentOf 2 = .ok (.iload_n 1, 1) := by decide +kernel
theorem dX11_momentOf_3 : decode cX11_momentOf 3 = .ok (.imul, 1) := by decide +kernel
theorem dX11_momentOf_4 : decode cX11_momentOf 4 = .ok (.iload_n 0, 1) := by decide +kernel
theorem dX11_momentOf_5 : decode cX11_momentOf 5 = .ok (.iadd, 1) := by decide +kernel
theorem dX11_momentOf_6 : decode cX11_momentOf 6 = .ok (.ireturn, 1) := by decide +kernel
theorem dX11_findTimes_0 : decode cX11_findTimes 0 = .ok (.bipush 8, 2) := by decide +kernel
theorem dX11_findTimes_2 : decode cX11_findTimes 2 = .ok (.newarray .boolean, 2) := by decide +kernel
theorem dX11_findTimes_4 : decode cX11_findTimes 4 = .ok (.astore 4, 2) := by decide +kernel
theorem dX11_findTimes_6 : decode cX11_findTimes 6 = .ok (.iconst 1, 1) := by decide +kernel
theorem dX11_findTimes_7 : decode cX11_findTimes 7 = .ok (.aload_n 0, 1) := by decide +kernel
theorem dX11_findTimes_8 : decode cX11_findTimes 8 = .ok (.getfield 32, 3) := by decide +kernel
theorem dX11_findTimes_11 : decode cX11_findTimes 11 = .ok (.iload_n 1, 1) := by decide +kernel
theorem dX11_findTimes_12 : decode cX11_findTimes 12 = .ok (.iaload, 1) := by decide +kernel
theorem dX11_findTimes_13 : decode cX11_findTimes 13 = .ok (.ishl, 1) := by decide +kernel
theorem dX11_findTimes_14 : decode cX11_findTimes 14 = .ok (.iconst 1, 1) := by decide +kernel
theorem dX11_findTimes_15 : decode cX11_findTimes 15 = .ok (.isub, 1) := by decide +kernel
theorem dX11_findTimes_16 : decode cX11_findTimes 16 = .ok (.istore 5, 2) := by decide +kernel
theorem dX11_findTimes_18 : decode cX11_findTimes 18 = .ok (.iload 5, 2) := by decide +kernel
theorem dX11_findTimes_20 : decode cX11_findTimes 20 = .ok (.ifCond .lt 253, 3) := by decide +kernel
theorem dX11_findTimes_23 : decode cX11_findTimes 23 = .ok (.aload_n 0, 1) := by decide +kernel
theorem dX11_findTimes_24 : decode cX11_findTimes 24 = .ok (.iload_n 1, 1) := by decide +kernel
theorem dX11_findTimes_25 : decode cX11_findTimes 25 = .ok (.iload 5, 2) := by decide +kernel
theorem dX11_findTimes_27 : decode cX11_findTimes 27 = .ok (.invokevirtual 203, 3) := by decide +kernel
theorem dX11_findTimes_30 : decode cX11_findTimes 30 = .ok (.istore 6, 2) := by decide +kernel
theorem dX11_findTimes_32 : decode cX11_findTimes 32 = .ok (.iconst 0, 1) := by decide +kernel
theorem dX11_findTimes_33 : decode cX11_findTimes 33 = .ok (.istore 7, 2) := by decide +kernel
theorem dX11_findTimes_35 : decode cX11_findTimes 35 = .ok (.iload 7, 2) := by decide +kernel
theorem dX11_findTimes_37 : decode cX11_findTimes 37 = .ok (.aload_n 0, 1) := by decide +kernel
theorem dX11_findTimes_38 : decode cX11_findTimes 38 = .ok (.getfield 118, 3) := by decide +kernel
theorem dX11_findTimes_41 : decode cX11_findTimes 41 = .ok (.if_icmp .ge 116, 3) := by decide +kernel
theorem dX11_findTimes_44 : decode cX11_findTimes 44 = .ok (.iload 6, 2) := by decide +kernel
theorem dX11_findTimes_46 : decode cX11_findTimes 46 = .ok (.ifCond .eq 7, 3) := by decide +kernel
theorem dX11_findTimes_49 : decode cX11_findTimes 49 = .ok (.iconst (-1), 1) := by decide +kernel
theorem dX11_findTimes_50 : decode cX11_findTimes 50 = .ok (.goto 13, 3) := by decide +kernel
theorem dX11_findTimes_53 : decode cX11_findTimes 53 = .ok (.aload_n 0, 1) := by decide +kernel
theorem dX11_findTimes_54 : decode cX11_findTimes 54 = .ok (.iload_n 1, 1) := by decide +kernel
theorem dX11_findTimes_55 : decode cX11_findTimes 55 = .ok (.iload 7, 2) := by decide +kernel
theorem dX11_findTimes_57 : decode cX11_findTimes 57 = .ok (.iload 5, 2) := by decide +kernel
theorem dX11_findTimes_59 : decode cX11_findTimes 59 = .ok (.iload_n 2, 1) := by decide +kernel
theorem dX11_findTimes_60 : decode cX11_findTimes 60 = .ok (.invokevirtual 206, 3) := by decide +kernel
theorem dX11_findTimes_63 : decode cX11_findTimes 63 = .ok (.istore 8, 2) := by decide +kernel
theorem dX11_findTimes_65 : decode cX11_findTimes 65 = .ok (.aload 4, 2) := by decide +kernel
theorem dX11_findTimes_67 : decode cX11_findTimes 67 = .ok (.iload 7, 2) := by decide +kernel
theorem dX11_findTimes_69 : decode cX11_findTimes 69 = .ok (.iload 6, 2) := by decide +kernel
theorem dX11_findTimes_71 : decode cX11_findTimes 71 = .ok (.ifCond .ne 12, 3) := by decide +kernel
theorem dX11_findTimes_74 : decode cX11_findTimes 74 = .ok (.iload 8, 2) := by decide +kernel
theorem dX11_findTimes_76 : decode cX11_findTimes 76 = .ok (.ifCond .ge 7, 3) := by decide +kernel
theorem dX11_findTimes_79 : decode cX11_findTimes 79 = .ok (.iconst 1, 1) := by decide +kernel
theorem dX11_findTimes_80 : decode cX11_findTimes 80 = .ok (.goto 4, 3) := by decide +kernel
theorem dX11_findTimes_83 : decode cX11_findTimes 83 = .ok (.iconst 0, 1) := by decide +kernel
theorem dX11_findTimes_84 : decode cX11_findTimes 84 = .ok (.bastore, 1) := by decide +kernel
theorem dX11_findTimes_85 : decode cX11_findTimes 85 = .ok (.aload_n 0, 1) := by decide +kernel
theorem dX11_findTimes_86 : decode cX11_findTimes 86 = .ok (.getfield 102, 3) := by decide +kernel
theorem dX11_findTimes_89 : decode cX11_findTimes 89 = .ok (.iload 7, 2) := by decide +kernel
theorem dX11_findTimes_91 : decode cX11_findTimes 91 = .ok (.iload 5, 2) := by decide +kernel
theorem dX11_findTimes_93 : decode cX11_findTimes 93 = .ok (.invokestatic 210, 3) := by decide +kernel
theorem dX11_findTimes_96 : decode cX11_findTimes 96 = .ok (.iload 6, 2) := by decide +kernel
theorem dX11_findTimes_98 : decode cX11_findTimes 98 = .ok (.ifCond .eq 7, 3) := by decide +kernel
theorem dX11_findTimes_101 : decode cX11_findTimes 101 = .ok (.iconst 0, 1) := by decide +kernel
theorem dX11_findTimes_102 : decode cX11_findTimes 102 = .ok (.goto 48, 3) := by decide +kernel
theorem dX11_findTimes_105 : decode cX11_findTimes 105 = .ok (.iload 8, 2) := by decide +kernel
theorem dX11_findTimes_107 : decode cX11_findTimes 107 = .ok (.ifCond .ge 8, 3) := by decide +kernel
theorem dX11_findTimes_110 : decode cX11_findTimes 110 = .ok (.ldc 147, 2) := by decide +kernel
theorem dX11_findTimes_112 : decode cX11_findTimes 112 = .ok (.goto 38, 3) := by decide +kernel
theorem dX11_findTimes_115 : decode cX11_findTimes 115 = .ok (.ldc 147, 2) := by decide +kernel
theorem dX11_findTimes_117 : decode cX11_findTimes 117 = .ok (.aload_n 0, 1) := by decide +kernel
theorem dX11_findTimes_118 : decode cX11_findTimes 118 = .ok (.getfield 41, 3) := by decide +kernel
theorem dX11_findTimes_121 : decode cX11_findTimes 121 = .ok (.bipush 12, 2) := by decide +kernel
theorem dX11_findTimes_123 : decode cX11_findTimes 123 = .ok (.iload_n 1, 1) := by decide +kernel
theorem dX11_findTimes_124 : decode cX11_findTimes 124 = .ok (.imul, 1) := by decide +kernel
theorem dX11_findTimes_125 : decode cX11_findTimes 125 = .ok (.iload 8, 2) := by decide +kernel
theorem dX11_findTimes_127 : decode cX11_findTimes 127 = .ok (.iadd, 1) := by decide +kernel
theorem dX11_findTimes_128 : decode cX11_findTimes 128 = .ok (.iaload, 1) := by decide +kernel
theorem dX11_findTimes_129 : decode cX11_findTimes 129 = .ok (.aload_n 0, 1) := by decide +kernel
theorem dX11_findTimes_130 : decode cX11_findTimes 130 = .ok (.getfield 102, 3) := by decide +kernel
theorem dX11_findTimes_133 : decode cX11_findTimes 133 = .ok (.iload 7, 2) := by decide +kernel
theorem dX11_findTimes_135 : decode cX11_findTimes 135 = .ok (.iload 5, 2) := by decide +kernel
theorem dX11_findTimes_137 : decode cX11_findTimes 137 = .ok (.iconst 1, 1) := by decide +kernel
theorem dX11_findTimes_138 : decode cX11_findTimes 138 = .ok (.iload 8, 2) := by decide +kernel
theorem dX11_findTimes_140 : decode cX11_findTimes 140 = .ok (.ishl, 1) := by decide +kernel
theorem dX11_findTimes_141 : decode cX11_findTimes 141 = .ok (.ior, 1) := by decide +kernel
theorem dX11_findTimes_142 : decode cX11_findTimes 142 = .ok (.invokestatic 210, 3) := by decide +kernel
theorem dX11_findTimes_145 : decode cX11_findTimes 145 = .ok (.iaload, 1) := by decide +kernel
theorem dX11_findTimes_146 : decode cX11_findTimes 146 = .ok (.iadd, 1) := by decide +kernel
theorem dX11_findTimes_147 : decode cX11_findTimes 147 = .ok (.invokestatic 152, 3) := by decide +kernel
theorem dX11_findTimes_150 : decode cX11_findTimes 150 = .ok (.iastore, 1) := by decide +kernel
theorem dX11_findTimes_151 : decode cX11_findTimes 151 = .ok (.iinc 7 1, 3) := by decide +kernel
theorem dX11_findTimes_154 : decode cX11_findTimes 154 = .ok (.goto (-119), 3) := by decide +kernel
theorem dX11_findTimes_157 : decode cX11_findTimes 157 = .ok (.iconst 0, 1) := by decide +kernel
theorem dX11_findTimes_158 : decode cX11_findTimes 158 = .ok (.istore 7, 2) := by decide +kernel
theorem dX11_findTimes_160 : decode cX11_findTimes 160 = .ok (.iload 7, 2) := by decide +kernel
theorem dX11_findTimes_162 : decode cX11_findTimes 162 = .ok (.aload_n 0, 1) := by decide +kernel
theorem dX11_findTimes_163 : decode cX11_findTimes 163 = .ok (.getfield 118, 3) := by decide +kernel
theorem dX11_findTimes_166 : decode cX11_findTimes 166 = .ok (.if_icmp .ge 101, 3) := by decide +kernel
theorem dX11_findTimes_169 : decode cX11_findTimes 169 = .ok (.iload 6, 2) := by decide +kernel
theorem dX11_findTimes_171 : decode cX11_findTimes 171 = .ok (.ifCond .ne 96, 3) := by decide +kernel
theorem dX11_findTimes_174 : decode cX11_findTimes 174 = .ok (.iconst 0, 1) := by decide +kernel
theorem dX11_findTimes_175 : decode cX11_findTimes 175 = .ok (.istore 8, 2) := by decide +kernel
theorem dX11_findTimes_177 : decode cX11_findTimes 177 = .ok (.iload 8, 2) := by decide +kernel
theorem dX11_findTimes_179 : decode cX11_findTimes 179 = .ok (.aload_n 0, 1) := by decide +kernel
theorem dX11_findTimes_180 : decode cX11_findTimes 180 = .ok (.getfield 125, 3) := by decide +kernel
theorem dX11_findTimes_183 : decode cX11_findTimes 183 = .ok (.if_icmp .ge 78, 3) := by decide +kernel
theorem dX11_findTimes_186 : decode cX11_findTimes 186 = .ok (.aload_n 0, 1) := by decide +kernel
theorem dX11_findTimes_187 : decode cX11_findTimes 187 = .ok (.iload 8, 2) := by decide +kernel
theorem dX11_findTimes_189 : decode cX11_findTimes 189 = .ok (.iload_n 2, 1) := by decide +kernel
theorem dX11_findTimes_190 : decode cX11_findTimes 190 = .ok (.iload_n 3, 1) := by decide +kernel
theorem dX11_findTimes_191 : decode cX11_findTimes 191 = .ok (.invokevirtual 148, 3) := by decide +kernel
theorem dX11_findTimes_194 : decode cX11_findTimes 194 = .ok (.ifCond .eq 61, 3) := by decide +kernel
theorem dX11_findTimes_197 : decode cX11_findTimes 197 = .ok (.aload_n 0, 1) := by decide +kernel
theorem dX11_findTimes_198 : decode cX11_findTimes 198 = .ok (.aload 4, 2) := by decide +kernel
theorem dX11_findTimes_200 : decode cX11_findTimes 200 = .ok (.iload 5, 2) := by decide +kernel
theorem dX11_findTimes_202 : decode cX11_findTimes 202 = .ok (.aload_n 0, 1) := by decide +kernel
theorem dX11_findTimes_203 : decode cX11_findTimes 203 = .ok (.getfield 16, 3) := by decide +kernel
theorem dX11_findTimes_206 : decode cX11_findTimes 206 = .ok (.iload 8, 2) := by decide +kernel
theorem dX11_findTimes_208 : decode cX11_findTimes 208 = .ok (.iaload, 1) := by decide +kernel
theorem dX11_findTimes_209 : decode cX11_findTimes 209 = .ok (.aload_n 0, 1) := by decide +kernel
theorem dX11_findTimes_210 : decode cX11_findTimes 210 = .ok (.getfield 19, 3) := by decide +kernel
theorem dX11_findTimes_213 : decode cX11_findTimes 213 = .ok (.iload 8, 2) := by decide +kernel
theorem dX11_findTimes_215 : decode cX11_findTimes 215 = .ok (.iaload, 1) := by decide +kernel
theorem dX11_findTimes_216 : decode cX11_findTimes 216 = .ok (.aload_n 0, 1) := by decide +kernel
theorem dX11_findTimes_217 : decode cX11_findTimes 217 = .ok (.getfield 22, 3) := by decide +kernel
theorem dX11_findTimes_220 : decode cX11_findTimes 220 = .ok (.iload 8, 2) := by decide +kernel
theorem dX11_findTimes_222 : decode cX11_findTimes 222 = .ok (.iaload, 1) := by decide +kernel
theorem dX11_findTimes_223 : decode cX11_findTimes 223 = .ok (.invokevirtual 213, 3) := by decide +kernel
theorem dX11_findTimes_226 : decode cX11_findTimes 226 = .ok (.aload_n 0, 1) := by decide +kernel
theorem dX11_findTimes_227 : decode cX11_findTimes 227 = .ok (.aload 4, 2) := by decide +kernel
theorem dX11_findTimes_229 : decode cX11_findTimes 229 = .ok (.iload 5, 2) := by decide +kernel
theorem dX11_findTimes_231 : decode cX11_findTimes 231 = .ok (.aload_n 0, 1) := by decide +kernel
theorem dX11_findTimes_232 : decode cX11_findTimes 232 = .ok (.getfield 19, 3) := by decide +kernel
theorem dX11_findTimes_235 : decode cX11_findTimes 235 = .ok (.iload 8, 2) := by decide +kernel
theorem dX11_findTimes_237 : decode cX11_findTimes 237 = .ok (.iaload, 1) := by decide +kernel
theorem dX11_findTimes_238 : decode cX11_findTimes 238 = .ok (.aload_n 0, 1) := by decide +kernel
theorem dX11_findTimes_239 : decode cX11_findTimes 239 = .ok (.getfield 16, 3) := by decide +kernel
theorem dX11_findTimes_242 : decode cX11_findTimes 242 = .ok (.iload 8, 2) := by decide +kernel
theorem dX11_findTimes_244 : decode cX11_findTimes 244 = .ok (.iaload, 1) := by decide +kernel
theorem dX11_findTimes_245 : decode cX11_findTimes 245 = .ok (.aload_n 0, 1) := by decide +kernel
theorem dX11_findTimes_246 : decode cX11_findTimes 246 = .ok (.getfield 22, 3) := by decide +kernel
theorem dX11_findTimes_249 : decode cX11_findTimes 249 = .ok (.iload 8, 2) := by decide +kernel
theorem dX11_findTimes_251 : decode cX11_findTimes 251 = .ok (.iaload, 1) := by decide +kernel
theorem dX11_findTimes_252 : decode cX11_findTimes 252 = .ok (.invokevirtual 213, 3) := by decide +kernel
theorem dX11_findTimes_255 : decode cX11_findTimes 255 = .ok (.iinc 8 1, 3) := by decide +kernel
theorem dX11_findTimes_258 : decode cX11_findTimes 258 = .ok (.goto (-81), 3) := by decide +kernel
theorem dX11_findTimes_261 : decode cX11_findTimes 261 = .ok (.iinc 7 1, 3) := by decide +kernel
theorem dX11_findTimes_264 : decode cX11_findTimes 264 = .ok (.goto (-104), 3) := by decide +kernel
theorem dX11_findTimes_267 : decode cX11_findTimes 267 = .ok (.iinc 5 (-1), 3) := by decide +kernel
theorem dX11_findTimes_270 : decode cX11_findTimes 270 = .ok (.goto (-252), 3) := by decide +kernel
theorem dX11_findTimes_273 : decode cX11_findTimes 273 = .ok (.return_, 1) := by decide +kernel
theorem dX11_comesNearer_0 : decode cX11_comesNearer 0 = .ok (.aload_n 1, 1) := by decide +kernel
theorem dX11_comesNearer_1 : decode cX11_comesNearer 1 = .ok (.iload_n 3, 1) := by decide +kernel
theorem dX11_comesNearer_2 : decode cX11_comesNearer 2 = .ok (.baload, 1) := by decide +kernel
theorem dX11_comesNearer_3 : decode cX11_comesNearer 3 = .ok (.ifCond .eq 40, 3) := by decide +kernel
theorem dX11_comesNearer_6 : decode cX11_comesNearer 6 = .ok (.aload_n 0, 1) := by decide +kernel
theorem dX11_comesNearer_7 : decode cX11_comesNearer 7 = .ok (.getfield 102, 3) := by decide +kernel
theorem dX11_comesNearer_10 : decode cX11_comesNearer 10 = .ok (.iload_n 3, 1) := by decide +kernel
theorem dX11_comesNearer_11 : decode cX11_comesNearer 11 = .ok (.iload_n 2, 1) := by decide +kernel
theorem dX11_comesNearer_12 : decode cX11_comesNearer 12 = .ok (.invokestatic 210, 3) := by decide +kernel
theorem dX11_comesNearer_15 : decode cX11_comesNearer 15 = .ok (.aload_n 0, 1) := by decide +kernel
theorem dX11_comesNearer_16 : decode cX11_comesNearer 16 = .ok (.getfield 102, 3) := by decide +kernel
theorem dX11_comesNearer_19 : decode cX11_comesNearer 19 = .ok (.iload_n 3, 1) := by decide +kernel
theorem dX11_comesNearer_20 : decode cX11_comesNearer 20 = .ok (.iload_n 2, 1) := by decide +kernel
theorem dX11_comesNearer_21 : decode cX11_comesNearer 21 = .ok (.invokestatic 210, 3) := by decide +kernel
theorem dX11_comesNearer_24 : decode cX11_comesNearer 24 = .ok (.iaload, 1) := by decide +kernel
theorem dX11_comesNearer_25 : decode cX11_comesNearer 25 = .ok (.iload 5, 2) := by decide +kernel
theorem dX11_comesNearer_27 : decode cX11_comesNearer 27 = .ok (.aload_n 0, 1) := by decide +kernel
theorem dX11_comesNearer_28 : decode cX11_comesNearer 28 = .ok (.getfield 102, 3) := by decide +kernel
theorem dX11_comesNearer_31 : decode cX11_comesNearer 31 = .ok (.iload 4, 2) := by decide +kernel
theorem dX11_comesNearer_33 : decode cX11_comesNearer 33 = .ok (.iload_n 2, 1) := by decide +kernel
theorem dX11_comesNearer_34 : decode cX11_comesNearer 34 = .ok (.invokestatic 210, 3) := by decide +kernel
theorem dX11_comesNearer_37 : decode cX11_comesNearer 37 = .ok (.iaload, 1) := by decide +kernel
theorem dX11_comesNearer_38 : decode cX11_comesNearer 38 = .ok (.iadd, 1) := by decide +kernel
theorem dX11_comesNearer_39 : decode cX11_comesNearer 39 = .ok (.invokestatic 152, 3) := by decide +kernel
theorem dX11_comesNearer_42 : decode cX11_comesNearer 42 = .ok (.iastore, 1) := by decide +kernel
theorem dX11_comesNearer_43 : decode cX11_comesNearer 43 = .ok (.return_, 1) := by decide +kernel
theorem dX11_meets_0 : decode cX11_meets 0 = .ok (.aload_n 0, 1) := by decide +kernel
theorem dX11_meets_1 : decode cX11_meets 1 = .ok (.getfield 105, 3) := by decide +kernel
theorem dX11_meets_4 : decode cX11_meets 4 = .ok (.iload_n 1, 1) := by decide +kernel
theorem dX11_meets_5 : decode cX11_meets 5 = .ok (.baload, 1) := by decide +kernel
theorem dX11_meets_6 : decode cX11_meets 6 = .ok (.ifCond .ne 30, 3) := by decide +kernel
theorem dX11_meets_9 : decode cX11_meets 9 = .ok (.aload_n 0, 1) := by decide +kernel
theorem dX11_meets_10 : decode cX11_meets 10 = .ok (.getfield 105, 3) := by decide +kernel
theorem dX11_meets_13 : decode cX11_meets 13 = .ok (.iload_n 1, 1) := by decide +kernel
theorem dX11_meets_14 : decode cX11_meets 14 = .ok (.iconst 1, 1) := by decide +kernel
theorem dX11_meets_15 : decode cX11_meets 15 = .ok (.bastore, 1) := by decide +kernel
theorem dX11_meets_16 : decode cX11_meets 16 = .ok (.aload_n 0, 1) := by decide +kernel
theorem dX11_meets_17 : decode cX11_meets 17 = .ok (.getfield 108, 3) := by decide +kernel
theorem dX11_meets_20 : decode cX11_meets 20 = .ok (.aload_n 0, 1) := by decide +kernel
theorem dX11_meets_21 : decode cX11_meets 21 = .ok (.getfield 217, 3) := by decide +kernel
theorem dX11_meets_24 : decode cX11_meets 24 = .ok (.iload_n 1, 1) := by decide +kernel
theorem dX11_meets_25 : decode cX11_meets 25 = .ok (.iastore, 1) := by decide +kernel
theorem dX11_meets_26 : decode cX11_meets 26 = .ok (.aload_n 0, 1) := by decide +kernel
theorem dX11_meets_27 : decode cX11_meets 27 = .ok (.dup, 1) := by decide +kernel
theorem dX11_meets_28 : decode cX11_meets 28 = .ok (.getfield 217, 3) := by decide +kernel
theorem dX11_meets_31 : decode cX11_meets 31 = .ok (.iconst 1, 1) := by decide +kernel
theorem dX11_meets_32 : decode cX11_meets 32 = .ok (.iadd, 1) := by decide +kernel
theorem dX11_meets_33 : decode cX11_meets 33 = .ok (.putfield 217, 3) := by decide +kernel
theorem dX11_meets_36 : decode cX11_meets 36 = .ok (.return_, 1) := by decide +kernel
theorem dX11_findMoments_0 : decode cX11_findMoments 0 = .ok (.iconst 0, 1) := by decide +kernel
theorem dX11_findMoments_1 : decode cX11_findMoments 1 = .ok (.istore 6, 2) := by decide +kernel
theorem dX11_findMoments_3 : decode cX11_findMoments 3 = .ok (.iload 6, 2) := by decide +kernel
theorem dX11_findMoments_5 : decode cX11_findMoments 5 = .ok (.ldc 101, 2) := by decide +kernel
theorem dX11_findMoments_7 : decode cX11_findMoments 7 = .ok (.if_icmp .ge 17, 3) := by decide +kernel
theorem dX11_findMoments_10 : decode cX11_findMoments 10 = .ok (.aload_n 0, 1) := by decide +kernel
theorem dX11_findMoments_11 : decode cX11_findMoments 11 = .ok (.getfield 105, 3) := by decide +kernel
theorem dX11_findMoments_14 : decode cX11_findMoments 14 = .ok (.iload 6, 2) := by decide +kernel
theorem dX11_findMoments_16 : decode cX11_findMoments 16 = .ok (.iconst 0, 1) := by decide +kernel
theorem dX11_findMoments_17 : decode cX11_findMoments 17 = .ok (.bastore, 1) := by decide +kernel
theorem dX11_findMoments_18 : decode cX11_findMoments 18 = .ok (.iinc 6 1, 3) := by decide +kernel
theorem dX11_findMoments_21 : decode cX11_findMoments 21 = .ok (.goto (-18), 3) := by decide +kernel
theorem dX11_findMoments_24 : decode cX11_findMoments 24 = .ok (.aload_n 0, 1) := by decide +kernel
theorem dX11_findMoments_25 : decode cX11_findMoments 25 = .ok (.iconst 0, 1) := by decide +kernel
theorem dX11_findMoments_26 : decode cX11_findMoments 26 = .ok (.putfield 217, 3) := by decide +kernel
theorem dX11_findMoments_29 : decode cX11_findMoments 29 = .ok (.aload_n 0, 1) := by decide +kernel
theorem dX11_findMoments_30 : decode cX11_findMoments 30 = .ok (.iload_n 2, 1) := by decide +kernel
theorem dX11_findMoments_31 : decode cX11_findMoments 31 = .ok (.iload_n 3, 1) := by decide +kernel
theorem dX11_findMoments_32 : decode cX11_findMoments 32 = .ok (.invokestatic 210, 3) := by decide +kernel
theorem dX11_findMoments_35 : decode cX11_findMoments 35 = .ok (.invokevirtual 220, 3) := by decide +kernel
theorem dX11_findMoments_38 : decode cX11_findMoments 38 = .ok (.iconst 0, 1) := by decide +kernel
theorem dX11_findMoments_39 : decode cX11_findMoments 39 = .ok (.istore 6, 2) := by decide +kernel
theorem dX11_findMoments_41 : decode cX11_findMoments 41 = .ok (.iload 6, 2) := by decide +kernel
theorem dX11_findMoments_43 : decode cX11_findMoments 43 = .ok (.aload_n 0, 1) := by decide +kernel
theorem dX11_findMoments_44 : decode cX11_findMoments 44 = .ok (.getfield 217, 3) := by decide +kernel
theorem dX11_findMoments_47 : decode cX11_findMoments 47 = .ok (.if_icmp .ge 165, 3) := by decide +kernel
theorem dX11_findMoments_50 : decode cX11_findMoments 50 = .ok (.aload_n 0, 1) := by decide +kernel
theorem dX11_findMoments_51 : decode cX11_findMoments 51 = .ok (.getfield 108, 3) := by decide +kernel
theorem dX11_findMoments_54 : decode cX11_findMoments 54 = .ok (.iload 6, 2) := by decide +kernel
theorem dX11_findMoments_56 : decode cX11_findMoments 56 = .ok (.iaload, 1) := by decide +kernel
theorem dX11_findMoments_57 : decode cX11_findMoments 57 = .ok (.bipush 8, 2) := by decide +kernel
theorem dX11_findMoments_59 : decode cX11_findMoments 59 = .ok (.irem, 1) := by decide +kernel
theorem dX11_findMoments_60 : decode cX11_findMoments 60 = .ok (.istore 7, 2) := by decide +kernel
theorem dX11_findMoments_62 : decode cX11_findMoments 62 = .ok (.aload_n 0, 1) := by decide +kernel
theorem dX11_findMoments_63 : decode cX11_findMoments 63 = .ok (.getfield 108, 3) := by decide +kernel
theorem dX11_findMoments_66 : decode cX11_findMoments 66 = .ok (.iload 6, 2) := by decide +kernel
theorem dX11_findMoments_68 : decode cX11_findMoments 68 = .ok (.iaload, 1) := by decide +kernel
theorem dX11_findMoments_69 : decode cX11_findMoments 69 = .ok (.bipush 8, 2) := by decide +kernel
theorem dX11_findMoments_71 : decode cX11_findMoments 71 = .ok (.idiv, 1) := by decide +kernel
theorem dX11_findMoments_72 : decode cX11_findMoments 72 = .ok (.istore 8, 2) := by decide +kernel
theorem dX11_findMoments_74 : decode cX11_findMoments 74 = .ok (.aload_n 0, 1) := by decide +kernel
theorem dX11_findMoments_75 : decode cX11_findMoments 75 = .ok (.iload_n 1, 1) := by decide +kernel
theorem dX11_findMoments_76 : decode cX11_findMoments 76 = .ok (.iload 8, 2) := by decide +kernel
theorem dX11_findMoments_78 : decode cX11_findMoments 78 = .ok (.invokevirtual 203, 3) := by decide +kernel
theorem dX11_findMoments_81 : decode cX11_findMoments 81 = .ok (.ifCond .eq 6, 3) := by decide +kernel
theorem dX11_findMoments_84 : decode cX11_findMoments 84 = .ok (.goto 122, 3) := by decide +kernel
theorem dX11_findMoments_87 : decode cX11_findMoments 87 = .ok (.aload_n 0, 1) := by decide +kernel
theorem dX11_findMoments_88 : decode cX11_findMoments 88 = .ok (.iload_n 1, 1) := by decide +kernel
theorem dX11_findMoments_89 : decode cX11_findMoments 89 = .ok (.iload 7, 2) := by decide +kernel
theorem dX11_findMoments_91 : decode cX11_findMoments 91 = .ok (.iload 8, 2) := by decide +kernel
theorem dX11_findMoments_93 : decode cX11_findMoments 93 = .ok (.iload 4, 2) := by decide +kernel
theorem dX11_findMoments_95 : decode cX11_findMoments 95 = .ok (.invokevirtual 206, 3) := by decide +kernel
theorem dX11_findMoments_98 : decode cX11_findMoments 98 = .ok (.istore 9, 2) := by decide +kernel
theorem dX11_findMoments_100 : decode cX11_findMoments 100 = .ok (.iload 9, 2) := by decide +kernel
theorem dX11_findMoments_102 : decode cX11_findMoments 102 = .ok (.ifCond .lt 22, 3) := by decide +kernel
theorem dX11_findMoments_105 : decode cX11_findMoments 105 = .ok (.aload_n 0, 1) := by decide +kernel
theorem dX11_findMoments_106 : decode cX11_findMoments 106 = .ok (.iload 7, 2) := by decide +kernel
theorem dX11_findMoments_108 : decode cX11_findMoments 108 = .ok (.iload 8, 2) := by decide +kernel
theorem dX11_findMoments_110 : decode cX11_findMoments 110 = .ok (.iconst 1, 1) := by decide +kernel
theorem dX11_findMoments_111 : decode cX11_findMoments 111 = .ok (.iload 9, 2) := by decide +kernel
theorem dX11_findMoments_113 : decode cX11_findMoments 113 = .ok (.ishl, 1) := by decide +kernel
theorem dX11_findMoments_114 : decode cX11_findMoments 114 = .ok (.ior, 1) := by decide +kernel
theorem dX11_findMoments_115 : decode cX11_findMoments 115 = .ok (.invokestatic 210, 3) := by decide +kernel
theorem dX11_findMoments_118 : decode cX11_findMoments 118 = .ok (.invokevirtual 220, 3) := by decide +kernel
theorem dX11_findMoments_121 : decode cX11_findMoments 121 = .ok (.goto 85, 3) := by decide +kernel
theorem dX11_findMoments_124 : decode cX11_findMoments 124 = .ok (.iconst 0, 1) := by decide +kernel
theorem dX11_findMoments_125 : decode cX11_findMoments 125 = .ok (.istore 10, 2) := by decide +kernel
theorem dX11_findMoments_127 : decode cX11_findMoments 127 = .ok (.iload 10, 2) := by decide +kernel
theorem dX11_findMoments_129 : decode cX11_findMoments 129 = .ok (.aload_n 0, 1) := by decide +kernel
theorem dX11_findMoments_130 : decode cX11_findMoments 130 = .ok (.getfield 125, 3) := by decide +kernel
theorem dX11_findMoments_133 : decode cX11_findMoments 133 = .ok (.if_icmp .ge 73, 3) := by decide +kernel
theorem dX11_findMoments_136 : decode cX11_findMoments 136 = .ok (.aload_n 0, 1) := by decide +kernel
theorem dX11_findMoments_137 : decode cX11_findMoments 137 = .ok (.iload 10, 2) := by decide +kernel
theorem dX11_findMoments_139 : decode cX11_findMoments 139 = .ok (.iload 4, 2) := by decide +kernel
theorem dX11_findMoments_141 : decode cX11_findMoments 141 = .ok (.iload 5, 2) := by decide +kernel
theorem dX11_findMoments_143 : decode cX11_findMoments 143 = .ok (.invokevirtual 148, 3) := by decide +kernel
theorem dX11_findMoments_146 : decode cX11_findMoments 146 = .ok (.ifCond .eq 54, 3) := by decide +kernel
theorem dX11_findMoments_149 : decode cX11_findMoments 149 = .ok (.aload_n 0, 1) := by decide +kernel
theorem dX11_findMoments_150 : decode cX11_findMoments 150 = .ok (.getfield 16, 3) := by decide +kernel
theorem dX11_findMoments_153 : decode cX11_findMoments 153 = .ok (.iload 10, 2) := by decide +kernel
theorem dX11_findMoments_155 : decode cX11_findMoments 155 = .ok (.iaload, 1) := by decide +kernel
theorem dX11_findMoments_156 : decode cX11_findMoments 156 = .ok (.iload 7, 2) := by decide +kernel
theorem dX11_findMoments_158 : decode cX11_findMoments 158 = .ok (.if_icmp .eq 15, 3) := by decide +kernel
theorem dX11_findMoments_161 : decode cX11_findMoments 161 = .ok (.aload_n 0, 1) := by decide +kernel
theorem dX11_findMoments_162 : decode cX11_findMoments 162 = .ok (.getfield 19, 3) := by decide +kernel
theorem dX11_findMoments_165 : decode cX11_findMoments 165 = .ok (.iload 10, 2) := by decide +kernel
theorem dX11_findMoments_167 : decode cX11_findMoments 167 = .ok (.iaload, 1) := by decide +kernel
theorem dX11_findMoments_168 : decode cX11_findMoments 168 = .ok (.iload 7, 2) := by decide +kernel
theorem dX11_findMoments_170 : decode cX11_findMoments 170 = .ok (.if_icmp .ne 30, 3) := by decide +kernel
theorem dX11_findMoments_173 : decode cX11_findMoments 173 = .ok (.aload_n 0, 1) := by decide +kernel
theorem dX11_findMoments_174 : decode cX11_findMoments 174 = .ok (.aload_n 0, 1) := by decide +kernel
theorem dX11_findMoments_175 : decode cX11_findMoments 175 = .ok (.getfield 16, 3) := by decide +kernel
theorem dX11_findMoments_178 : decode cX11_findMoments 178 = .ok (.iload 10, 2) := by decide +kernel
theorem dX11_findMoments_180 : decode cX11_findMoments 180 = .ok (.iaload, 1) := by decide +kernel
theorem dX11_findMoments_181 : decode cX11_findMoments 181 = .ok (.aload_n 0, 1) := by decide +kernel
theorem dX11_findMoments_182 : decode cX11_findMoments 182 = .ok (.getfield 19, 3) := by decide +kernel
theorem dX11_findMoments_185 : decode cX11_findMoments 185 = .ok (.iload 10, 2) := by decide +kernel
theorem dX11_findMoments_187 : decode cX11_findMoments 187 = .ok (.iaload, 1) := by decide +kernel
theorem dX11_findMoments_188 : decode cX11_findMoments 188 = .ok (.iadd, 1) := by decide +kernel
theorem dX11_findMoments_189 : decode cX11_findMoments 189 = .ok (.iload 7, 2) := by decide +kernel
theorem dX11_findMoments_191 : decode cX11_findMoments 191 = .ok (.isub, 1) := by decide +kernel
theorem dX11_findMoments_192 : decode cX11_findMoments 192 = .ok (.iload 8, 2) := by decide +kernel
theorem dX11_findMoments_194 : decode cX11_findMoments 194 = .ok (.invokestatic 210, 3) := by decide +kernel
theorem dX11_findMoments_197 : decode cX11_findMoments 197 = .ok (.invokevirtual 220, 3) := by decide +kernel
theorem dX11_findMoments_200 : decode cX11_findMoments 200 = .ok (.iinc 10 1, 3) := by decide +kernel
theorem dX11_findMoments_203 : decode cX11_findMoments 203 = .ok (.goto (-76), 3) := by decide +kernel
theorem dX11_findMoments_206 : decode cX11_findMoments 206 = .ok (.iinc 6 1, 3) := by decide +kernel
theorem dX11_findMoments_209 : decode cX11_findMoments 209 = .ok (.goto (-168), 3) := by decide +kernel
theorem dX11_findMoments_212 : decode cX11_findMoments 212 = .ok (.return_, 1) := by decide +kernel
theorem dX11_allHeard_0 : decode cX11_allHeard 0 = .ok (.iconst 0, 1) := by decide +kernel
theorem dX11_allHeard_1 : decode cX11_allHeard 1 = .ok (.istore_n 1, 1) := by decide +kernel
theorem dX11_allHeard_2 : decode cX11_allHeard 2 = .ok (.iconst 0, 1) := by decide +kernel
theorem dX11_allHeard_3 : decode cX11_allHeard 3 = .ok (.istore_n 2, 1) := by decide +kernel
theorem dX11_allHeard_4 : decode cX11_allHeard 4 = .ok (.iload_n 2, 1) := by decide +kernel
theorem dX11_allHeard_5 : decode cX11_allHeard 5 = .ok (.aload_n 0, 1) := by decide +kernel
theorem dX11_allHeard_6 : decode cX11_allHeard 6 = .ok (.getfield 217, 3) := by decide +kernel
theorem dX11_allHeard_9 : decode cX11_allHeard 9 = .ok (.if_icmp .ge 21, 3) := by decide +kernel
theorem dX11_allHeard_12 : decode cX11_allHeard 12 = .ok (.iload_n 1, 1) := by decide +kernel
theorem dX11_allHeard_13 : decode cX11_allHeard 13 = .ok (.aload_n 0, 1) := by decide +kernel
theorem dX11_allHeard_14 : decode cX11_allHeard 14 = .ok (.getfield 108, 3) := by decide +kernel
theorem dX11_allHeard_17 : decode cX11_allHeard 17 = .ok (.iload_n 2, 1) := by decide +kernel
theorem dX11_allHeard_18 : decode cX11_allHeard 18 = .ok (.iaload, 1) := by decide +kernel
theorem dX11_allHeard_19 : decode cX11_allHeard 19 = .ok (.bipush 8, 2) := by decide +kernel
theorem dX11_allHeard_21 : decode cX11_allHeard 21 = .ok (.idiv, 1) := by decide +kernel
theorem dX11_allHeard_22 : decode cX11_allHeard 22 = .ok (.ior, 1) := by decide +kernel
theorem dX11_allHeard_23 : decode cX11_allHeard 23 = .ok (.istore_n 1, 1) := by decide +kernel
theorem dX11_allHeard_24 : decode cX11_allHeard 24 = .ok (.iinc 2 1, 3) := by decide +kernel
theorem dX11_allHeard_27 : decode cX11_allHeard 27 = .ok (.goto (-23), 3) := by decide +kernel
theorem dX11_allHeard_30 : decode cX11_allHeard 30 = .ok (.iload_n 1, 1) := by decide +kernel
theorem dX11_allHeard_31 : decode cX11_allHeard 31 = .ok (.ireturn, 1) := by decide +kernel
theorem dX11_check_0 : decode cX11_check 0 = .ok (.aload_n 0, 1) := by decide +kernel
theorem dX11_check_1 : decode cX11_check 1 = .ok (.iload_n 1, 1) := by decide +kernel
theorem dX11_check_2 : decode cX11_check 2 = .ok (.invokevirtual 191, 3) := by decide +kernel
theorem dX11_check_5 : decode cX11_check 5 = .ok (.ifCond .eq 28, 3) := by decide +kernel
theorem dX11_check_8 : decode cX11_check 8 = .ok (.aload_n 0, 1) := by decide +kernel
theorem dX11_check_9 : decode cX11_check 9 = .ok (.iload_n 2, 1) := by decide +kernel
theorem dX11_check_10 : decode cX11_check 10 = .ok (.invokevirtual 137, 3) := by decide +kernel
theorem dX11_check_13 : decode cX11_check 13 = .ok (.ifCond .eq 20, 3) := by decide +kernel
theorem dX11_check_16 : decode cX11_check 16 = .ok (.iload_n 3, 1) := by decide +kernel
theorem dX11_check_17 : decode cX11_check 17 = .ok (.invokestatic 144, 3) := by decide +kernel
theorem dX11_check_20 : decode cX11_check 20 = .ok (.ifCond .eq 13, 3) := by decide +kernel
theorem dX11_check_23 : decode cX11_check 23 = .ok (.iload 5, 2) := by decide +kernel
theorem dX11_check_25 : decode cX11_check 25 = .ok (.iconst 0, 1) := by decide +kernel
theorem dX11_check_26 : decode cX11_check 26 = .ok (.iconst 3, 1) := by decide +kernel
theorem dX11_check_27 : decode cX11_check 27 = .ok (.invokestatic 121, 3) := by decide +kernel
theorem dX11_check_30 : decode cX11_check 30 = .ok (.ifCond .ne 10, 3) := by decide +kernel
theorem dX11_check_33 : decode cX11_check 33 = .ok (.aload_n 0, 1) := by decide +kernel
theorem dX11_check_34 : decode cX11_check 34 = .ok (.ldc 131, 2) := by decide +kernel
theorem dX11_check_36 : decode cX11_check 36 = .ok (.invokevirtual 132, 3) := by decide +kernel
theorem dX11_check_39 : decode cX11_check 39 = .ok (.ireturn, 1) := by decide +kernel
theorem dX11_check_40 : decode cX11_check 40 = .ok (.aload_n 0, 1) := by decide +kernel
theorem dX11_check_41 : decode cX11_check 41 = .ok (.iload_n 1, 1) := by decide +kernel
theorem dX11_check_42 : decode cX11_check 42 = .ok (.iload_n 2, 1) := by decide +kernel
theorem dX11_check_43 : decode cX11_check 43 = .ok (.iconst 0, 1) := by decide +kernel
theorem dX11_check_44 : decode cX11_check 44 = .ok (.iload_n 3, 1) := by decide +kernel
theorem dX11_check_45 : decode cX11_check 45 = .ok (.iload 4, 2) := by decide +kernel
theorem dX11_check_47 : decode cX11_check 47 = .ok (.invokevirtual 224, 3) := by decide +kernel
theorem dX11_check_50 : decode cX11_check 50 = .ok (.iload 5, 2) := by decide +kernel
theorem dX11_check_52 : decode cX11_check 52 = .ok (.ifCond .ne 8, 3) := by decide +kernel
theorem dX11_check_55 : decode cX11_check 55 = .ok (.aload_n 0, 1) := by decide +kernel
theorem dX11_check_56 : decode cX11_check 56 = .ok (.getfield 217, 3) := by decide +kernel
theorem dX11_check_59 : decode cX11_check 59 = .ok (.ireturn, 1) := by decide +kernel
theorem dX11_check_60 : decode cX11_check 60 = .ok (.iload 5, 2) := by decide +kernel
theorem dX11_check_62 : decode cX11_check 62 = .ok (.iconst 3, 1) := by decide +kernel
theorem dX11_check_63 : decode cX11_check 63 = .ok (.if_icmp .ne 8, 3) := by decide +kernel
theorem dX11_check_66 : decode cX11_check 66 = .ok (.aload_n 0, 1) := by decide +kernel
theorem dX11_check_67 : decode cX11_check 67 = .ok (.invokevirtual 228, 3) := by decide +kernel
theorem dX11_check_70 : decode cX11_check 70 = .ok (.ireturn, 1) := by decide +kernel
theorem dX11_check_71 : decode cX11_check 71 = .ok (.aload_n 0, 1) := by decide +kernel
theorem dX11_check_72 : decode cX11_check 72 = .ok (.iload_n 1, 1) := by decide +kernel
theorem dX11_check_73 : decode cX11_check 73 = .ok (.iload_n 3, 1) := by decide +kernel
theorem dX11_check_74 : decode cX11_check 74 = .ok (.iload 4, 2) := by decide +kernel
theorem dX11_check_76 : decode cX11_check 76 = .ok (.invokevirtual 231, 3) := by decide +kernel
theorem dX11_check_79 : decode cX11_check 79 = .ok (.iconst 0, 1) := by decide +kernel
theorem dX11_check_80 : decode cX11_check 80 = .ok (.istore 6, 2) := by decide +kernel
theorem dX11_check_82 : decode cX11_check 82 = .ok (.iconst 0, 1) := by decide +kernel
theorem dX11_check_83 : decode cX11_check 83 = .ok (.istore 7, 2) := by decide +kernel
theorem dX11_check_85 : decode cX11_check 85 = .ok (.iload 7, 2) := by decide +kernel
theorem dX11_check_87 : decode cX11_check 87 = .ok (.aload_n 0, 1) := by decide +kernel
theorem dX11_check_88 : decode cX11_check 88 = .ok (.getfield 217, 3) := by decide +kernel
theorem dX11_check_91 : decode cX11_check 91 = .ok (.if_icmp .ge 110, 3) := by decide +kernel
theorem dX11_check_94 : decode cX11_check 94 = .ok (.aload_n 0, 1) := by decide +kernel
theorem dX11_check_95 : decode cX11_check 95 = .ok (.getfield 108, 3) := by decide +kernel
theorem dX11_check_98 : decode cX11_check 98 = .ok (.iload 7, 2) := by decide +kernel
theorem dX11_check_100 : decode cX11_check 100 = .ok (.iaload, 1) := by decide +kernel
theorem dX11_check_101 : decode cX11_check 101 = .ok (.bipush 8, 2) := by decide +kernel
theorem dX11_check_103 : decode cX11_check 103 = .ok (.irem, 1) := by decide +kernel
theorem dX11_check_104 : decode cX11_check 104 = .ok (.istore 8, 2) := by decide +kernel
theorem dX11_check_106 : decode cX11_check 106 = .ok (.aload_n 0, 1) := by decide +kernel
theorem dX11_check_107 : decode cX11_check 107 = .ok (.getfield 108, 3) := by decide +kernel
theorem dX11_check_110 : decode cX11_check 110 = .ok (.iload 7, 2) := by decide +kernel
theorem dX11_check_112 : decode cX11_check 112 = .ok (.iaload, 1) := by decide +kernel
theorem dX11_check_113 : decode cX11_check 113 = .ok (.bipush 8, 2) := by decide +kernel
theorem dX11_check_115 : decode cX11_check 115 = .ok (.idiv, 1) := by decide +kernel
theorem dX11_check_116 : decode cX11_check 116 = .ok (.istore 9, 2) := by decide +kernel
theorem dX11_check_118 : decode cX11_check 118 = .ok (.iload 5, 2) := by decide +kernel
theorem dX11_check_120 : decode cX11_check 120 = .ok (.iconst 1, 1) := by decide +kernel
theorem dX11_check_121 : decode cX11_check 121 = .ok (.if_icmp .ne 28, 3) := by decide +kernel
theorem dX11_check_124 : decode cX11_check 124 = .ok (.aload_n 0, 1) := by decide +kernel
theorem dX11_check_125 : decode cX11_check 125 = .ok (.getfield 102, 3) := by decide +kernel
theorem dX11_check_128 : decode cX11_check 128 = .ok (.aload_n 0, 1) := by decide +kernel
theorem dX11_check_129 : decode cX11_check 129 = .ok (.getfield 108, 3) := by decide +kernel
theorem dX11_check_132 : decode cX11_check 132 = .ok (.iload 7, 2) := by decide +kernel
theorem dX11_check_134 : decode cX11_check 134 = .ok (.iaload, 1) := by decide +kernel
theorem dX11_check_135 : decode cX11_check 135 = .ok (.iaload, 1) := by decide +kernel
theorem dX11_check_136 : decode cX11_check 136 = .ok (.ldc 147, 2) := by decide +kernel
theorem dX11_check_138 : decode cX11_check 138 = .ok (.if_icmp .lt 7, 3) := by decide +kernel
theorem dX11_check_141 : decode cX11_check 141 = .ok (.iconst 1, 1) := by decide +kernel
theorem dX11_check_142 : decode cX11_check 142 = .ok (.goto 36, 3) := by decide +kernel
theorem dX11_check_145 : decode cX11_check 145 = .ok (.iconst 0, 1) := by decide +kernel
theorem dX11_check_146 : decode cX11_check 146 = .ok (.goto 32, 3) := by decide +kernel
theorem dX11_check_149 : decode cX11_check 149 = .ok (.aload_n 0, 1) := by decide +kernel
theorem dX11_check_150 : decode cX11_check 150 = .ok (.iload_n 1, 1) := by decide +kernel
theorem dX11_check_151 : decode cX11_check 151 = .ok (.iload 9, 2) := by decide +kernel
theorem dX11_check_153 : decode cX11_check 153 = .ok (.invokevirtual 203, 3) := by decide +kernel
theorem dX11_check_156 : decode cX11_check 156 = .ok (.ifCond .ne 21, 3) := by decide +kernel
theorem dX11_check_159 : decode cX11_check 159 = .ok (.aload_n 0, 1) := by decide +kernel
theorem dX11_check_160 : decode cX11_check 160 = .ok (.iload_n 1, 1) := by decide +kernel
theorem dX11_check_161 : decode cX11_check 161 = .ok (.iload 8, 2) := by decide +kernel
theorem dX11_check_163 : decode cX11_check 163 = .ok (.iload 9, 2) := by decide +kernel
theorem dX11_check_165 : decode cX11_check 165 = .ok (.iload_n 3, 1) := by decide +kernel
theorem dX11_check_166 : decode cX11_check 166 = .ok (.invokevirtual 235, 3) := by decide +kernel
theorem dX11_check_169 : decode cX11_check 169 = .ok (.iconst 1, 1) := by decide +kernel
theorem dX11_check_170 : decode cX11_check 170 = .ok (.if_icmp .le 7, 3) := by decide +kernel
theorem dX11_check_173 : decode cX11_check 173 = .ok (.iconst 1, 1) := by decide +kernel
theorem dX11_check_174 : decode cX11_check 174 = .ok (.goto 4, 3) := by decide +kernel
theorem dX11_check_177 : decode cX11_check 177 = .ok (.iconst 0, 1) := by decide +kernel
theorem dX11_check_178 : decode cX11_check 178 = .ok (.istore 10, 2) := by decide +kernel
theorem dX11_check_180 : decode cX11_check 180 = .ok (.iload 6, 2) := by decide +kernel
theorem dX11_check_182 : decode cX11_check 182 = .ok (.iload 10, 2) := by decide +kernel
theorem dX11_check_184 : decode cX11_check 184 = .ok (.ifCond .eq 7, 3) := by decide +kernel
theorem dX11_check_187 : decode cX11_check 187 = .ok (.iconst 1, 1) := by decide +kernel
theorem dX11_check_188 : decode cX11_check 188 = .ok (.goto 4, 3) := by decide +kernel
theorem dX11_check_191 : decode cX11_check 191 = .ok (.iconst 0, 1) := by decide +kernel
theorem dX11_check_192 : decode cX11_check 192 = .ok (.iadd, 1) := by decide +kernel
theorem dX11_check_193 : decode cX11_check 193 = .ok (.istore 6, 2) := by decide +kernel
theorem dX11_check_195 : decode cX11_check 195 = .ok (.iinc 7 1, 3) := by decide +kernel
theorem dX11_check_198 : decode cX11_check 198 = .ok (.goto (-113), 3) := by decide +kernel
theorem dX11_check_201 : decode cX11_check 201 = .ok (.iload 6, 2) := by decide +kernel
theorem dX11_check_203 : decode cX11_check 203 = .ok (.ireturn, 1) := by decide +kernel
theorem dX11_canAsk_0 : decode cX11_canAsk 0 = .ok (.aload_n 0, 1) := by decide +kernel
theorem dX11_canAsk_1 : decode cX11_canAsk 1 = .ok (.iload_n 1, 1) := by decide +kernel
theorem dX11_canAsk_2 : decode cX11_canAsk 2 = .ok (.invokevirtual 191, 3) := by decide +kernel
theorem dX11_canAsk_5 : decode cX11_canAsk 5 = .ok (.ifCond .eq 22, 3) := by decide +kernel
theorem dX11_canAsk_8 : decode cX11_canAsk 8 = .ok (.aload_n 0, 1) := by decide +kernel
theorem dX11_canAsk_9 : decode cX11_canAsk 9 = .ok (.iload_n 2, 1) := by decide +kernel
theorem dX11_canAsk_10 : decode cX11_canAsk 10 = .ok (.invokevirtual 137, 3) := by decide +kernel
theorem dX11_canAsk_13 : decode cX11_canAsk 13 = .ok (.ifCond .eq 14, 3) := by decide +kernel
theorem dX11_canAsk_16 : decode cX11_canAsk 16 = .ok (.iload_n 3, 1) := by decide +kernel
theorem dX11_canAsk_17 : decode cX11_canAsk 17 = .ok (.invokestatic 144, 3) := by decide +kernel
theorem dX11_canAsk_20 : decode cX11_canAsk 20 = .ok (.ifCond .eq 7, 3) := by decide +kernel
theorem dX11_canAsk_23 : decode cX11_canAsk 23 = .ok (.iconst 1, 1) := by decide +kernel
theorem dX11_canAsk_24 : decode cX11_canAsk 24 = .ok (.goto 4, 3) := by decide +kernel
theorem dX11_canAsk_27 : decode cX11_canAsk 27 = .ok (.iconst 0, 1) := by decide +kernel
theorem dX11_canAsk_28 : decode cX11_canAsk 28 = .ok (.ireturn, 1) := by decide +kernel
theorem dX11_quickest_0 : decode cX11_quickest 0 = .ok (.aload_n 0, 1) := by decide +kernel
theorem dX11_quickest_1 : decode cX11_quickest 1 = .ok (.iload_n 1, 1) := by decide +kernel
theorem dX11_quickest_2 : decode cX11_quickest 2 = .ok (.iload_n 2, 1) := by decide +kernel
theorem dX11_quickest_3 : decode cX11_quickest 3 = .ok (.iload_n 3, 1) := by decide +kernel
theorem dX11_quickest_4 : decode cX11_quickest 4 = .ok (.invokevirtual 238, 3) := by decide +kernel
theorem dX11_quickest_7 : decode cX11_quickest 7 = .ok (.ifCond .ne 10, 3) := by decide +kernel
theorem dX11_quickest_10 : decode cX11_quickest 10 = .ok (.aload_n 0, 1) := by decide +kernel
theorem dX11_quickest_11 : decode cX11_quickest 11 = .ok (.ldc 131, 2) := by decide +kernel
theorem dX11_quickest_13 : decode cX11_quickest 13 = .ok (.invokevirtual 132, 3) := by decide +kernel
theorem dX11_quickest_16 : decode cX11_quickest 16 = .ok (.ireturn, 1) := by decide +kernel
theorem dX11_quickest_17 : decode cX11_quickest 17 = .ok (.aload_n 0, 1) := by decide +kernel
theorem dX11_quickest_18 : decode cX11_quickest 18 = .ok (.iload_n 1, 1) := by decide +kernel
theorem dX11_quickest_19 : decode cX11_quickest 19 = .ok (.iload_n 3, 1) := by decide +kernel
theorem dX11_quickest_20 : decode cX11_quickest 20 = .ok (.iload 4, 2) := by decide +kernel
theorem dX11_quickest_22 : decode cX11_quickest 22 = .ok (.invokevirtual 231, 3) := by decide +kernel
theorem dX11_quickest_25 : decode cX11_quickest 25 = .ok (.aload_n 0, 1) := by decide +kernel
theorem dX11_quickest_26 : decode cX11_quickest 26 = .ok (.getfield 102, 3) := by decide +kernel
theorem dX11_quickest_29 : decode cX11_quickest 29 = .ok (.iload_n 2, 1) := by decide +kernel
theorem dX11_quickest_30 : decode cX11_quickest 30 = .ok (.iconst 0, 1) := by decide +kernel
theorem dX11_quickest_31 : decode cX11_quickest 31 = .ok (.invokestatic 210, 3) := by decide +kernel
theorem dX11_quickest_34 : decode cX11_quickest 34 = .ok (.iaload, 1) := by decide +kernel
theorem dX11_quickest_35 : decode cX11_quickest 35 = .ok (.istore 5, 2) := by decide +kernel
theorem dX11_quickest_37 : decode cX11_quickest 37 = .ok (.iload 5, 2) := by decide +kernel
theorem dX11_quickest_39 : decode cX11_quickest 39 = .ok (.ldc 147, 2) := by decide +kernel
theorem dX11_quickest_41 : decode cX11_quickest 41 = .ok (.if_icmp .lt 12, 3) := by decide +kernel
theorem dX11_quickest_44 : decode cX11_quickest 44 = .ok (.aload_n 0, 1) := by decide +kernel
theorem dX11_quickest_45 : decode cX11_quickest 45 = .ok (.ldc 158, 2) := by decide +kernel
theorem dX11_quickest_47 : decode cX11_quickest 47 = .ok (.invokevirtual 132, 3) := by decide +kernel
theorem dX11_quickest_50 : decode cX11_quickest 50 = .ok (.goto 5, 3) := by decide +kernel
theorem dX11_quickest_53 : decode cX11_quickest 53 = .ok (.iload 5, 2) := by decide +kernel
theorem dX11_quickest_55 : decode cX11_quickest 55 = .ok (.ireturn, 1) := by decide +kernel
theorem dX11_goesTo_0 : decode cX11_goesTo 0 = .ok (.bipush 8, 2) := by decide +kernel
theorem dX11_goesTo_2 : decode cX11_goesTo 2 = .ok (.istore 5, 2) := by decide +kernel
theorem dX11_goesTo_4 : decode cX11_goesTo 4 = .ok (.iconst 0, 1) := by decide +kernel
theorem dX11_goesTo_5 : decode cX11_goesTo 5 = .ok (.istore 6, 2) := by decide +kernel
theorem dX11_goesTo_7 : decode cX11_goesTo 7 = .ok (.iload 6, 2) := by decide +kernel
theorem dX11_goesTo_9 : decode cX11_goesTo 9 = .ok (.aload_n 0, 1) := by decide +kernel
theorem dX11_goesTo_10 : decode cX11_goesTo 10 = .ok (.getfield 125, 3) := by decide +kernel
theorem dX11_goesTo_13 : decode cX11_goesTo 13 = .ok (.if_icmp .ge 120, 3) := by decide +kernel
theorem dX11_goesTo_16 : decode cX11_goesTo 16 = .ok (.aload_n 0, 1) := by decide +kernel
theorem dX11_goesTo_17 : decode cX11_goesTo 17 = .ok (.iload 6, 2) := by decide +kernel
theorem dX11_goesTo_19 : decode cX11_goesTo 19 = .ok (.iload_n 3, 1) := by decide +kernel
theorem dX11_goesTo_20 : decode cX11_goesTo 20 = .ok (.iload 4, 2) := by decide +kernel
theorem dX11_goesTo_22 : decode cX11_goesTo 22 = .ok (.invokevirtual 148, 3) := by decide +kernel
theorem dX11_goesTo_25 : decode cX11_goesTo 25 = .ok (.ifCond .eq 102, 3) := by decide +kernel
theorem dX11_goesTo_28 : decode cX11_goesTo 28 = .ok (.aload_n 0, 1) := by decide +kernel
theorem dX11_goesTo_29 : decode cX11_goesTo 29 = .ok (.getfield 16, 3) := by decide +kernel
theorem dX11_goesTo_32 : decode cX11_goesTo 32 = .ok (.iload 6, 2) := by decide +kernel
theorem dX11_goesTo_34 : decode cX11_goesTo 34 = .ok (.iaload, 1) := by decide +kernel
theorem dX11_goesTo_35 : decode cX11_goesTo 35 = .ok (.iload_n 1, 1) := by decide +kernel
theorem dX11_goesTo_36 : decode cX11_goesTo 36 = .ok (.if_icmp .eq 14, 3) := by decide +kernel
theorem dX11_goesTo_39 : decode cX11_goesTo 39 = .ok (.aload_n 0, 1) := by decide +kernel
theorem dX11_goesTo_40 : decode cX11_goesTo 40 = .ok (.getfield 19, 3) := by decide +kernel
theorem dX11_goesTo_43 : decode cX11_goesTo 43 = .ok (.iload 6, 2) := by decide +kernel
theorem dX11_goesTo_45 : decode cX11_goesTo 45 = .ok (.iaload, 1) := by decide +kernel
theorem dX11_goesTo_46 : decode cX11_goesTo 46 = .ok (.iload_n 1, 1) := by decide +kernel
theorem dX11_goesTo_47 : decode cX11_goesTo 47 = .ok (.if_icmp .ne 80, 3) := by decide +kernel
theorem dX11_goesTo_50 : decode cX11_goesTo 50 = .ok (.aload_n 0, 1) := by decide +kernel
theorem dX11_goesTo_51 : decode cX11_goesTo 51 = .ok (.getfield 16, 3) := by decide +kernel
theorem dX11_goesTo_54 : decode cX11_goesTo 54 = .ok (.iload 6, 2) := by decide +kernel
theorem dX11_goesTo_56 : decode cX11_goesTo 56 = .ok (.iaload, 1) := by decide +kernel
theorem dX11_goesTo_57 : decode cX11_goesTo 57 = .ok (.aload_n 0, 1) := by decide +kernel
theorem dX11_goesTo_58 : decode cX11_goesTo 58 = .ok (.getfield 19, 3) := by decide +kernel
theorem dX11_goesTo_61 : decode cX11_goesTo 61 = .ok (.iload 6, 2) := by decide +kernel
theorem dX11_goesTo_63 : decode cX11_goesTo 63 = .ok (.iaload, 1) := by decide +kernel
theorem dX11_goesTo_64 : decode cX11_goesTo 64 = .ok (.iadd, 1) := by decide +kernel
theorem dX11_goesTo_65 : decode cX11_goesTo 65 = .ok (.iload_n 1, 1) := by decide +kernel
theorem dX11_goesTo_66 : decode cX11_goesTo 66 = .ok (.isub, 1) := by decide +kernel
theorem dX11_goesTo_67 : decode cX11_goesTo 67 = .ok (.istore 7, 2) := by decide +kernel
theorem dX11_goesTo_69 : decode cX11_goesTo 69 = .ok (.aload_n 0, 1) := by decide +kernel
theorem dX11_goesTo_70 : decode cX11_goesTo 70 = .ok (.getfield 22, 3) := by decide +kernel
theorem dX11_goesTo_73 : decode cX11_goesTo 73 = .ok (.iload 6, 2) := by decide +kernel
theorem dX11_goesTo_75 : decode cX11_goesTo 75 = .ok (.iaload, 1) := by decide +kernel
theorem dX11_goesTo_76 : decode cX11_goesTo 76 = .ok (.aload_n 0, 1) := by decide +kernel
theorem dX11_goesTo_77 : decode cX11_goesTo 77 = .ok (.getfield 102, 3) := by decide +kernel
theorem dX11_goesTo_80 : decode cX11_goesTo 80 = .ok (.iload 7, 2) := by decide +kernel
theorem dX11_goesTo_82 : decode cX11_goesTo 82 = .ok (.iload_n 2, 1) := by decide +kernel
theorem dX11_goesTo_83 : decode cX11_goesTo 83 = .ok (.invokestatic 210, 3) := by decide +kernel
theorem dX11_goesTo_86 : decode cX11_goesTo 86 = .ok (.iaload, 1) := by decide +kernel
theorem dX11_goesTo_87 : decode cX11_goesTo 87 = .ok (.iadd, 1) := by decide +kernel
theorem dX11_goesTo_88 : decode cX11_goesTo 88 = .ok (.aload_n 0, 1) := by decide +kernel
theorem dX11_goesTo_89 : decode cX11_goesTo 89 = .ok (.getfield 102, 3) := by decide +kernel
theorem dX11_goesTo_92 : decode cX11_goesTo 92 = .ok (.iload_n 1, 1) := by decide +kernel
theorem dX11_goesTo_93 : decode cX11_goesTo 93 = .ok (.iload_n 2, 1) := by decide +kernel
theorem dX11_goesTo_94 : decode cX11_goesTo 94 = .ok (.invokestatic 210, 3) := by decide +kernel
theorem dX11_goesTo_97 : decode cX11_goesTo 97 = .ok (.iaload, 1) := by decide +kernel
theorem dX11_goesTo_98 : decode cX11_goesTo 98 = .ok (.if_icmp .ne 7, 3) := by decide +kernel
theorem dX11_goesTo_101 : decode cX11_goesTo 101 = .ok (.iconst 1, 1) := by decide +kernel
theorem dX11_goesTo_102 : decode cX11_goesTo 102 = .ok (.goto 4, 3) := by decide +kernel
theorem dX11_goesTo_105 : decode cX11_goesTo 105 = .ok (.iconst 0, 1) := by decide +kernel
theorem dX11_goesTo_106 : decode cX11_goesTo 106 = .ok (.istore 8, 2) := by decide +kernel
theorem dX11_goesTo_108 : decode cX11_goesTo 108 = .ok (.iload 8, 2) := by decide +kernel
theorem dX11_goesTo_110 : decode cX11_goesTo 110 = .ok (.ifCond .eq 13, 3) := by decide +kernel
theorem dX11_goesTo_113 : decode cX11_goesTo 113 = .ok (.iload 5, 2) := by decide +kernel
theorem dX11_goesTo_115 : decode cX11_goesTo 115 = .ok (.iload 7, 2) := by decide +kernel
theorem dX11_goesTo_117 : decode cX11_goesTo 117 = .ok (.invokestatic 152, 3) := by decide +kernel
theorem dX11_goesTo_120 : decode cX11_goesTo 120 = .ok (.goto 5, 3) := by decide +kernel
theorem dX11_goesTo_123 : decode cX11_goesTo 123 = .ok (.iload 5, 2) := by decide +kernel
theorem dX11_goesTo_125 : decode cX11_goesTo 125 = .ok (.istore 5, 2) := by decide +kernel
theorem dX11_goesTo_127 : decode cX11_goesTo 127 = .ok (.iinc 6 1, 3) := by decide +kernel
theorem dX11_goesTo_130 : decode cX11_goesTo 130 = .ok (.goto (-123), 3) := by decide +kernel
theorem dX11_goesTo_133 : decode cX11_goesTo 133 = .ok (.iload 5, 2) := by decide +kernel
theorem dX11_goesTo_135 : decode cX11_goesTo 135 = .ok (.ireturn, 1) := by decide +kernel
theorem dX11_route_0 : decode cX11_route 0 = .ok (.aload_n 0, 1) := by decide +kernel
theorem dX11_route_1 : decode cX11_route 1 = .ok (.iload_n 1, 1) := by decide +kernel
theorem dX11_route_2 : decode cX11_route 2 = .ok (.iload_n 2, 1) := by decide +kernel
theorem dX11_route_3 : decode cX11_route 3 = .ok (.iload_n 3, 1) := by decide +kernel
theorem dX11_route_4 : decode cX11_route 4 = .ok (.invokevirtual 238, 3) := by decide +kernel
theorem dX11_route_7 : decode cX11_route 7 = .ok (.ifCond .eq 8, 3) := by decide +kernel
theorem dX11_route_10 : decode cX11_route 10 = .ok (.iload 5, 2) := by decide +kernel
theorem dX11_route_12 : decode cX11_route 12 = .ok (.ifCond .ge 10, 3) := by decide +kernel
theorem dX11_route_15 : decode cX11_route 15 = .ok (.aload_n 0, 1) := by decide +kernel
theorem dX11_route_16 : decode cX11_route 16 = .ok (.ldc 131, 2) := by decide +kernel
theorem dX11_route_18 : decode cX11_route 18 = .ok (.invokevirtual 132, 3) := by decide +kernel
theorem dX11_route_21 : decode cX11_route 21 = .ok (.ireturn, 1) := by decide +kernel
theorem dX11_route_22 : decode cX11_route 22 = .ok (.aload_n 0, 1) := by decide +kernel
theorem dX11_route_23 : decode cX11_route 23 = .ok (.iload_n 1, 1) := by decide +kernel
theorem dX11_route_24 : decode cX11_route 24 = .ok (.iload_n 3, 1) := by decide +kernel
theorem dX11_route_25 : decode cX11_route 25 = .ok (.iload 4, 2) := by decide +kernel
theorem dX11_route_27 : decode cX11_route 27 = .ok (.invokevirtual 231, 3) := by decide +kernel
theorem dX11_route_30 : decode cX11_route 30 = .ok (.aload_n 0, 1) := by decide +kernel
theorem dX11_route_31 : decode cX11_route 31 = .ok (.getfield 102, 3) := by decide +kernel
theorem dX11_route_34 : decode cX11_route 34 = .ok (.iload_n 2, 1) := by decide +kernel
theorem dX11_route_35 : decode cX11_route 35 = .ok (.iconst 0, 1) := by decide +kernel
theorem dX11_route_36 : decode cX11_route 36 = .ok (.invokestatic 210, 3) := by decide +kernel
theorem dX11_route_39 : decode cX11_route 39 = .ok (.iaload, 1) := by decide +kernel
theorem dX11_route_40 : decode cX11_route 40 = .ok (.ldc 147, 2) := by decide +kernel
theorem dX11_route_42 : decode cX11_route 42 = .ok (.if_icmp .lt 10, 3) := by decide +kernel
theorem dX11_route_45 : decode cX11_route 45 = .ok (.aload_n 0, 1) := by decide +kernel
theorem dX11_route_46 : decode cX11_route 46 = .ok (.ldc 158, 2) := by decide +kernel
theorem dX11_route_48 : decode cX11_route 48 = .ok (.invokevirtual 132, 3) := by decide +kernel
theorem dX11_route_51 : decode cX11_route 51 = .ok (.ireturn, 1) := by decide +kernel
theorem dX11_route_52 : decode cX11_route 52 = .ok (.iload_n 2, 1) := by decide +kernel
theorem dX11_route_53 : decode cX11_route 53 = .ok (.istore 6, 2) := by decide +kernel
theorem dX11_route_55 : decode cX11_route 55 = .ok (.iconst 0, 1) := by decide +kernel
theorem dX11_route_56 : decode cX11_route 56 = .ok (.istore 7, 2) := by decide +kernel
theorem dX11_route_58 : decode cX11_route 58 = .ok (.iconst 0, 1) := by decide +kernel
theorem dX11_route_59 : decode cX11_route 59 = .ok (.istore 8, 2) := by decide +kernel
theorem dX11_route_61 : decode cX11_route 61 = .ok (.aload_n 0, 1) := by decide +kernel
theorem dX11_route_62 : decode cX11_route 62 = .ok (.iload_n 1, 1) := by decide +kernel
theorem dX11_route_63 : decode cX11_route 63 = .ok (.iload 7, 2) := by decide +kernel
theorem dX11_route_65 : decode cX11_route 65 = .ok (.invokevirtual 203, 3) := by decide +kernel
theorem dX11_route_68 : decode cX11_route 68 = .ok (.ifCond .ne 61, 3) := by decide +kernel
theorem dX11_route_71 : decode cX11_route 71 = .ok (.aload_n 0, 1) := by decide +kernel
theorem dX11_route_72 : decode cX11_route 72 = .ok (.iload_n 1, 1) := by decide +kernel
theorem dX11_route_73 : decode cX11_route 73 = .ok (.iload 6, 2) := by decide +kernel
theorem dX11_route_75 : decode cX11_route 75 = .ok (.iload 7, 2) := by decide +kernel
theorem dX11_route_77 : decode cX11_route 77 = .ok (.iload_n 3, 1) := by decide +kernel
theorem dX11_route_78 : decode cX11_route 78 = .ok (.invokevirtual 206, 3) := by decide +kernel
theorem dX11_route_81 : decode cX11_route 81 = .ok (.istore 9, 2) := by decide +kernel
theorem dX11_route_83 : decode cX11_route 83 = .ok (.iload 9, 2) := by decide +kernel
theorem dX11_route_85 : decode cX11_route 85 = .ok (.ifCond .lt 15, 3) := by decide +kernel
theorem dX11_route_88 : decode cX11_route 88 = .ok (.iload 7, 2) := by decide +kernel
theorem dX11_route_90 : decode cX11_route 90 = .ok (.iconst 1, 1) := by decide +kernel
theorem dX11_route_91 : decode cX11_route 91 = .ok (.iload 9, 2) := by decide +kernel
theorem dX11_route_93 : decode cX11_route 93 = .ok (.ishl, 1) := by decide +kernel
theorem dX11_route_94 : decode cX11_route 94 = .ok (.ior, 1) := by decide +kernel
theorem dX11_route_95 : decode cX11_route 95 = .ok (.istore 7, 2) := by decide +kernel
theorem dX11_route_97 : decode cX11_route 97 = .ok (.goto 29, 3) := by decide +kernel
theorem dX11_route_100 : decode cX11_route 100 = .ok (.aload_n 0, 1) := by decide +kernel
theorem dX11_route_101 : decode cX11_route 101 = .ok (.iload 6, 2) := by decide +kernel
theorem dX11_route_103 : decode cX11_route 103 = .ok (.iload 7, 2) := by decide +kernel
theorem dX11_route_105 : decode cX11_route 105 = .ok (.iload_n 3, 1) := by decide +kernel
theorem dX11_route_106 : decode cX11_route 106 = .ok (.iload 4, 2) := by decide +kernel
theorem dX11_route_108 : decode cX11_route 108 = .ok (.invokevirtual 241, 3) := by decide +kernel
theorem dX11_route_111 : decode cX11_route 111 = .ok (.istore 6, 2) := by decide +kernel
theorem dX11_route_113 : decode cX11_route 113 = .ok (.iload 8, 2) := by decide +kernel
theorem dX11_route_115 : decode cX11_route 115 = .ok (.iload 5, 2) := by decide +kernel
theorem dX11_route_117 : decode cX11_route 117 = .ok (.if_icmp .ne 6, 3) := by decide +kernel
theorem dX11_route_120 : decode cX11_route 120 = .ok (.iload 6, 2) := by decide +kernel
theorem dX11_route_122 : decode cX11_route 122 = .ok (.ireturn, 1) := by decide +kernel
theorem dX11_route_123 : decode cX11_route 123 = .ok (.iinc 8 1, 3) := by decide +kernel
theorem dX11_route_126 : decode cX11_route 126 = .ok (.goto (-65), 3) := by decide +kernel
theorem dX11_route_129 : decode cX11_route 129 = .ok (.iconst (-1), 1) := by decide +kernel
theorem dX11_route_130 : decode cX11_route 130 = .ok (.ireturn, 1) := by decide +kernel
theorem dX11_listens_0 : decode cX11_listens 0 = .ok (.iconst 0, 1) := by decide +kernel
theorem dX11_listens_1 : decode cX11_listens 1 = .ok (.istore_n 2, 1) := by decide +kernel
theorem dX11_listens_2 : decode cX11_listens 2 = .ok (.aload_n 0, 1) := by decide +kernel
theorem dX11_listens_3 : decode cX11_listens 3 = .ok (.getfield 62, 3) := by decide +kernel
theorem dX11_listens_6 : decode cX11_listens 6 = .ok (.iload_n 1, 1) := by decide +kernel
theorem dX11_listens_7 : decode cX11_listens 7 = .ok (.iaload, 1) := by decide +kernel
theorem dX11_listens_8 : decode cX11_listens 8 = .ok (.istore_n 3, 1) := by decide +kernel
theorem dX11_listens_9 : decode cX11_listens 9 = .ok (.iconst 1, 1) := by decide +kernel
theorem dX11_listens_10 : decode cX11_listens 10 = .ok (.istore 4, 2) := by decide +kernel
theorem dX11_listens_12 : decode cX11_listens 12 = .ok (.iload 4, 2) := by decide +kernel
theorem dX11_listens_14 : decode cX11_listens 14 = .ok (.ifCond .eq 109, 3) := by decide +kernel
theorem dX11_listens_17 : decode cX11_listens 17 = .ok (.aload_n 0, 1) := by decide +kernel
theorem dX11_listens_18 : decode cX11_listens 18 = .ok (.iload_n 3, 1) := by decide +kernel
theorem dX11_listens_19 : decode cX11_listens 19 = .ok (.aload_n 0, 1) := by decide +kernel
theorem dX11_listens_20 : decode cX11_listens 20 = .ok (.getfield 56, 3) := by decide +kernel
theorem dX11_listens_23 : decode cX11_listens 23 = .ok (.iload_n 1, 1) := by decide +kernel
theorem dX11_listens_24 : decode cX11_listens 24 = .ok (.iaload, 1) := by decide +kernel
theorem dX11_listens_25 : decode cX11_listens 25 = .ok (.invokevirtual 203, 3) := by decide +kernel
theorem dX11_listens_28 : decode cX11_listens 28 = .ok (.ifCond .eq 7, 3) := by decide +kernel
theorem dX11_listens_31 : decode cX11_listens 31 = .ok (.iconst (-1), 1) := by decide +kernel
theorem dX11_listens_32 : decode cX11_listens 32 = .ok (.goto 24, 3) := by decide +kernel
theorem dX11_listens_35 : decode cX11_listens 35 = .ok (.aload_n 0, 1) := by decide +kernel
theorem dX11_listens_36 : decode cX11_listens 36 = .ok (.iload_n 3, 1) := by decide +kernel
theorem dX11_listens_37 : decode cX11_listens 37 = .ok (.aload_n 0, 1) := by decide +kernel
theorem dX11_listens_38 : decode cX11_listens 38 = .ok (.getfield 53, 3) := by decide +kernel
theorem dX11_listens_41 : decode cX11_listens 41 = .ok (.iload_n 1, 1) := by decide +kernel
theorem dX11_listens_42 : decode cX11_listens 42 = .ok (.iaload, 1) := by decide +kernel
theorem dX11_listens_43 : decode cX11_listens 43 = .ok (.aload_n 0, 1) := by decide +kernel
theorem dX11_listens_44 : decode cX11_listens 44 = .ok (.getfield 56, 3) := by decide +kernel
theorem dX11_listens_47 : decode cX11_listens 47 = .ok (.iload_n 1, 1) := by decide +kernel
theorem dX11_listens_48 : decode cX11_listens 48 = .ok (.iaload, 1) := by decide +kernel
theorem dX11_listens_49 : decode cX11_listens 49 = .ok (.aload_n 0, 1) := by decide +kernel
theorem dX11_listens_50 : decode cX11_listens 50 = .ok (.getfield 245, 3) := by decide +kernel
theorem dX11_listens_53 : decode cX11_listens 53 = .ok (.invokevirtual 206, 3) := by decide +kernel
theorem dX11_listens_56 : decode cX11_listens 56 = .ok (.istore 5, 2) := by decide +kernel
theorem dX11_listens_58 : decode cX11_listens 58 = .ok (.iload 5, 2) := by decide +kernel
theorem dX11_listens_60 : decode cX11_listens 60 = .ok (.ifCond .lt 7, 3) := by decide +kernel
theorem dX11_listens_63 : decode cX11_listens 63 = .ok (.iconst 1, 1) := by decide +kernel
theorem dX11_listens_64 : decode cX11_listens 64 = .ok (.goto 4, 3) := by decide +kernel
theorem dX11_listens_67 : decode cX11_listens 67 = .ok (.iconst 0, 1) := by decide +kernel
theorem dX11_listens_68 : decode cX11_listens 68 = .ok (.istore 4, 2) := by decide +kernel
theorem dX11_listens_70 : decode cX11_listens 70 = .ok (.iload 4, 2) := by decide +kernel
theorem dX11_listens_72 : decode cX11_listens 72 = .ok (.ifCond .eq 48, 3) := by decide +kernel
theorem dX11_listens_75 : decode cX11_listens 75 = .ok (.aload_n 0, 1) := by decide +kernel
theorem dX11_listens_76 : decode cX11_listens 76 = .ok (.getfield 56, 3) := by decide +kernel
theorem dX11_listens_79 : decode cX11_listens 79 = .ok (.iload_n 1, 1) := by decide +kernel
theorem dX11_listens_80 : decode cX11_listens 80 = .ok (.dup2, 1) := by decide +kernel
theorem dX11_listens_81 : decode cX11_listens 81 = .ok (.iaload, 1) := by decide +kernel
theorem dX11_listens_82 : decode cX11_listens 82 = .ok (.iconst 1, 1) := by decide +kernel
theorem dX11_listens_83 : decode cX11_listens 83 = .ok (.iload 5, 2) := by decide +kernel
theorem dX11_listens_85 : decode cX11_listens 85 = .ok (.ishl, 1) := by decide +kernel
theorem dX11_listens_86 : decode cX11_listens 86 = .ok (.ior, 1) := by decide +kernel
theorem dX11_listens_87 : decode cX11_listens 87 = .ok (.iastore, 1) := by decide +kernel
theorem dX11_listens_88 : decode cX11_listens 88 = .ok (.aload_n 0, 1) := by decide +kernel
theorem dX11_listens_89 : decode cX11_listens 89 = .ok (.getfield 59, 3) := by decide +kernel
theorem dX11_listens_92 : decode cX11_listens 92 = .ok (.iload_n 1, 1) := by decide +kernel
theorem dX11_listens_93 : decode cX11_listens 93 = .ok (.dup2, 1) := by decide +kernel
theorem dX11_listens_94 : decode cX11_listens 94 = .ok (.iaload, 1) := by decide +kernel
theorem dX11_listens_95 : decode cX11_listens 95 = .ok (.aload_n 0, 1) := by decide +kernel
theorem dX11_listens_96 : decode cX11_listens 96 = .ok (.getfield 41, 3) := by decide +kernel
theorem dX11_listens_99 : decode cX11_listens 99 = .ok (.bipush 12, 2) := by decide +kernel
theorem dX11_listens_101 : decode cX11_listens 101 = .ok (.iload_n 3, 1) := by decide +kernel
theorem dX11_listens_102 : decode cX11_listens 102 = .ok (.imul, 1) := by decide +kernel
theorem dX11_listens_103 : decode cX11_listens 103 = .ok (.iload 5, 2) := by decide +kernel
theorem dX11_listens_105 : decode cX11_listens 105 = .ok (.iadd, 1) := by decide +kernel
theorem dX11_listens_106 : decode cX11_listens 106 = .ok (.iaload, 1) := by decide +kernel
theorem dX11_listens_107 : decode cX11_listens 107 = .ok (.iadd, 1) := by decide +kernel
theorem dX11_listens_108 : decode cX11_listens 108 = .ok (.iastore, 1) := by decide +kernel
theorem dX11_listens_109 : decode cX11_listens 109 = .ok (.aload_n 0, 1) := by decide +kernel
theorem dX11_listens_110 : decode cX11_listens 110 = .ok (.getfield 68, 3) := by decide +kernel
theorem dX11_listens_113 : decode cX11_listens 113 = .ok (.iload_n 1, 1) := by decide +kernel
theorem dX11_listens_114 : decode cX11_listens 114 = .ok (.iload 5, 2) := by decide +kernel
theorem dX11_listens_116 : decode cX11_listens 116 = .ok (.iastore, 1) := by decide +kernel
theorem dX11_listens_117 : decode cX11_listens 117 = .ok (.iinc 2 1, 3) := by decide +kernel
theorem dX11_listens_120 : decode cX11_listens 120 = .ok (.goto (-108), 3) := by decide +kernel
theorem dX11_listens_123 : decode cX11_listens 123 = .ok (.iload_n 2, 1) := by decide +kernel
theorem dX11_listens_124 : decode cX11_listens 124 = .ok (.ireturn, 1) := by decide +kernel
theorem dX11_isDone_0 : decode cX11_isDone 0 = .ok (.aload_n 0, 1) := by decide +kernel
theorem dX11_isDone_1 : decode cX11_isDone 1 = .ok (.aload_n 0, 1) := by decide +kernel
theorem dX11_isDone_2 : decode cX11_isDone 2 = .ok (.getfield 62, 3) := by decide +kernel
theorem dX11_isDone_5 : decode cX11_isDone 5 = .ok (.iload_n 1, 1) := by decide +kernel
theorem dX11_isDone_6 : decode cX11_isDone 6 = .ok (.iaload, 1) := by decide +kernel
theorem dX11_isDone_7 : decode cX11_isDone 7 = .ok (.aload_n 0, 1) := by decide +kernel
theorem dX11_isDone_8 : decode cX11_isDone 8 = .ok (.getfield 56, 3) := by decide +kernel
theorem dX11_isDone_11 : decode cX11_isDone 11 = .ok (.iload_n 1, 1) := by decide +kernel
theorem dX11_isDone_12 : decode cX11_isDone 12 = .ok (.iaload, 1) := by decide +kernel
theorem dX11_isDone_13 : decode cX11_isDone 13 = .ok (.invokevirtual 203, 3) := by decide +kernel
theorem dX11_isDone_16 : decode cX11_isDone 16 = .ok (.ireturn, 1) := by decide +kernel
theorem dX11_walker_0 : decode cX11_walker 0 = .ok (.aload_n 0, 1) := by decide +kernel
theorem dX11_walker_1 : decode cX11_walker 1 = .ok (.iload_n 1, 1) := by decide +kernel
theorem dX11_walker_2 : decode cX11_walker 2 = .ok (.invokevirtual 137, 3) := by decide +kernel
theorem dX11_walker_5 : decode cX11_walker 5 = .ok (.ifCond .ne 10, 3) := by decide +kernel
theorem dX11_walker_8 : decode cX11_walker 8 = .ok (.aload_n 0, 1) := by decide +kernel
theorem dX11_walker_9 : decode cX11_walker 9 = .ok (.ldc 131, 2) := by decide +kernel
theorem dX11_walker_11 : decode cX11_walker 11 = .ok (.invokevirtual 132, 3) := by decide +kernel
theorem dX11_walker_14 : decode cX11_walker 14 = .ok (.ireturn, 1) := by decide +kernel
theorem dX11_walker_15 : decode cX11_walker 15 = .ok (.aload_n 0, 1) := by decide +kernel
theorem dX11_walker_16 : decode cX11_walker 16 = .ok (.getfield 184, 3) := by decide +kernel
theorem dX11_walker_19 : decode cX11_walker 19 = .ok (.ifCond .ne 10, 3) := by decide +kernel
theorem dX11_walker_22 : decode cX11_walker 22 = .ok (.aload_n 0, 1) := by decide +kernel
theorem dX11_walker_23 : decode cX11_walker 23 = .ok (.ldc 248, 2) := by decide +kernel
theorem dX11_walker_25 : decode cX11_walker 25 = .ok (.invokevirtual 132, 3) := by decide +kernel
theorem dX11_walker_28 : decode cX11_walker 28 = .ok (.ireturn, 1) := by decide +kernel
theorem dX11_walker_29 : decode cX11_walker 29 = .ok (.aload_n 0, 1) := by decide +kernel
theorem dX11_walker_30 : decode cX11_walker 30 = .ok (.getfield 128, 3) := by decide +kernel
theorem dX11_walker_33 : decode cX11_walker 33 = .ok (.bipush 6, 2) := by decide +kernel
theorem dX11_walker_35 : decode cX11_walker 35 = .ok (.if_icmp .ne 10, 3) := by decide +kernel
theorem dX11_walker_38 : decode cX11_walker 38 = .ok (.aload_n 0, 1) := by decide +kernel
theorem dX11_walker_39 : decode cX11_walker 39 = .ok (.ldc 136, 2) := by decide +kernel
theorem dX11_walker_41 : decode cX11_walker 41 = .ok (.invokevirtual 132, 3) := by decide +kernel
theorem dX11_walker_44 : decode cX11_walker 44 = .ok (.ireturn, 1) := by decide +kernel
theorem dX11_walker_45 : decode cX11_walker 45 = .ok (.aload_n 0, 1) := by decide +kernel
theorem dX11_walker_46 : decode cX11_walker 46 = .ok (.getfield 128, 3) := by decide +kernel
theorem dX11_walker_49 : decode cX11_walker 49 = .ok (.istore_n 3, 1) := by decide +kernel
theorem dX11_walker_50 : decode cX11_walker 50 = .ok (.aload_n 0, 1) := by decide +kernel
theorem dX11_walker_51 : decode cX11_walker 51 = .ok (.getfield 53, 3) := by decide +kernel
theorem dX11_walker_54 : decode cX11_walker 54 = .ok (.iload_n 3, 1) := by decide +kernel
theorem dX11_walker_55 : decode cX11_walker 55 = .ok (.iload_n 1, 1) := by decide +kernel
theorem dX11_walker_56 : decode cX11_walker 56 = .ok (.iastore, 1) := by decide +kernel
theorem dX11_walker_57 : decode cX11_walker 57 = .ok (.aload_n 0, 1) := by decide +kernel
theorem dX11_walker_58 : decode cX11_walker 58 = .ok (.getfield 65, 3) := by decide +kernel
theorem dX11_walker_61 : decode cX11_walker 61 = .ok (.iload_n 3, 1) := by decide +kernel
theorem dX11_walker_62 : decode cX11_walker 62 = .ok (.iload_n 2, 1) := by decide +kernel
theorem dX11_walker_63 : decode cX11_walker 63 = .ok (.bastore, 1) := by decide +kernel
theorem dX11_walker_64 : decode cX11_walker 64 = .ok (.aload_n 0, 1) := by decide +kernel
theorem dX11_walker_65 : decode cX11_walker 65 = .ok (.getfield 62, 3) := by decide +kernel
theorem dX11_walker_68 : decode cX11_walker 68 = .ok (.iload_n 3, 1) := by decide +kernel
theorem dX11_walker_69 : decode cX11_walker 69 = .ok (.aload_n 0, 1) := by decide +kernel
theorem dX11_walker_70 : decode cX11_walker 70 = .ok (.getfield 184, 3) := by decide +kernel
theorem dX11_walker_73 : decode cX11_walker 73 = .ok (.iconst 1, 1) := by decide +kernel
theorem dX11_walker_74 : decode cX11_walker 74 = .ok (.isub, 1) := by decide +kernel
theorem dX11_walker_75 : decode cX11_walker 75 = .ok (.iastore, 1) := by decide +kernel
theorem dX11_walker_76 : decode cX11_walker 76 = .ok (.aload_n 0, 1) := by decide +kernel
theorem dX11_walker_77 : decode cX11_walker 77 = .ok (.getfield 68, 3) := by decide +kernel
theorem dX11_walker_80 : decode cX11_walker 80 = .ok (.iload_n 3, 1) := by decide +kernel
theorem dX11_walker_81 : decode cX11_walker 81 = .ok (.iconst (-1), 1) := by decide +kernel
theorem dX11_walker_82 : decode cX11_walker 82 = .ok (.iastore, 1) := by decide +kernel
theorem dX11_walker_83 : decode cX11_walker 83 = .ok (.aload_n 0, 1) := by decide +kernel
theorem dX11_walker_84 : decode cX11_walker 84 = .ok (.dup, 1) := by decide +kernel
theorem dX11_walker_85 : decode cX11_walker 85 = .ok (.getfield 128, 3) := by decide +kernel
theorem dX11_walker_88 : decode cX11_walker 88 = .ok (.iconst 1, 1) := by decide +kernel
theorem dX11_walker_89 : decode cX11_walker 89 = .ok (.iadd, 1) := by decide +kernel
theorem dX11_walker_90 : decode cX11_walker 90 = .ok (.putfield 128, 3) := by decide +kernel
theorem dX11_walker_93 : decode cX11_walker 93 = .ok (.aload_n 0, 1) := by decide +kernel
theorem dX11_walker_94 : decode cX11_walker 94 = .ok (.iload_n 3, 1) := by decide +kernel
theorem dX11_walker_95 : decode cX11_walker 95 = .ok (.invokevirtual 249, 3) := by decide +kernel
theorem dX11_walker_98 : decode cX11_walker 98 = .ok (.istore 4, 2) := by decide +kernel
theorem dX11_walker_100 : decode cX11_walker 100 = .ok (.iload_n 3, 1) := by decide +kernel
theorem dX11_walker_101 : decode cX11_walker 101 = .ok (.ireturn, 1) := by decide +kernel
theorem dX11_today_0 : decode cX11_today 0 = .ok (.iload_n 1, 1) := by decide +kernel
theorem dX11_today_1 : decode cX11_today 1 = .ok (.invokestatic 144, 3) := by decide +kernel
theorem dX11_today_4 : decode cX11_today 4 = .ok (.ifCond .ne 10, 3) := by decide +kernel
theorem dX11_today_7 : decode cX11_today 7 = .ok (.aload_n 0, 1) := by decide +kernel
theorem dX11_today_8 : decode cX11_today 8 = .ok (.ldc 131, 2) := by decide +kernel
theorem dX11_today_10 : decode cX11_today 10 = .ok (.invokevirtual 132, 3) := by decide +kernel
theorem dX11_today_13 : decode cX11_today 13 = .ok (.ireturn, 1) := by decide +kernel
theorem dX11_today_14 : decode cX11_today 14 = .ok (.aload_n 0, 1) := by decide +kernel
theorem dX11_today_15 : decode cX11_today 15 = .ok (.getfield 245, 3) := by decide +kernel
theorem dX11_today_18 : decode cX11_today 18 = .ok (.istore_n 2, 1) := by decide +kernel
end
section
theorem dX11_today_19 : decode cX11_today 19 = .ok (.aload_n 0, 1) := by decide +kernel
theorem dX11_today_20 : decode cX11_today 20 = .ok (.iload_n 1, 1) := by decide +kernel
theorem dX11_today_21 : decode cX11_today 21 = .ok (.putfield 245, 3) := by decide +kernel
theorem dX11_today_24 : decode cX11_today 24 = .ok (.iconst 0, 1) := by decide +kernel
theorem dX11_today_25 : decode cX11_today 25 = .ok (.istore_n 3, 1) := by decide +kernel
theorem dX11_today_26 : decode cX11_today 26 = .ok (.iload_n 3, 1) := by decide +kernel
theorem dX11_today_27 : decode cX11_today 27 = .ok (.aload_n 0, 1) := by decide +kernel
theorem dX11_today_28 : decode cX11_today 28 = .ok (.getfield 128, 3) := by decide +kernel
theorem dX11_today_31 : decode cX11_today 31 = .ok (.if_icmp .ge 16, 3) := by decide +kernel
theorem dX11_today_34 : decode cX11_today 34 = .ok (.aload_n 0, 1) := by decide +kernel
theorem dX11_today_35 : decode cX11_today 35 = .ok (.iload_n 3, 1) := by decide +kernel
theorem dX11_today_36 : decode cX11_today 36 = .ok (.invokevirtual 249, 3) := by decide +kernel
theorem dX11_today_39 : decode cX11_today 39 = .ok (.istore 4, 2) := by decide +kernel
theorem dX11_today_41 : decode cX11_today 41 = .ok (.iinc 3 1, 3) := by decide +kernel
theorem dX11_today_44 : decode cX11_today 44 = .ok (.goto (-18), 3) := by decide +kernel
theorem dX11_today_47 : decode cX11_today 47 = .ok (.iload_n 2, 1) := by decide +kernel
theorem dX11_today_48 : decode cX11_today 48 = .ok (.ireturn, 1) := by decide +kernel
theorem dX11_comes_0 : decode cX11_comes 0 = .ok (.aload_n 0, 1) := by decide +kernel
theorem dX11_comes_1 : decode cX11_comes 1 = .ok (.getfield 53, 3) := by decide +kernel
theorem dX11_comes_4 : decode cX11_comes 4 = .ok (.iload_n 1, 1) := by decide +kernel
theorem dX11_comes_5 : decode cX11_comes 5 = .ok (.iload_n 2, 1) := by decide +kernel
theorem dX11_comes_6 : decode cX11_comes 6 = .ok (.iastore, 1) := by decide +kernel
theorem dX11_comes_7 : decode cX11_comes 7 = .ok (.aload_n 0, 1) := by decide +kernel
theorem dX11_comes_8 : decode cX11_comes 8 = .ok (.getfield 74, 3) := by decide +kernel
theorem dX11_comes_11 : decode cX11_comes 11 = .ok (.iload_n 1, 1) := by decide +kernel
theorem dX11_comes_12 : decode cX11_comes 12 = .ok (.iconst 0, 1) := by decide +kernel
theorem dX11_comes_13 : decode cX11_comes 13 = .ok (.iastore, 1) := by decide +kernel
theorem dX11_comes_14 : decode cX11_comes 14 = .ok (.aload_n 0, 1) := by decide +kernel
theorem dX11_comes_15 : decode cX11_comes 15 = .ok (.iload_n 1, 1) := by decide +kernel
theorem dX11_comes_16 : decode cX11_comes 16 = .ok (.invokevirtual 249, 3) := by decide +kernel
theorem dX11_comes_19 : decode cX11_comes 19 = .ok (.ireturn, 1) := by decide +kernel
theorem dX11_go_0 : decode cX11_go 0 = .ok (.aload_n 0, 1) := by decide +kernel
theorem dX11_go_1 : decode cX11_go 1 = .ok (.iload_n 1, 1) := by decide +kernel
theorem dX11_go_2 : decode cX11_go 2 = .ok (.invokevirtual 252, 3) := by decide +kernel
theorem dX11_go_5 : decode cX11_go 5 = .ok (.ifCond .eq 11, 3) := by decide +kernel
theorem dX11_go_8 : decode cX11_go 8 = .ok (.aload_n 0, 1) := by decide +kernel
theorem dX11_go_9 : decode cX11_go 9 = .ok (.iload_n 2, 1) := by decide +kernel
theorem dX11_go_10 : decode cX11_go 10 = .ok (.invokevirtual 141, 3) := by decide +kernel
theorem dX11_go_13 : decode cX11_go 13 = .ok (.ifCond .ne 10, 3) := by decide +kernel
theorem dX11_go_16 : decode cX11_go 16 = .ok (.aload_n 0, 1) := by decide +kernel
theorem dX11_go_17 : decode cX11_go 17 = .ok (.ldc 131, 2) := by decide +kernel
theorem dX11_go_19 : decode cX11_go 19 = .ok (.invokevirtual 132, 3) := by decide +kernel
theorem dX11_go_22 : decode cX11_go 22 = .ok (.ireturn, 1) := by decide +kernel
theorem dX11_go_23 : decode cX11_go 23 = .ok (.aload_n 0, 1) := by decide +kernel
theorem dX11_go_24 : decode cX11_go 24 = .ok (.iload_n 1, 1) := by decide +kernel
theorem dX11_go_25 : decode cX11_go 25 = .ok (.invokevirtual 255, 3) := by decide +kernel
theorem dX11_go_28 : decode cX11_go 28 = .ok (.ifCond .eq 10, 3) := by decide +kernel
theorem dX11_go_31 : decode cX11_go 31 = .ok (.aload_n 0, 1) := by decide +kernel
theorem dX11_go_32 : decode cX11_go 32 = .ok (.ldc 248, 2) := by decide +kernel
theorem dX11_go_34 : decode cX11_go 34 = .ok (.invokevirtual 132, 3) := by decide +kernel
theorem dX11_go_37 : decode cX11_go 37 = .ok (.ireturn, 1) := by decide +kernel
theorem dX11_go_38 : decode cX11_go 38 = .ok (.aload_n 0, 1) := by decide +kernel
theorem dX11_go_39 : decode cX11_go 39 = .ok (.getfield 53, 3) := by decide +kernel
theorem dX11_go_42 : decode cX11_go 42 = .ok (.iload_n 1, 1) := by decide +kernel
theorem dX11_go_43 : decode cX11_go 43 = .ok (.iaload, 1) := by decide +kernel
theorem dX11_go_44 : decode cX11_go 44 = .ok (.istore_n 3, 1) := by decide +kernel
theorem dX11_go_45 : decode cX11_go 45 = .ok (.aload_n 0, 1) := by decide +kernel
theorem dX11_go_46 : decode cX11_go 46 = .ok (.getfield 16, 3) := by decide +kernel
theorem dX11_go_49 : decode cX11_go 49 = .ok (.iload_n 2, 1) := by decide +kernel
theorem dX11_go_50 : decode cX11_go 50 = .ok (.iaload, 1) := by decide +kernel
theorem dX11_go_51 : decode cX11_go 51 = .ok (.iload_n 3, 1) := by decide +kernel
theorem dX11_go_52 : decode cX11_go 52 = .ok (.if_icmp .eq 13, 3) := by decide +kernel
theorem dX11_go_55 : decode cX11_go 55 = .ok (.aload_n 0, 1) := by decide +kernel
theorem dX11_go_56 : decode cX11_go 56 = .ok (.getfield 19, 3) := by decide +kernel
theorem dX11_go_59 : decode cX11_go 59 = .ok (.iload_n 2, 1) := by decide +kernel
theorem dX11_go_60 : decode cX11_go 60 = .ok (.iaload, 1) := by decide +kernel
theorem dX11_go_61 : decode cX11_go 61 = .ok (.iload_n 3, 1) := by decide +kernel
theorem dX11_go_62 : decode cX11_go 62 = .ok (.if_icmp .ne 20, 3) := by decide +kernel
theorem dX11_go_65 : decode cX11_go 65 = .ok (.aload_n 0, 1) := by decide +kernel
theorem dX11_go_66 : decode cX11_go 66 = .ok (.getfield 29, 3) := by decide +kernel
theorem dX11_go_69 : decode cX11_go 69 = .ok (.iload_n 2, 1) := by decide +kernel
theorem dX11_go_70 : decode cX11_go 70 = .ok (.iaload, 1) := by decide +kernel
theorem dX11_go_71 : decode cX11_go 71 = .ok (.aload_n 0, 1) := by decide +kernel
theorem dX11_go_72 : decode cX11_go 72 = .ok (.getfield 245, 3) := by decide +kernel
theorem dX11_go_75 : decode cX11_go 75 = .ok (.ishr, 1) := by decide +kernel
theorem dX11_go_76 : decode cX11_go 76 = .ok (.iconst 1, 1) := by decide +kernel
theorem dX11_go_77 : decode cX11_go 77 = .ok (.iand, 1) := by decide +kernel
theorem dX11_go_78 : decode cX11_go 78 = .ok (.iconst 1, 1) := by decide +kernel
theorem dX11_go_79 : decode cX11_go 79 = .ok (.if_icmp .ne 10, 3) := by decide +kernel
theorem dX11_go_82 : decode cX11_go 82 = .ok (.aload_n 0, 1) := by decide +kernel
theorem dX11_go_83 : decode cX11_go 83 = .ok (.ldc 158, 2) := by decide +kernel
theorem dX11_go_85 : decode cX11_go 85 = .ok (.invokevirtual 132, 3) := by decide +kernel
theorem dX11_go_88 : decode cX11_go 88 = .ok (.ireturn, 1) := by decide +kernel
theorem dX11_go_89 : decode cX11_go 89 = .ok (.aload_n 0, 1) := by decide +kernel
theorem dX11_go_90 : decode cX11_go 90 = .ok (.getfield 25, 3) := by decide +kernel
theorem dX11_go_93 : decode cX11_go 93 = .ok (.iload_n 2, 1) := by decide +kernel
theorem dX11_go_94 : decode cX11_go 94 = .ok (.baload, 1) := by decide +kernel
theorem dX11_go_95 : decode cX11_go 95 = .ok (.ifCond .eq 19, 3) := by decide +kernel
theorem dX11_go_98 : decode cX11_go 98 = .ok (.aload_n 0, 1) := by decide +kernel
theorem dX11_go_99 : decode cX11_go 99 = .ok (.getfield 65, 3) := by decide +kernel
theorem dX11_go_102 : decode cX11_go 102 = .ok (.iload_n 1, 1) := by decide +kernel
theorem dX11_go_103 : decode cX11_go 103 = .ok (.baload, 1) := by decide +kernel
theorem dX11_go_104 : decode cX11_go 104 = .ok (.ifCond .ne 10, 3) := by decide +kernel
theorem dX11_go_107 : decode cX11_go 107 = .ok (.aload_n 0, 1) := by decide +kernel
theorem dX11_go_108 : decode cX11_go 108 = .ok (.ldc 198, 2) := by decide +kernel
theorem dX11_go_110 : decode cX11_go 110 = .ok (.invokevirtual 132, 3) := by decide +kernel
theorem dX11_go_113 : decode cX11_go 113 = .ok (.ireturn, 1) := by decide +kernel
theorem dX11_go_114 : decode cX11_go 114 = .ok (.aload_n 0, 1) := by decide +kernel
theorem dX11_go_115 : decode cX11_go 115 = .ok (.getfield 59, 3) := by decide +kernel
theorem dX11_go_118 : decode cX11_go 118 = .ok (.iload_n 1, 1) := by decide +kernel
theorem dX11_go_119 : decode cX11_go 119 = .ok (.dup2, 1) := by decide +kernel
theorem dX11_go_120 : decode cX11_go 120 = .ok (.iaload, 1) := by decide +kernel
theorem dX11_go_121 : decode cX11_go 121 = .ok (.aload_n 0, 1) := by decide +kernel
theorem dX11_go_122 : decode cX11_go 122 = .ok (.getfield 22, 3) := by decide +kernel
theorem dX11_go_125 : decode cX11_go 125 = .ok (.iload_n 2, 1) := by decide +kernel
theorem dX11_go_126 : decode cX11_go 126 = .ok (.iaload, 1) := by decide +kernel
theorem dX11_go_127 : decode cX11_go 127 = .ok (.iadd, 1) := by decide +kernel
theorem dX11_go_128 : decode cX11_go 128 = .ok (.iastore, 1) := by decide +kernel
theorem dX11_go_129 : decode cX11_go 129 = .ok (.aload_n 0, 1) := by decide +kernel
theorem dX11_go_130 : decode cX11_go 130 = .ok (.iload_n 1, 1) := by decide +kernel
theorem dX11_go_131 : decode cX11_go 131 = .ok (.aload_n 0, 1) := by decide +kernel
theorem dX11_go_132 : decode cX11_go 132 = .ok (.getfield 16, 3) := by decide +kernel
theorem dX11_go_135 : decode cX11_go 135 = .ok (.iload_n 2, 1) := by decide +kernel
theorem dX11_go_136 : decode cX11_go 136 = .ok (.iaload, 1) := by decide +kernel
theorem dX11_go_137 : decode cX11_go 137 = .ok (.aload_n 0, 1) := by decide +kernel
theorem dX11_go_138 : decode cX11_go 138 = .ok (.getfield 19, 3) := by decide +kernel
theorem dX11_go_141 : decode cX11_go 141 = .ok (.iload_n 2, 1) := by decide +kernel
theorem dX11_go_142 : decode cX11_go 142 = .ok (.iaload, 1) := by decide +kernel
theorem dX11_go_143 : decode cX11_go 143 = .ok (.iadd, 1) := by decide +kernel
theorem dX11_go_144 : decode cX11_go 144 = .ok (.iload_n 3, 1) := by decide +kernel
theorem dX11_go_145 : decode cX11_go 145 = .ok (.isub, 1) := by decide +kernel
theorem dX11_go_146 : decode cX11_go 146 = .ok (.invokevirtual 258, 3) := by decide +kernel
theorem dX11_go_149 : decode cX11_go 149 = .ok (.ireturn, 1) := by decide +kernel
theorem dX11_about_0 : decode cX11_about 0 = .ok (.aload_n 0, 1) := by decide +kernel
theorem dX11_about_1 : decode cX11_about 1 = .ok (.iload_n 1, 1) := by decide +kernel
theorem dX11_about_2 : decode cX11_about 2 = .ok (.invokevirtual 252, 3) := by decide +kernel
theorem dX11_about_5 : decode cX11_about 5 = .ok (.ifCond .ne 10, 3) := by decide +kernel
theorem dX11_about_8 : decode cX11_about 8 = .ok (.aload_n 0, 1) := by decide +kernel
theorem dX11_about_9 : decode cX11_about 9 = .ok (.ldc 131, 2) := by decide +kernel
theorem dX11_about_11 : decode cX11_about 11 = .ok (.invokevirtual 132, 3) := by decide +kernel
theorem dX11_about_14 : decode cX11_about 14 = .ok (.ireturn, 1) := by decide +kernel
theorem dX11_about_15 : decode cX11_about 15 = .ok (.iload_n 2, 1) := by decide +kernel
theorem dX11_about_16 : decode cX11_about 16 = .ok (.tableswitch 89 0 5 #[40, 47, 54, 61, 68, 82], 40) := by decide +kernel
theorem dX11_about_56 : decode cX11_about 56 = .ok (.aload_n 0, 1) := by decide +kernel
theorem dX11_about_57 : decode cX11_about 57 = .ok (.getfield 53, 3) := by decide +kernel
theorem dX11_about_60 : decode cX11_about 60 = .ok (.iload_n 1, 1) := by decide +kernel
theorem dX11_about_61 : decode cX11_about 61 = .ok (.iaload, 1) := by decide +kernel
theorem dX11_about_62 : decode cX11_about 62 = .ok (.ireturn, 1) := by decide +kernel
theorem dX11_about_63 : decode cX11_about 63 = .ok (.aload_n 0, 1) := by decide +kernel
theorem dX11_about_64 : decode cX11_about 64 = .ok (.getfield 56, 3) := by decide +kernel
theorem dX11_about_67 : decode cX11_about 67 = .ok (.iload_n 1, 1) := by decide +kernel
theorem dX11_about_68 : decode cX11_about 68 = .ok (.iaload, 1) := by decide +kernel
theorem dX11_about_69 : decode cX11_about 69 = .ok (.ireturn, 1) := by decide +kernel
theorem dX11_about_70 : decode cX11_about 70 = .ok (.aload_n 0, 1) := by decide +kernel
theorem dX11_about_71 : decode cX11_about 71 = .ok (.getfield 59, 3) := by decide +kernel
theorem dX11_about_74 : decode cX11_about 74 = .ok (.iload_n 1, 1) := by decide +kernel
theorem dX11_about_75 : decode cX11_about 75 = .ok (.iaload, 1) := by decide +kernel
theorem dX11_about_76 : decode cX11_about 76 = .ok (.ireturn, 1) := by decide +kernel
theorem dX11_about_77 : decode cX11_about 77 = .ok (.aload_n 0, 1) := by decide +kernel
theorem dX11_about_78 : decode cX11_about 78 = .ok (.getfield 62, 3) := by decide +kernel
theorem dX11_about_81 : decode cX11_about 81 = .ok (.iload_n 1, 1) := by decide +kernel
theorem dX11_about_82 : decode cX11_about 82 = .ok (.iaload, 1) := by decide +kernel
theorem dX11_about_83 : decode cX11_about 83 = .ok (.ireturn, 1) := by decide +kernel
theorem dX11_about_84 : decode cX11_about 84 = .ok (.aload_n 0, 1) := by decide +kernel
theorem dX11_about_85 : decode cX11_about 85 = .ok (.iload_n 1, 1) := by decide +kernel
theorem dX11_about_86 : decode cX11_about 86 = .ok (.invokevirtual 255, 3) := by decide +kernel
theorem dX11_about_89 : decode cX11_about 89 = .ok (.ifCond .eq 7, 3) := by decide +kernel
theorem dX11_about_92 : decode cX11_about 92 = .ok (.iconst 1, 1) := by decide +kernel
theorem dX11_about_93 : decode cX11_about 93 = .ok (.goto 4, 3) := by decide +kernel
theorem dX11_about_96 : decode cX11_about 96 = .ok (.iconst 0, 1) := by decide +kernel
theorem dX11_about_97 : decode cX11_about 97 = .ok (.ireturn, 1) := by decide +kernel
theorem dX11_about_98 : decode cX11_about 98 = .ok (.aload_n 0, 1) := by decide +kernel
theorem dX11_about_99 : decode cX11_about 99 = .ok (.getfield 68, 3) := by decide +kernel
theorem dX11_about_102 : decode cX11_about 102 = .ok (.iload_n 1, 1) := by decide +kernel
theorem dX11_about_103 : decode cX11_about 103 = .ok (.iaload, 1) := by decide +kernel
theorem dX11_about_104 : decode cX11_about 104 = .ok (.ireturn, 1) := by decide +kernel
theorem dX11_about_105 : decode cX11_about 105 = .ok (.aload_n 0, 1) := by decide +kernel
theorem dX11_about_106 : decode cX11_about 106 = .ok (.ldc 131, 2) := by decide +kernel
theorem dX11_about_108 : decode cX11_about 108 = .ok (.invokevirtual 132, 3) := by decide +kernel
theorem dX11_about_111 : decode cX11_about 111 = .ok (.ireturn, 1) := by decide +kernel
theorem dX11_wayTo_0 : decode cX11_wayTo 0 = .ok (.ldc 147, 2) := by decide +kernel
theorem dX11_wayTo_2 : decode cX11_wayTo 2 = .ok (.istore_n 3, 1) := by decide +kernel
theorem dX11_wayTo_3 : decode cX11_wayTo 3 = .ok (.iconst 0, 1) := by decide +kernel
theorem dX11_wayTo_4 : decode cX11_wayTo 4 = .ok (.istore 4, 2) := by decide +kernel
theorem dX11_wayTo_6 : decode cX11_wayTo 6 = .ok (.iload 4, 2) := by decide +kernel
theorem dX11_wayTo_8 : decode cX11_wayTo 8 = .ok (.aload_n 0, 1) := by decide +kernel
theorem dX11_wayTo_9 : decode cX11_wayTo 9 = .ok (.getfield 125, 3) := by decide +kernel
theorem dX11_wayTo_12 : decode cX11_wayTo 12 = .ok (.if_icmp .ge 110, 3) := by decide +kernel
theorem dX11_wayTo_15 : decode cX11_wayTo 15 = .ok (.aload_n 0, 1) := by decide +kernel
theorem dX11_wayTo_16 : decode cX11_wayTo 16 = .ok (.getfield 16, 3) := by decide +kernel
theorem dX11_wayTo_19 : decode cX11_wayTo 19 = .ok (.iload 4, 2) := by decide +kernel
theorem dX11_wayTo_21 : decode cX11_wayTo 21 = .ok (.iaload, 1) := by decide +kernel
theorem dX11_wayTo_22 : decode cX11_wayTo 22 = .ok (.aload_n 0, 1) := by decide +kernel
theorem dX11_wayTo_23 : decode cX11_wayTo 23 = .ok (.getfield 53, 3) := by decide +kernel
theorem dX11_wayTo_26 : decode cX11_wayTo 26 = .ok (.iload_n 1, 1) := by decide +kernel
theorem dX11_wayTo_27 : decode cX11_wayTo 27 = .ok (.iaload, 1) := by decide +kernel
theorem dX11_wayTo_28 : decode cX11_wayTo 28 = .ok (.if_icmp .ne 14, 3) := by decide +kernel
theorem dX11_wayTo_31 : decode cX11_wayTo 31 = .ok (.aload_n 0, 1) := by decide +kernel
theorem dX11_wayTo_32 : decode cX11_wayTo 32 = .ok (.getfield 19, 3) := by decide +kernel
theorem dX11_wayTo_35 : decode cX11_wayTo 35 = .ok (.iload 4, 2) := by decide +kernel
theorem dX11_wayTo_37 : decode cX11_wayTo 37 = .ok (.iaload, 1) := by decide +kernel
theorem dX11_wayTo_38 : decode cX11_wayTo 38 = .ok (.iload_n 2, 1) := by decide +kernel
theorem dX11_wayTo_39 : decode cX11_wayTo 39 = .ok (.if_icmp .eq 30, 3) := by decide +kernel
theorem dX11_wayTo_42 : decode cX11_wayTo 42 = .ok (.aload_n 0, 1) := by decide +kernel
theorem dX11_wayTo_43 : decode cX11_wayTo 43 = .ok (.getfield 19, 3) := by decide +kernel
theorem dX11_wayTo_46 : decode cX11_wayTo 46 = .ok (.iload 4, 2) := by decide +kernel
theorem dX11_wayTo_48 : decode cX11_wayTo 48 = .ok (.iaload, 1) := by decide +kernel
theorem dX11_wayTo_49 : decode cX11_wayTo 49 = .ok (.aload_n 0, 1) := by decide +kernel
theorem dX11_wayTo_50 : decode cX11_wayTo 50 = .ok (.getfield 53, 3) := by decide +kernel
theorem dX11_wayTo_53 : decode cX11_wayTo 53 = .ok (.iload_n 1, 1) := by decide +kernel
theorem dX11_wayTo_54 : decode cX11_wayTo 54 = .ok (.iaload, 1) := by decide +kernel
theorem dX11_wayTo_55 : decode cX11_wayTo 55 = .ok (.if_icmp .ne 18, 3) := by decide +kernel
theorem dX11_wayTo_58 : decode cX11_wayTo 58 = .ok (.aload_n 0, 1) := by decide +kernel
theorem dX11_wayTo_59 : decode cX11_wayTo 59 = .ok (.getfield 16, 3) := by decide +kernel
theorem dX11_wayTo_62 : decode cX11_wayTo 62 = .ok (.iload 4, 2) := by decide +kernel
theorem dX11_wayTo_64 : decode cX11_wayTo 64 = .ok (.iaload, 1) := by decide +kernel
theorem dX11_wayTo_65 : decode cX11_wayTo 65 = .ok (.iload_n 2, 1) := by decide +kernel
theorem dX11_wayTo_66 : decode cX11_wayTo 66 = .ok (.if_icmp .ne 7, 3) := by decide +kernel
theorem dX11_wayTo_69 : decode cX11_wayTo 69 = .ok (.iconst 1, 1) := by decide +kernel
theorem dX11_wayTo_70 : decode cX11_wayTo 70 = .ok (.goto 4, 3) := by decide +kernel
theorem dX11_wayTo_73 : decode cX11_wayTo 73 = .ok (.iconst 0, 1) := by decide +kernel
theorem dX11_wayTo_74 : decode cX11_wayTo 74 = .ok (.istore 5, 2) := by decide +kernel
theorem dX11_wayTo_76 : decode cX11_wayTo 76 = .ok (.iload 5, 2) := by decide +kernel
theorem dX11_wayTo_78 : decode cX11_wayTo 78 = .ok (.ifCond .eq 36, 3) := by decide +kernel
theorem dX11_wayTo_81 : decode cX11_wayTo 81 = .ok (.aload_n 0, 1) := by decide +kernel
theorem dX11_wayTo_82 : decode cX11_wayTo 82 = .ok (.iload 4, 2) := by decide +kernel
theorem dX11_wayTo_84 : decode cX11_wayTo 84 = .ok (.aload_n 0, 1) := by decide +kernel
theorem dX11_wayTo_85 : decode cX11_wayTo 85 = .ok (.getfield 245, 3) := by decide +kernel
theorem dX11_wayTo_88 : decode cX11_wayTo 88 = .ok (.aload_n 0, 1) := by decide +kernel
theorem dX11_wayTo_89 : decode cX11_wayTo 89 = .ok (.getfield 65, 3) := by decide +kernel
theorem dX11_wayTo_92 : decode cX11_wayTo 92 = .ok (.iload_n 1, 1) := by decide +kernel
theorem dX11_wayTo_93 : decode cX11_wayTo 93 = .ok (.baload, 1) := by decide +kernel
theorem dX11_wayTo_94 : decode cX11_wayTo 94 = .ok (.invokevirtual 148, 3) := by decide +kernel
theorem dX11_wayTo_97 : decode cX11_wayTo 97 = .ok (.ifCond .eq 17, 3) := by decide +kernel
theorem dX11_wayTo_100 : decode cX11_wayTo 100 = .ok (.iload_n 3, 1) := by decide +kernel
theorem dX11_wayTo_101 : decode cX11_wayTo 101 = .ok (.aload_n 0, 1) := by decide +kernel
theorem dX11_wayTo_102 : decode cX11_wayTo 102 = .ok (.getfield 22, 3) := by decide +kernel
theorem dX11_wayTo_105 : decode cX11_wayTo 105 = .ok (.iload 4, 2) := by decide +kernel
theorem dX11_wayTo_107 : decode cX11_wayTo 107 = .ok (.iaload, 1) := by decide +kernel
theorem dX11_wayTo_108 : decode cX11_wayTo 108 = .ok (.invokestatic 152, 3) := by decide +kernel
theorem dX11_wayTo_111 : decode cX11_wayTo 111 = .ok (.goto 4, 3) := by decide +kernel
theorem dX11_wayTo_114 : decode cX11_wayTo 114 = .ok (.iload_n 3, 1) := by decide +kernel
theorem dX11_wayTo_115 : decode cX11_wayTo 115 = .ok (.istore_n 3, 1) := by decide +kernel
theorem dX11_wayTo_116 : decode cX11_wayTo 116 = .ok (.iinc 4 1, 3) := by decide +kernel
theorem dX11_wayTo_119 : decode cX11_wayTo 119 = .ok (.goto (-113), 3) := by decide +kernel
theorem dX11_wayTo_122 : decode cX11_wayTo 122 = .ok (.iload_n 3, 1) := by decide +kernel
theorem dX11_wayTo_123 : decode cX11_wayTo 123 = .ok (.ireturn, 1) := by decide +kernel
theorem dX11_othersAt_0 : decode cX11_othersAt 0 = .ok (.iconst 0, 1) := by decide +kernel
theorem dX11_othersAt_1 : decode cX11_othersAt 1 = .ok (.istore_n 3, 1) := by decide +kernel
theorem dX11_othersAt_2 : decode cX11_othersAt 2 = .ok (.iconst 0, 1) := by decide +kernel
theorem dX11_othersAt_3 : decode cX11_othersAt 3 = .ok (.istore 4, 2) := by decide +kernel
theorem dX11_othersAt_5 : decode cX11_othersAt 5 = .ok (.iload 4, 2) := by decide +kernel
theorem dX11_othersAt_7 : decode cX11_othersAt 7 = .ok (.aload_n 0, 1) := by decide +kernel
theorem dX11_othersAt_8 : decode cX11_othersAt 8 = .ok (.getfield 128, 3) := by decide +kernel
theorem dX11_othersAt_11 : decode cX11_othersAt 11 = .ok (.if_icmp .ge 43, 3) := by decide +kernel
theorem dX11_othersAt_14 : decode cX11_othersAt 14 = .ok (.iload_n 3, 1) := by decide +kernel
theorem dX11_othersAt_15 : decode cX11_othersAt 15 = .ok (.iload 4, 2) := by decide +kernel
theorem dX11_othersAt_17 : decode cX11_othersAt 17 = .ok (.iload_n 1, 1) := by decide +kernel
theorem dX11_othersAt_18 : decode cX11_othersAt 18 = .ok (.if_icmp .eq 27, 3) := by decide +kernel
theorem dX11_othersAt_21 : decode cX11_othersAt 21 = .ok (.aload_n 0, 1) := by decide +kernel
theorem dX11_othersAt_22 : decode cX11_othersAt 22 = .ok (.getfield 53, 3) := by decide +kernel
theorem dX11_othersAt_25 : decode cX11_othersAt 25 = .ok (.iload 4, 2) := by decide +kernel
theorem dX11_othersAt_27 : decode cX11_othersAt 27 = .ok (.iaload, 1) := by decide +kernel
theorem dX11_othersAt_28 : decode cX11_othersAt 28 = .ok (.iload_n 2, 1) := by decide +kernel
theorem dX11_othersAt_29 : decode cX11_othersAt 29 = .ok (.if_icmp .ne 16, 3) := by decide +kernel
theorem dX11_othersAt_32 : decode cX11_othersAt 32 = .ok (.aload_n 0, 1) := by decide +kernel
theorem dX11_othersAt_33 : decode cX11_othersAt 33 = .ok (.iload 4, 2) := by decide +kernel
theorem dX11_othersAt_35 : decode cX11_othersAt 35 = .ok (.invokevirtual 255, 3) := by decide +kernel
theorem dX11_othersAt_38 : decode cX11_othersAt 38 = .ok (.ifCond .ne 7, 3) := by decide +kernel
theorem dX11_othersAt_41 : decode cX11_othersAt 41 = .ok (.iconst 1, 1) := by decide +kernel
theorem dX11_othersAt_42 : decode cX11_othersAt 42 = .ok (.goto 4, 3) := by decide +kernel
theorem dX11_othersAt_45 : decode cX11_othersAt 45 = .ok (.iconst 0, 1) := by decide +kernel
theorem dX11_othersAt_46 : decode cX11_othersAt 46 = .ok (.iadd, 1) := by decide +kernel
theorem dX11_othersAt_47 : decode cX11_othersAt 47 = .ok (.istore_n 3, 1) := by decide +kernel
theorem dX11_othersAt_48 : decode cX11_othersAt 48 = .ok (.iinc 4 1, 3) := by decide +kernel
theorem dX11_othersAt_51 : decode cX11_othersAt 51 = .ok (.goto (-46), 3) := by decide +kernel
theorem dX11_othersAt_54 : decode cX11_othersAt 54 = .ok (.iload_n 3, 1) := by decide +kernel
theorem dX11_othersAt_55 : decode cX11_othersAt 55 = .ok (.ireturn, 1) := by decide +kernel
theorem dX11_offer_0 : decode cX11_offer 0 = .ok (.aload_n 0, 1) := by decide +kernel
theorem dX11_offer_1 : decode cX11_offer 1 = .ok (.iload_n 1, 1) := by decide +kernel
theorem dX11_offer_2 : decode cX11_offer 2 = .ok (.invokevirtual 252, 3) := by decide +kernel
theorem dX11_offer_5 : decode cX11_offer 5 = .ok (.ifCond .ne 10, 3) := by decide +kernel
theorem dX11_offer_8 : decode cX11_offer 8 = .ok (.aload_n 0, 1) := by decide +kernel
theorem dX11_offer_9 : decode cX11_offer 9 = .ok (.ldc 131, 2) := by decide +kernel
theorem dX11_offer_11 : decode cX11_offer 11 = .ok (.invokevirtual 132, 3) := by decide +kernel
theorem dX11_offer_14 : decode cX11_offer 14 = .ok (.ireturn, 1) := by decide +kernel
theorem dX11_offer_15 : decode cX11_offer 15 = .ok (.aload_n 0, 1) := by decide +kernel
theorem dX11_offer_16 : decode cX11_offer 16 = .ok (.iload_n 1, 1) := by decide +kernel
theorem dX11_offer_17 : decode cX11_offer 17 = .ok (.invokevirtual 255, 3) := by decide +kernel
theorem dX11_offer_20 : decode cX11_offer 20 = .ok (.ifCond .eq 10, 3) := by decide +kernel
theorem dX11_offer_23 : decode cX11_offer 23 = .ok (.aload_n 0, 1) := by decide +kernel
theorem dX11_offer_24 : decode cX11_offer 24 = .ok (.ldc 248, 2) := by decide +kernel
theorem dX11_offer_26 : decode cX11_offer 26 = .ok (.invokevirtual 132, 3) := by decide +kernel
theorem dX11_offer_29 : decode cX11_offer 29 = .ok (.ireturn, 1) := by decide +kernel
theorem dX11_offer_30 : decode cX11_offer 30 = .ok (.aload_n 0, 1) := by decide +kernel
theorem dX11_offer_31 : decode cX11_offer 31 = .ok (.aload_n 0, 1) := by decide +kernel
theorem dX11_offer_32 : decode cX11_offer 32 = .ok (.getfield 62, 3) := by decide +kernel
theorem dX11_offer_35 : decode cX11_offer 35 = .ok (.iload_n 1, 1) := by decide +kernel
theorem dX11_offer_36 : decode cX11_offer 36 = .ok (.iaload, 1) := by decide +kernel
theorem dX11_offer_37 : decode cX11_offer 37 = .ok (.aload_n 0, 1) := by decide +kernel
theorem dX11_offer_38 : decode cX11_offer 38 = .ok (.getfield 245, 3) := by decide +kernel
theorem dX11_offer_41 : decode cX11_offer 41 = .ok (.aload_n 0, 1) := by decide +kernel
theorem dX11_offer_42 : decode cX11_offer 42 = .ok (.getfield 65, 3) := by decide +kernel
theorem dX11_offer_45 : decode cX11_offer 45 = .ok (.iload_n 1, 1) := by decide +kernel
theorem dX11_offer_46 : decode cX11_offer 46 = .ok (.baload, 1) := by decide +kernel
theorem dX11_offer_47 : decode cX11_offer 47 = .ok (.invokevirtual 231, 3) := by decide +kernel
theorem dX11_offer_50 : decode cX11_offer 50 = .ok (.iconst (-1), 1) := by decide +kernel
theorem dX11_offer_51 : decode cX11_offer 51 = .ok (.istore_n 2, 1) := by decide +kernel
theorem dX11_offer_52 : decode cX11_offer 52 = .ok (.iconst 0, 1) := by decide +kernel
theorem dX11_offer_53 : decode cX11_offer 53 = .ok (.istore_n 3, 1) := by decide +kernel
theorem dX11_offer_54 : decode cX11_offer 54 = .ok (.iconst 0, 1) := by decide +kernel
theorem dX11_offer_55 : decode cX11_offer 55 = .ok (.istore 4, 2) := by decide +kernel
theorem dX11_offer_57 : decode cX11_offer 57 = .ok (.iconst 0, 1) := by decide +kernel
theorem dX11_offer_58 : decode cX11_offer 58 = .ok (.istore 5, 2) := by decide +kernel
theorem dX11_offer_60 : decode cX11_offer 60 = .ok (.iload 5, 2) := by decide +kernel
theorem dX11_offer_62 : decode cX11_offer 62 = .ok (.aload_n 0, 1) := by decide +kernel
theorem dX11_offer_63 : decode cX11_offer 63 = .ok (.getfield 118, 3) := by decide +kernel
theorem dX11_offer_66 : decode cX11_offer 66 = .ok (.if_icmp .ge 98, 3) := by decide +kernel
theorem dX11_offer_69 : decode cX11_offer 69 = .ok (.aload_n 0, 1) := by decide +kernel
theorem dX11_offer_70 : decode cX11_offer 70 = .ok (.iload_n 1, 1) := by decide +kernel
theorem dX11_offer_71 : decode cX11_offer 71 = .ok (.iload 5, 2) := by decide +kernel
theorem dX11_offer_73 : decode cX11_offer 73 = .ok (.invokevirtual 261, 3) := by decide +kernel
theorem dX11_offer_76 : decode cX11_offer 76 = .ok (.istore 6, 2) := by decide +kernel
theorem dX11_offer_78 : decode cX11_offer 78 = .ok (.iload 6, 2) := by decide +kernel
theorem dX11_offer_80 : decode cX11_offer 80 = .ok (.aload_n 0, 1) := by decide +kernel
theorem dX11_offer_81 : decode cX11_offer 81 = .ok (.getfield 102, 3) := by decide +kernel
theorem dX11_offer_84 : decode cX11_offer 84 = .ok (.iload 5, 2) := by decide +kernel
theorem dX11_offer_86 : decode cX11_offer 86 = .ok (.aload_n 0, 1) := by decide +kernel
theorem dX11_offer_87 : decode cX11_offer 87 = .ok (.getfield 56, 3) := by decide +kernel
theorem dX11_offer_90 : decode cX11_offer 90 = .ok (.iload_n 1, 1) := by decide +kernel
theorem dX11_offer_91 : decode cX11_offer 91 = .ok (.iaload, 1) := by decide +kernel
theorem dX11_offer_92 : decode cX11_offer 92 = .ok (.invokestatic 210, 3) := by decide +kernel
theorem dX11_offer_95 : decode cX11_offer 95 = .ok (.iaload, 1) := by decide +kernel
theorem dX11_offer_96 : decode cX11_offer 96 = .ok (.iadd, 1) := by decide +kernel
theorem dX11_offer_97 : decode cX11_offer 97 = .ok (.istore 7, 2) := by decide +kernel
theorem dX11_offer_99 : decode cX11_offer 99 = .ok (.iload 6, 2) := by decide +kernel
theorem dX11_offer_101 : decode cX11_offer 101 = .ok (.ldc 147, 2) := by decide +kernel
theorem dX11_offer_103 : decode cX11_offer 103 = .ok (.if_icmp .ge 55, 3) := by decide +kernel
theorem dX11_offer_106 : decode cX11_offer 106 = .ok (.iload 7, 2) := by decide +kernel
theorem dX11_offer_108 : decode cX11_offer 108 = .ok (.ldc 147, 2) := by decide +kernel
theorem dX11_offer_110 : decode cX11_offer 110 = .ok (.if_icmp .lt 6, 3) := by decide +kernel
theorem dX11_offer_113 : decode cX11_offer 113 = .ok (.goto 45, 3) := by decide +kernel
theorem dX11_offer_116 : decode cX11_offer 116 = .ok (.aload_n 0, 1) := by decide +kernel
theorem dX11_offer_117 : decode cX11_offer 117 = .ok (.iload_n 1, 1) := by decide +kernel
theorem dX11_offer_118 : decode cX11_offer 118 = .ok (.iload 5, 2) := by decide +kernel
theorem dX11_offer_120 : decode cX11_offer 120 = .ok (.invokevirtual 264, 3) := by decide +kernel
theorem dX11_offer_123 : decode cX11_offer 123 = .ok (.istore 8, 2) := by decide +kernel
theorem dX11_offer_125 : decode cX11_offer 125 = .ok (.iload_n 2, 1) := by decide +kernel
theorem dX11_offer_126 : decode cX11_offer 126 = .ok (.ifCond .lt 22, 3) := by decide +kernel
theorem dX11_offer_129 : decode cX11_offer 129 = .ok (.iload 8, 2) := by decide +kernel
theorem dX11_offer_131 : decode cX11_offer 131 = .ok (.iload_n 3, 1) := by decide +kernel
theorem dX11_offer_132 : decode cX11_offer 132 = .ok (.if_icmp .lt 16, 3) := by decide +kernel
theorem dX11_offer_135 : decode cX11_offer 135 = .ok (.iload 8, 2) := by decide +kernel
theorem dX11_offer_137 : decode cX11_offer 137 = .ok (.iload_n 3, 1) := by decide +kernel
theorem dX11_offer_138 : decode cX11_offer 138 = .ok (.if_icmp .ne 20, 3) := by decide +kernel
theorem dX11_offer_141 : decode cX11_offer 141 = .ok (.iload 7, 2) := by decide +kernel
theorem dX11_offer_143 : decode cX11_offer 143 = .ok (.iload 4, 2) := by decide +kernel
theorem dX11_offer_145 : decode cX11_offer 145 = .ok (.if_icmp .ge 13, 3) := by decide +kernel
theorem dX11_offer_148 : decode cX11_offer 148 = .ok (.iload 5, 2) := by decide +kernel
theorem dX11_offer_150 : decode cX11_offer 150 = .ok (.istore_n 2, 1) := by decide +kernel
theorem dX11_offer_151 : decode cX11_offer 151 = .ok (.iload 8, 2) := by decide +kernel
theorem dX11_offer_153 : decode cX11_offer 153 = .ok (.istore_n 3, 1) := by decide +kernel
theorem dX11_offer_154 : decode cX11_offer 154 = .ok (.iload 7, 2) := by decide +kernel
theorem dX11_offer_156 : decode cX11_offer 156 = .ok (.istore 4, 2) := by decide +kernel
theorem dX11_offer_158 : decode cX11_offer 158 = .ok (.iinc 5 1, 3) := by decide +kernel
theorem dX11_offer_161 : decode cX11_offer 161 = .ok (.goto (-101), 3) := by decide +kernel
theorem dX11_offer_164 : decode cX11_offer 164 = .ok (.iload_n 2, 1) := by decide +kernel
theorem dX11_offer_165 : decode cX11_offer 165 = .ok (.ifCond .ge 12, 3) := by decide +kernel
theorem dX11_offer_168 : decode cX11_offer 168 = .ok (.aload_n 0, 1) := by decide +kernel
theorem dX11_offer_169 : decode cX11_offer 169 = .ok (.ldc 158, 2) := by decide +kernel
theorem dX11_offer_171 : decode cX11_offer 171 = .ok (.invokevirtual 132, 3) := by decide +kernel
theorem dX11_offer_174 : decode cX11_offer 174 = .ok (.goto 4, 3) := by decide +kernel
theorem dX11_offer_177 : decode cX11_offer 177 = .ok (.iload_n 2, 1) := by decide +kernel
theorem dX11_offer_178 : decode cX11_offer 178 = .ok (.ireturn, 1) := by decide +kernel
theorem dX11_rest_0 : decode cX11_rest 0 = .ok (.aload_n 0, 1) := by decide +kernel
theorem dX11_rest_1 : decode cX11_rest 1 = .ok (.iload_n 1, 1) := by decide +kernel
theorem dX11_rest_2 : decode cX11_rest 2 = .ok (.invokevirtual 252, 3) := by decide +kernel
theorem dX11_rest_5 : decode cX11_rest 5 = .ok (.ifCond .ne 10, 3) := by decide +kernel
theorem dX11_rest_8 : decode cX11_rest 8 = .ok (.aload_n 0, 1) := by decide +kernel
theorem dX11_rest_9 : decode cX11_rest 9 = .ok (.ldc 131, 2) := by decide +kernel
theorem dX11_rest_11 : decode cX11_rest 11 = .ok (.invokevirtual 132, 3) := by decide +kernel
theorem dX11_rest_14 : decode cX11_rest 14 = .ok (.ireturn, 1) := by decide +kernel
theorem dX11_rest_15 : decode cX11_rest 15 = .ok (.aload_n 0, 1) := by decide +kernel
theorem dX11_rest_16 : decode cX11_rest 16 = .ok (.aload_n 0, 1) := by decide +kernel
theorem dX11_rest_17 : decode cX11_rest 17 = .ok (.getfield 62, 3) := by decide +kernel
theorem dX11_rest_20 : decode cX11_rest 20 = .ok (.iload_n 1, 1) := by decide +kernel
theorem dX11_rest_21 : decode cX11_rest 21 = .ok (.iaload, 1) := by decide +kernel
theorem dX11_rest_22 : decode cX11_rest 22 = .ok (.aload_n 0, 1) := by decide +kernel
theorem dX11_rest_23 : decode cX11_rest 23 = .ok (.getfield 245, 3) := by decide +kernel
theorem dX11_rest_26 : decode cX11_rest 26 = .ok (.aload_n 0, 1) := by decide +kernel
theorem dX11_rest_27 : decode cX11_rest 27 = .ok (.getfield 65, 3) := by decide +kernel
theorem dX11_rest_30 : decode cX11_rest 30 = .ok (.iload_n 1, 1) := by decide +kernel
theorem dX11_rest_31 : decode cX11_rest 31 = .ok (.baload, 1) := by decide +kernel
theorem dX11_rest_32 : decode cX11_rest 32 = .ok (.invokevirtual 231, 3) := by decide +kernel
theorem dX11_rest_35 : decode cX11_rest 35 = .ok (.aload_n 0, 1) := by decide +kernel
theorem dX11_rest_36 : decode cX11_rest 36 = .ok (.getfield 102, 3) := by decide +kernel
theorem dX11_rest_39 : decode cX11_rest 39 = .ok (.aload_n 0, 1) := by decide +kernel
theorem dX11_rest_40 : decode cX11_rest 40 = .ok (.getfield 53, 3) := by decide +kernel
theorem dX11_rest_43 : decode cX11_rest 43 = .ok (.iload_n 1, 1) := by decide +kernel
theorem dX11_rest_44 : decode cX11_rest 44 = .ok (.iaload, 1) := by decide +kernel
theorem dX11_rest_45 : decode cX11_rest 45 = .ok (.aload_n 0, 1) := by decide +kernel
theorem dX11_rest_46 : decode cX11_rest 46 = .ok (.getfield 56, 3) := by decide +kernel
theorem dX11_rest_49 : decode cX11_rest 49 = .ok (.iload_n 1, 1) := by decide +kernel
theorem dX11_rest_50 : decode cX11_rest 50 = .ok (.iaload, 1) := by decide +kernel
theorem dX11_rest_51 : decode cX11_rest 51 = .ok (.invokestatic 210, 3) := by decide +kernel
theorem dX11_rest_54 : decode cX11_rest 54 = .ok (.iaload, 1) := by decide +kernel
theorem dX11_rest_55 : decode cX11_rest 55 = .ok (.istore_n 2, 1) := by decide +kernel
theorem dX11_rest_56 : decode cX11_rest 56 = .ok (.iload_n 2, 1) := by decide +kernel
theorem dX11_rest_57 : decode cX11_rest 57 = .ok (.ldc 147, 2) := by decide +kernel
theorem dX11_rest_59 : decode cX11_rest 59 = .ok (.if_icmp .lt 12, 3) := by decide +kernel
theorem dX11_rest_62 : decode cX11_rest 62 = .ok (.aload_n 0, 1) := by decide +kernel
theorem dX11_rest_63 : decode cX11_rest 63 = .ok (.ldc 158, 2) := by decide +kernel
theorem dX11_rest_65 : decode cX11_rest 65 = .ok (.invokevirtual 132, 3) := by decide +kernel
theorem dX11_rest_68 : decode cX11_rest 68 = .ok (.goto 4, 3) := by decide +kernel
theorem dX11_rest_71 : decode cX11_rest 71 = .ok (.iload_n 2, 1) := by decide +kernel
theorem dX11_rest_72 : decode cX11_rest 72 = .ok (.ireturn, 1) := by decide +kernel
theorem dX11_lost_0 : decode cX11_lost 0 = .ok (.aload_n 0, 1) := by decide +kernel
theorem dX11_lost_1 : decode cX11_lost 1 = .ok (.iload_n 1, 1) := by decide +kernel
theorem dX11_lost_2 : decode cX11_lost 2 = .ok (.invokevirtual 252, 3) := by decide +kernel
theorem dX11_lost_5 : decode cX11_lost 5 = .ok (.ifCond .ne 10, 3) := by decide +kernel
theorem dX11_lost_8 : decode cX11_lost 8 = .ok (.aload_n 0, 1) := by decide +kernel
theorem dX11_lost_9 : decode cX11_lost 9 = .ok (.ldc 131, 2) := by decide +kernel
theorem dX11_lost_11 : decode cX11_lost 11 = .ok (.invokevirtual 132, 3) := by decide +kernel
theorem dX11_lost_14 : decode cX11_lost 14 = .ok (.ireturn, 1) := by decide +kernel
theorem dX11_lost_15 : decode cX11_lost 15 = .ok (.aload_n 0, 1) := by decide +kernel
theorem dX11_lost_16 : decode cX11_lost 16 = .ok (.aload_n 0, 1) := by decide +kernel
theorem dX11_lost_17 : decode cX11_lost 17 = .ok (.getfield 62, 3) := by decide +kernel
theorem dX11_lost_20 : decode cX11_lost 20 = .ok (.iload_n 1, 1) := by decide +kernel
theorem dX11_lost_21 : decode cX11_lost 21 = .ok (.iaload, 1) := by decide +kernel
theorem dX11_lost_22 : decode cX11_lost 22 = .ok (.aload_n 0, 1) := by decide +kernel
theorem dX11_lost_23 : decode cX11_lost 23 = .ok (.getfield 53, 3) := by decide +kernel
theorem dX11_lost_26 : decode cX11_lost 26 = .ok (.iload_n 1, 1) := by decide +kernel
theorem dX11_lost_27 : decode cX11_lost 27 = .ok (.iaload, 1) := by decide +kernel
theorem dX11_lost_28 : decode cX11_lost 28 = .ok (.aload_n 0, 1) := by decide +kernel
theorem dX11_lost_29 : decode cX11_lost 29 = .ok (.getfield 56, 3) := by decide +kernel
theorem dX11_lost_32 : decode cX11_lost 32 = .ok (.iload_n 1, 1) := by decide +kernel
theorem dX11_lost_33 : decode cX11_lost 33 = .ok (.iaload, 1) := by decide +kernel
theorem dX11_lost_34 : decode cX11_lost 34 = .ok (.aload_n 0, 1) := by decide +kernel
theorem dX11_lost_35 : decode cX11_lost 35 = .ok (.getfield 245, 3) := by decide +kernel
theorem dX11_lost_38 : decode cX11_lost 38 = .ok (.aload_n 0, 1) := by decide +kernel
theorem dX11_lost_39 : decode cX11_lost 39 = .ok (.getfield 65, 3) := by decide +kernel
theorem dX11_lost_42 : decode cX11_lost 42 = .ok (.iload_n 1, 1) := by decide +kernel
theorem dX11_lost_43 : decode cX11_lost 43 = .ok (.baload, 1) := by decide +kernel
theorem dX11_lost_44 : decode cX11_lost 44 = .ok (.invokevirtual 224, 3) := by decide +kernel
theorem dX11_lost_47 : decode cX11_lost 47 = .ok (.iconst 1, 1) := by decide +kernel
theorem dX11_lost_48 : decode cX11_lost 48 = .ok (.aload_n 0, 1) := by decide +kernel
theorem dX11_lost_49 : decode cX11_lost 49 = .ok (.getfield 32, 3) := by decide +kernel
theorem dX11_lost_52 : decode cX11_lost 52 = .ok (.aload_n 0, 1) := by decide +kernel
theorem dX11_lost_53 : decode cX11_lost 53 = .ok (.getfield 62, 3) := by decide +kernel
theorem dX11_lost_56 : decode cX11_lost 56 = .ok (.iload_n 1, 1) := by decide +kernel
theorem dX11_lost_57 : decode cX11_lost 57 = .ok (.iaload, 1) := by decide +kernel
theorem dX11_lost_58 : decode cX11_lost 58 = .ok (.iaload, 1) := by decide +kernel
theorem dX11_lost_59 : decode cX11_lost 59 = .ok (.ishl, 1) := by decide +kernel
theorem dX11_lost_60 : decode cX11_lost 60 = .ok (.iconst 1, 1) := by decide +kernel
theorem dX11_lost_61 : decode cX11_lost 61 = .ok (.isub, 1) := by decide +kernel
theorem dX11_lost_62 : decode cX11_lost 62 = .ok (.aload_n 0, 1) := by decide +kernel
theorem dX11_lost_63 : decode cX11_lost 63 = .ok (.invokevirtual 228, 3) := by decide +kernel
theorem dX11_lost_66 : decode cX11_lost 66 = .ok (.iconst (-1), 1) := by decide +kernel
theorem dX11_lost_67 : decode cX11_lost 67 = .ok (.ixor, 1) := by decide +kernel
theorem dX11_lost_68 : decode cX11_lost 68 = .ok (.iand, 1) := by decide +kernel
theorem dX11_lost_69 : decode cX11_lost 69 = .ok (.ireturn, 1) := by decide +kernel
theorem dX11_isPossible_0 : decode cX11_isPossible 0 = .ok (.aload_n 0, 1) := by decide +kernel
theorem dX11_isPossible_1 : decode cX11_isPossible 1 = .ok (.getfield 9, 3) := by decide +kernel
theorem dX11_isPossible_4 : decode cX11_isPossible 4 = .ok (.iload_n 1, 1) := by decide +kernel
theorem dX11_isPossible_5 : decode cX11_isPossible 5 = .ok (.iaload, 1) := by decide +kernel
theorem dX11_isPossible_6 : decode cX11_isPossible 6 = .ok (.i2l, 1) := by decide +kernel
theorem dX11_isPossible_7 : decode cX11_isPossible 7 = .ok (.iload_n 2, 1) := by decide +kernel
theorem dX11_isPossible_8 : decode cX11_isPossible 8 = .ok (.i2l, 1) := by decide +kernel
theorem dX11_isPossible_9 : decode cX11_isPossible 9 = .ok (.lsub, 1) := by decide +kernel
theorem dX11_isPossible_10 : decode cX11_isPossible 10 = .ok (.invokestatic 267, 3) := by decide +kernel
theorem dX11_isPossible_13 : decode cX11_isPossible 13 = .ok (.iload 4, 2) := by decide +kernel
theorem dX11_isPossible_15 : decode cX11_isPossible 15 = .ok (.i2l, 1) := by decide +kernel
theorem dX11_isPossible_16 : decode cX11_isPossible 16 = .ok (.lcmp, 1) := by decide +kernel
theorem dX11_isPossible_17 : decode cX11_isPossible 17 = .ok (.ifCond .gt 27, 3) := by decide +kernel
theorem dX11_isPossible_20 : decode cX11_isPossible 20 = .ok (.aload_n 0, 1) := by decide +kernel
theorem dX11_isPossible_21 : decode cX11_isPossible 21 = .ok (.getfield 13, 3) := by decide +kernel
theorem dX11_isPossible_24 : decode cX11_isPossible 24 = .ok (.iload_n 1, 1) := by decide +kernel
theorem dX11_isPossible_25 : decode cX11_isPossible 25 = .ok (.iaload, 1) := by decide +kernel
theorem dX11_isPossible_26 : decode cX11_isPossible 26 = .ok (.i2l, 1) := by decide +kernel
theorem dX11_isPossible_27 : decode cX11_isPossible 27 = .ok (.iload_n 3, 1) := by decide +kernel
theorem dX11_isPossible_28 : decode cX11_isPossible 28 = .ok (.i2l, 1) := by decide +kernel
theorem dX11_isPossible_29 : decode cX11_isPossible 29 = .ok (.lsub, 1) := by decide +kernel
theorem dX11_isPossible_30 : decode cX11_isPossible 30 = .ok (.invokestatic 267, 3) := by decide +kernel
theorem dX11_isPossible_33 : decode cX11_isPossible 33 = .ok (.iload 4, 2) := by decide +kernel
theorem dX11_isPossible_35 : decode cX11_isPossible 35 = .ok (.i2l, 1) := by decide +kernel
theorem dX11_isPossible_36 : decode cX11_isPossible 36 = .ok (.lcmp, 1) := by decide +kernel
theorem dX11_isPossible_37 : decode cX11_isPossible 37 = .ok (.ifCond .gt 7, 3) := by decide +kernel
theorem dX11_isPossible_40 : decode cX11_isPossible 40 = .ok (.iconst 1, 1) := by decide +kernel
theorem dX11_isPossible_41 : decode cX11_isPossible 41 = .ok (.goto 4, 3) := by decide +kernel
theorem dX11_isPossible_44 : decode cX11_isPossible 44 = .ok (.iconst 0, 1) := by decide +kernel
theorem dX11_isPossible_45 : decode cX11_isPossible 45 = .ok (.ireturn, 1) := by decide +kernel
theorem dX11_reads_0 : decode cX11_reads 0 = .ok (.iconst 0, 1) := by decide +kernel
theorem dX11_reads_1 : decode cX11_reads 1 = .ok (.istore 5, 2) := by decide +kernel
theorem dX11_reads_3 : decode cX11_reads 3 = .ok (.iconst (-1), 1) := by decide +kernel
theorem dX11_reads_4 : decode cX11_reads 4 = .ok (.istore 6, 2) := by decide +kernel
theorem dX11_reads_6 : decode cX11_reads 6 = .ok (.iconst 0, 1) := by decide +kernel
theorem dX11_reads_7 : decode cX11_reads 7 = .ok (.istore 7, 2) := by decide +kernel
theorem dX11_reads_9 : decode cX11_reads 9 = .ok (.iload 7, 2) := by decide +kernel
theorem dX11_reads_11 : decode cX11_reads 11 = .ok (.aload_n 0, 1) := by decide +kernel
theorem dX11_reads_12 : decode cX11_reads 12 = .ok (.getfield 118, 3) := by decide +kernel
theorem dX11_reads_15 : decode cX11_reads 15 = .ok (.if_icmp .ge 29, 3) := by decide +kernel
theorem dX11_reads_18 : decode cX11_reads 18 = .ok (.aload_n 0, 1) := by decide +kernel
theorem dX11_reads_19 : decode cX11_reads 19 = .ok (.iload 7, 2) := by decide +kernel
theorem dX11_reads_21 : decode cX11_reads 21 = .ok (.iload_n 2, 1) := by decide +kernel
theorem dX11_reads_22 : decode cX11_reads 22 = .ok (.iload_n 3, 1) := by decide +kernel
theorem dX11_reads_23 : decode cX11_reads 23 = .ok (.iload 4, 2) := by decide +kernel
theorem dX11_reads_25 : decode cX11_reads 25 = .ok (.invokevirtual 271, 3) := by decide +kernel
theorem dX11_reads_28 : decode cX11_reads 28 = .ok (.ifCond .eq 10, 3) := by decide +kernel
theorem dX11_reads_31 : decode cX11_reads 31 = .ok (.iinc 5 1, 3) := by decide +kernel
theorem dX11_reads_34 : decode cX11_reads 34 = .ok (.iload 7, 2) := by decide +kernel
theorem dX11_reads_36 : decode cX11_reads 36 = .ok (.istore 6, 2) := by decide +kernel
theorem dX11_reads_38 : decode cX11_reads 38 = .ok (.iinc 7 1, 3) := by decide +kernel
theorem dX11_reads_41 : decode cX11_reads 41 = .ok (.goto (-32), 3) := by decide +kernel
theorem dX11_reads_44 : decode cX11_reads 44 = .ok (.aload_n 0, 1) := by decide +kernel
theorem dX11_reads_45 : decode cX11_reads 45 = .ok (.aload_n 0, 1) := by decide +kernel
theorem dX11_reads_46 : decode cX11_reads 46 = .ok (.getfield 53, 3) := by decide +kernel
theorem dX11_reads_49 : decode cX11_reads 49 = .ok (.iload_n 1, 1) := by decide +kernel
theorem dX11_reads_50 : decode cX11_reads 50 = .ok (.iaload, 1) := by decide +kernel
theorem dX11_reads_51 : decode cX11_reads 51 = .ok (.iload_n 2, 1) := by decide +kernel
theorem dX11_reads_52 : decode cX11_reads 52 = .ok (.iload_n 3, 1) := by decide +kernel
theorem dX11_reads_53 : decode cX11_reads 53 = .ok (.iload 4, 2) := by decide +kernel
theorem dX11_reads_55 : decode cX11_reads 55 = .ok (.invokevirtual 271, 3) := by decide +kernel
theorem dX11_reads_58 : decode cX11_reads 58 = .ok (.ifCond .eq 11, 3) := by decide +kernel
theorem dX11_reads_61 : decode cX11_reads 61 = .ok (.aload_n 0, 1) := by decide +kernel
theorem dX11_reads_62 : decode cX11_reads 62 = .ok (.getfield 74, 3) := by decide +kernel
theorem dX11_reads_65 : decode cX11_reads 65 = .ok (.iload_n 1, 1) := by decide +kernel
theorem dX11_reads_66 : decode cX11_reads 66 = .ok (.iconst 0, 1) := by decide +kernel
theorem dX11_reads_67 : decode cX11_reads 67 = .ok (.iastore, 1) := by decide +kernel
theorem dX11_reads_68 : decode cX11_reads 68 = .ok (.return_, 1) := by decide +kernel
theorem dX11_reads_69 : decode cX11_reads 69 = .ok (.iload 5, 2) := by decide +kernel
theorem dX11_reads_71 : decode cX11_reads 71 = .ok (.iconst 1, 1) := by decide +kernel
theorem dX11_reads_72 : decode cX11_reads 72 = .ok (.if_icmp .eq 4, 3) := by decide +kernel
theorem dX11_reads_75 : decode cX11_reads 75 = .ok (.return_, 1) := by decide +kernel
theorem dX11_reads_76 : decode cX11_reads 76 = .ok (.aload_n 0, 1) := by decide +kernel
theorem dX11_reads_77 : decode cX11_reads 77 = .ok (.getfield 74, 3) := by decide +kernel
theorem dX11_reads_80 : decode cX11_reads 80 = .ok (.iload_n 1, 1) := by decide +kernel
theorem dX11_reads_81 : decode cX11_reads 81 = .ok (.aload_n 0, 1) := by decide +kernel
theorem dX11_reads_82 : decode cX11_reads 82 = .ok (.getfield 74, 3) := by decide +kernel
theorem dX11_reads_85 : decode cX11_reads 85 = .ok (.iload_n 1, 1) := by decide +kernel
theorem dX11_reads_86 : decode cX11_reads 86 = .ok (.iaload, 1) := by decide +kernel
theorem dX11_reads_87 : decode cX11_reads 87 = .ok (.ifCond .le 25, 3) := by decide +kernel
theorem dX11_reads_90 : decode cX11_reads 90 = .ok (.aload_n 0, 1) := by decide +kernel
theorem dX11_reads_91 : decode cX11_reads 91 = .ok (.getfield 71, 3) := by decide +kernel
theorem dX11_reads_94 : decode cX11_reads 94 = .ok (.iload_n 1, 1) := by decide +kernel
theorem dX11_reads_95 : decode cX11_reads 95 = .ok (.iaload, 1) := by decide +kernel
theorem dX11_reads_96 : decode cX11_reads 96 = .ok (.iload 6, 2) := by decide +kernel
theorem dX11_reads_98 : decode cX11_reads 98 = .ok (.if_icmp .ne 14, 3) := by decide +kernel
theorem dX11_reads_101 : decode cX11_reads 101 = .ok (.aload_n 0, 1) := by decide +kernel
theorem dX11_reads_102 : decode cX11_reads 102 = .ok (.getfield 74, 3) := by decide +kernel
theorem dX11_reads_105 : decode cX11_reads 105 = .ok (.iload_n 1, 1) := by decide +kernel
theorem dX11_reads_106 : decode cX11_reads 106 = .ok (.iaload, 1) := by decide +kernel
theorem dX11_reads_107 : decode cX11_reads 107 = .ok (.iconst 1, 1) := by decide +kernel
theorem dX11_reads_108 : decode cX11_reads 108 = .ok (.iadd, 1) := by decide +kernel
theorem dX11_reads_109 : decode cX11_reads 109 = .ok (.goto 4, 3) := by decide +kernel
theorem dX11_reads_112 : decode cX11_reads 112 = .ok (.iconst 1, 1) := by decide +kernel
theorem dX11_reads_113 : decode cX11_reads 113 = .ok (.iastore, 1) := by decide +kernel
theorem dX11_reads_114 : decode cX11_reads 114 = .ok (.aload_n 0, 1) := by decide +kernel
theorem dX11_reads_115 : decode cX11_reads 115 = .ok (.getfield 71, 3) := by decide +kernel
theorem dX11_reads_118 : decode cX11_reads 118 = .ok (.iload_n 1, 1) := by decide +kernel
theorem dX11_reads_119 : decode cX11_reads 119 = .ok (.iload 6, 2) := by decide +kernel
theorem dX11_reads_121 : decode cX11_reads 121 = .ok (.iastore, 1) := by decide +kernel
theorem dX11_reads_122 : decode cX11_reads 122 = .ok (.aload_n 0, 1) := by decide +kernel
theorem dX11_reads_123 : decode cX11_reads 123 = .ok (.getfield 74, 3) := by decide +kernel
theorem dX11_reads_126 : decode cX11_reads 126 = .ok (.iload_n 1, 1) := by decide +kernel
theorem dX11_reads_127 : decode cX11_reads 127 = .ok (.iaload, 1) := by decide +kernel
theorem dX11_reads_128 : decode cX11_reads 128 = .ok (.iconst 4, 1) := by decide +kernel
theorem dX11_reads_129 : decode cX11_reads 129 = .ok (.if_icmp .ge 25, 3) := by decide +kernel
theorem dX11_reads_132 : decode cX11_reads 132 = .ok (.aload_n 0, 1) := by decide +kernel
theorem dX11_reads_133 : decode cX11_reads 133 = .ok (.getfield 74, 3) := by decide +kernel
theorem dX11_reads_136 : decode cX11_reads 136 = .ok (.iload_n 1, 1) := by decide +kernel
theorem dX11_reads_137 : decode cX11_reads 137 = .ok (.iaload, 1) := by decide +kernel
theorem dX11_reads_138 : decode cX11_reads 138 = .ok (.iconst 2, 1) := by decide +kernel
theorem dX11_reads_139 : decode cX11_reads 139 = .ok (.if_icmp .lt 24, 3) := by decide +kernel
theorem dX11_reads_142 : decode cX11_reads 142 = .ok (.aload_n 0, 1) := by decide +kernel
theorem dX11_reads_143 : decode cX11_reads 143 = .ok (.iload_n 1, 1) := by decide +kernel
theorem dX11_reads_144 : decode cX11_reads 144 = .ok (.iload 6, 2) := by decide +kernel
theorem dX11_reads_146 : decode cX11_reads 146 = .ok (.invokevirtual 261, 3) := by decide +kernel
theorem dX11_reads_149 : decode cX11_reads 149 = .ok (.ldc 147, 2) := by decide +kernel
theorem dX11_reads_151 : decode cX11_reads 151 = .ok (.if_icmp .ge 12, 3) := by decide +kernel
theorem dX11_reads_154 : decode cX11_reads 154 = .ok (.aload_n 0, 1) := by decide +kernel
theorem dX11_reads_155 : decode cX11_reads 155 = .ok (.iload_n 1, 1) := by decide +kernel
theorem dX11_reads_156 : decode cX11_reads 156 = .ok (.iload 6, 2) := by decide +kernel
theorem dX11_reads_158 : decode cX11_reads 158 = .ok (.invokevirtual 258, 3) := by decide +kernel
theorem dX11_reads_161 : decode cX11_reads 161 = .ok (.istore 7, 2) := by decide +kernel
theorem dX11_reads_163 : decode cX11_reads 163 = .ok (.return_, 1) := by decide +kernel
theorem dX11_seen_0 : decode cX11_seen 0 = .ok (.aload_n 0, 1) := by decide +kernel
theorem dX11_seen_1 : decode cX11_seen 1 = .ok (.iload_n 1, 1) := by decide +kernel
theorem dX11_seen_2 : decode cX11_seen 2 = .ok (.invokevirtual 252, 3) := by decide +kernel
theorem dX11_seen_5 : decode cX11_seen 5 = .ok (.ifCond .eq 14, 3) := by decide +kernel
theorem dX11_seen_8 : decode cX11_seen 8 = .ok (.iload 4, 2) := by decide +kernel
theorem dX11_seen_10 : decode cX11_seen 10 = .ok (.iconst 0, 1) := by decide +kernel
theorem dX11_seen_11 : decode cX11_seen 11 = .ok (.bipush 30, 2) := by decide +kernel
theorem dX11_seen_13 : decode cX11_seen 13 = .ok (.invokestatic 121, 3) := by decide +kernel
theorem dX11_seen_16 : decode cX11_seen 16 = .ok (.ifCond .ne 10, 3) := by decide +kernel
theorem dX11_seen_19 : decode cX11_seen 19 = .ok (.aload_n 0, 1) := by decide +kernel
theorem dX11_seen_20 : decode cX11_seen 20 = .ok (.ldc 131, 2) := by decide +kernel
theorem dX11_seen_22 : decode cX11_seen 22 = .ok (.invokevirtual 132, 3) := by decide +kernel
theorem dX11_seen_25 : decode cX11_seen 25 = .ok (.ireturn, 1) := by decide +kernel
theorem dX11_seen_26 : decode cX11_seen 26 = .ok (.aload_n 0, 1) := by decide +kernel
theorem dX11_seen_27 : decode cX11_seen 27 = .ok (.iload_n 1, 1) := by decide +kernel
theorem dX11_seen_28 : decode cX11_seen 28 = .ok (.invokevirtual 255, 3) := by decide +kernel
theorem dX11_seen_31 : decode cX11_seen 31 = .ok (.ifCond .eq 10, 3) := by decide +kernel
theorem dX11_seen_34 : decode cX11_seen 34 = .ok (.aload_n 0, 1) := by decide +kernel
theorem dX11_seen_35 : decode cX11_seen 35 = .ok (.ldc 248, 2) := by decide +kernel
theorem dX11_seen_37 : decode cX11_seen 37 = .ok (.invokevirtual 132, 3) := by decide +kernel
theorem dX11_seen_40 : decode cX11_seen 40 = .ok (.ireturn, 1) := by decide +kernel
theorem dX11_seen_41 : decode cX11_seen 41 = .ok (.aload_n 0, 1) := by decide +kernel
theorem dX11_seen_42 : decode cX11_seen 42 = .ok (.iload_n 1, 1) := by decide +kernel
theorem dX11_seen_43 : decode cX11_seen 43 = .ok (.iload_n 2, 1) := by decide +kernel
theorem dX11_seen_44 : decode cX11_seen 44 = .ok (.iload_n 3, 1) := by decide +kernel
theorem dX11_seen_45 : decode cX11_seen 45 = .ok (.iload 4, 2) := by decide +kernel
theorem dX11_seen_47 : decode cX11_seen 47 = .ok (.invokevirtual 275, 3) := by decide +kernel
theorem dX11_seen_50 : decode cX11_seen 50 = .ok (.aload_n 0, 1) := by decide +kernel
theorem dX11_seen_51 : decode cX11_seen 51 = .ok (.getfield 53, 3) := by decide +kernel
theorem dX11_seen_54 : decode cX11_seen 54 = .ok (.iload_n 1, 1) := by decide +kernel
theorem dX11_seen_55 : decode cX11_seen 55 = .ok (.iaload, 1) := by decide +kernel
theorem dX11_seen_56 : decode cX11_seen 56 = .ok (.ireturn, 1) := by decide +kernel
theorem dX11_isSheet_0 : decode cX11_isSheet 0 = .ok (.iload_n 0, 1) := by decide +kernel
theorem dX11_isSheet_1 : decode cX11_isSheet 1 = .ok (.iconst 0, 1) := by decide +kernel
theorem dX11_isSheet_2 : decode cX11_isSheet 2 = .ok (.iconst 3, 1) := by decide +kernel
theorem dX11_isSheet_3 : decode cX11_isSheet 3 = .ok (.invokestatic 121, 3) := by decide +kernel
theorem dX11_isSheet_6 : decode cX11_isSheet 6 = .ok (.ireturn, 1) := by decide +kernel
theorem dX11_sheet_0 : decode cX11_sheet 0 = .ok (.iload_n 1, 1) := by decide +kernel
theorem dX11_sheet_1 : decode cX11_sheet 1 = .ok (.invokestatic 279, 3) := by decide +kernel
theorem dX11_sheet_4 : decode cX11_sheet 4 = .ok (.ifCond .eq 25, 3) := by decide +kernel
theorem dX11_sheet_7 : decode cX11_sheet 7 = .ok (.iload_n 2, 1) := by decide +kernel
theorem dX11_sheet_8 : decode cX11_sheet 8 = .ok (.ifCond .eq 28, 3) := by decide +kernel
theorem dX11_sheet_11 : decode cX11_sheet 11 = .ok (.iload_n 2, 1) := by decide +kernel
theorem dX11_sheet_12 : decode cX11_sheet 12 = .ok (.bipush 8, 2) := by decide +kernel
theorem dX11_sheet_14 : decode cX11_sheet 14 = .ok (.if_icmp .eq 22, 3) := by decide +kernel
theorem dX11_sheet_17 : decode cX11_sheet 17 = .ok (.iload_n 2, 1) := by decide +kernel
theorem dX11_sheet_18 : decode cX11_sheet 18 = .ok (.bipush 16, 2) := by decide +kernel
theorem dX11_sheet_20 : decode cX11_sheet 20 = .ok (.if_icmp .eq 16, 3) := by decide +kernel
theorem dX11_sheet_23 : decode cX11_sheet 23 = .ok (.iload_n 2, 1) := by decide +kernel
theorem dX11_sheet_24 : decode cX11_sheet 24 = .ok (.bipush 32, 2) := by decide +kernel
theorem dX11_sheet_26 : decode cX11_sheet 26 = .ok (.if_icmp .eq 10, 3) := by decide +kernel
theorem dX11_sheet_29 : decode cX11_sheet 29 = .ok (.aload_n 0, 1) := by decide +kernel
theorem dX11_sheet_30 : decode cX11_sheet 30 = .ok (.ldc 131, 2) := by decide +kernel
theorem dX11_sheet_32 : decode cX11_sheet 32 = .ok (.invokevirtual 132, 3) := by decide +kernel
theorem dX11_sheet_35 : decode cX11_sheet 35 = .ok (.ireturn, 1) := by decide +kernel
theorem dX11_sheet_36 : decode cX11_sheet 36 = .ok (.iload_n 3, 1) := by decide +kernel
theorem dX11_sheet_37 : decode cX11_sheet 37 = .ok (.ifCond .ge 11, 3) := by decide +kernel
theorem dX11_sheet_40 : decode cX11_sheet 40 = .ok (.aload_n 0, 1) := by decide +kernel
theorem dX11_sheet_41 : decode cX11_sheet 41 = .ok (.ldc_w 282, 3) := by decide +kernel
theorem dX11_sheet_44 : decode cX11_sheet 44 = .ok (.invokevirtual 132, 3) := by decide +kernel
theorem dX11_sheet_47 : decode cX11_sheet 47 = .ok (.ireturn, 1) := by decide +kernel
theorem dX11_sheet_48 : decode cX11_sheet 48 = .ok (.iload_n 3, 1) := by decide +kernel
theorem dX11_sheet_49 : decode cX11_sheet 49 = .ok (.bipush 12, 2) := by decide +kernel
theorem dX11_sheet_51 : decode cX11_sheet 51 = .ok (.if_icmp .le 10, 3) := by decide +kernel
theorem dX11_sheet_54 : decode cX11_sheet 54 = .ok (.aload_n 0, 1) := by decide +kernel
theorem dX11_sheet_55 : decode cX11_sheet 55 = .ok (.ldc 131, 2) := by decide +kernel
theorem dX11_sheet_57 : decode cX11_sheet 57 = .ok (.invokevirtual 132, 3) := by decide +kernel
theorem dX11_sheet_60 : decode cX11_sheet 60 = .ok (.ireturn, 1) := by decide +kernel
theorem dX11_sheet_61 : decode cX11_sheet 61 = .ok (.aload_n 0, 1) := by decide +kernel
theorem dX11_sheet_62 : decode cX11_sheet 62 = .ok (.getfield 77, 3) := by decide +kernel
theorem dX11_sheet_65 : decode cX11_sheet 65 = .ok (.iload_n 1, 1) := by decide +kernel
theorem dX11_sheet_66 : decode cX11_sheet 66 = .ok (.iload_n 2, 1) := by decide +kernel
theorem dX11_sheet_67 : decode cX11_sheet 67 = .ok (.iastore, 1) := by decide +kernel
theorem dX11_sheet_68 : decode cX11_sheet 68 = .ok (.aload_n 0, 1) := by decide +kernel
theorem dX11_sheet_69 : decode cX11_sheet 69 = .ok (.getfield 80, 3) := by decide +kernel
theorem dX11_sheet_72 : decode cX11_sheet 72 = .ok (.iload_n 1, 1) := by decide +kernel
theorem dX11_sheet_73 : decode cX11_sheet 73 = .ok (.iload_n 2, 1) := by decide +kernel
theorem dX11_sheet_74 : decode cX11_sheet 74 = .ok (.ifCond .ne 7, 3) := by decide +kernel
theorem dX11_sheet_77 : decode cX11_sheet 77 = .ok (.iconst 0, 1) := by decide +kernel
theorem dX11_sheet_78 : decode cX11_sheet 78 = .ok (.goto 4, 3) := by decide +kernel
theorem dX11_sheet_81 : decode cX11_sheet 81 = .ok (.iload_n 3, 1) := by decide +kernel
theorem dX11_sheet_82 : decode cX11_sheet 82 = .ok (.iastore, 1) := by decide +kernel
theorem dX11_sheet_83 : decode cX11_sheet 83 = .ok (.iconst 0, 1) := by decide +kernel
theorem dX11_sheet_84 : decode cX11_sheet 84 = .ok (.istore 4, 2) := by decide +kernel
theorem dX11_sheet_86 : decode cX11_sheet 86 = .ok (.iload 4, 2) := by decide +kernel
theorem dX11_sheet_88 : decode cX11_sheet 88 = .ok (.bipush 12, 2) := by decide +kernel
theorem dX11_sheet_90 : decode cX11_sheet 90 = .ok (.if_icmp .ge 22, 3) := by decide +kernel
theorem dX11_sheet_93 : decode cX11_sheet 93 = .ok (.aload_n 0, 1) := by decide +kernel
theorem dX11_sheet_94 : decode cX11_sheet 94 = .ok (.getfield 83, 3) := by decide +kernel
theorem dX11_sheet_97 : decode cX11_sheet 97 = .ok (.bipush 12, 2) := by decide +kernel
theorem dX11_sheet_99 : decode cX11_sheet 99 = .ok (.iload_n 1, 1) := by decide +kernel
theorem dX11_sheet_100 : decode cX11_sheet 100 = .ok (.imul, 1) := by decide +kernel
theorem dX11_sheet_101 : decode cX11_sheet 101 = .ok (.iload 4, 2) := by decide +kernel
theorem dX11_sheet_103 : decode cX11_sheet 103 = .ok (.iadd, 1) := by decide +kernel
theorem dX11_sheet_104 : decode cX11_sheet 104 = .ok (.iconst 0, 1) := by decide +kernel
theorem dX11_sheet_105 : decode cX11_sheet 105 = .ok (.iastore, 1) := by decide +kernel
theorem dX11_sheet_106 : decode cX11_sheet 106 = .ok (.iinc 4 1, 3) := by decide +kernel
theorem dX11_sheet_109 : decode cX11_sheet 109 = .ok (.goto (-23), 3) := by decide +kernel
theorem dX11_sheet_112 : decode cX11_sheet 112 = .ok (.aload_n 0, 1) := by decide +kernel
theorem dX11_sheet_113 : decode cX11_sheet 113 = .ok (.getfield 80, 3) := by decide +kernel
theorem dX11_sheet_116 : decode cX11_sheet 116 = .ok (.iload_n 1, 1) := by decide +kernel
theorem dX11_sheet_117 : decode cX11_sheet 117 = .ok (.iaload, 1) := by decide +kernel
theorem dX11_sheet_118 : decode cX11_sheet 118 = .ok (.ireturn, 1) := by decide +kernel
theorem dX11_write_0 : decode cX11_write 0 = .ok (.iload_n 1, 1) := by decide +kernel
theorem dX11_write_1 : decode cX11_write 1 = .ok (.invokestatic 279, 3) := by decide +kernel
theorem dX11_write_4 : decode cX11_write 4 = .ok (.ifCond .ne 10, 3) := by decide +kernel
theorem dX11_write_7 : decode cX11_write 7 = .ok (.aload_n 0, 1) := by decide +kernel
theorem dX11_write_8 : decode cX11_write 8 = .ok (.ldc 131, 2) := by decide +kernel
theorem dX11_write_10 : decode cX11_write 10 = .ok (.invokevirtual 132, 3) := by decide +kernel
theorem dX11_write_13 : decode cX11_write 13 = .ok (.ireturn, 1) := by decide +kernel
theorem dX11_write_14 : decode cX11_write 14 = .ok (.aload_n 0, 1) := by decide +kernel
theorem dX11_write_15 : decode cX11_write 15 = .ok (.getfield 77, 3) := by decide +kernel
theorem dX11_write_18 : decode cX11_write 18 = .ok (.iload_n 1, 1) := by decide +kernel
theorem dX11_write_19 : decode cX11_write 19 = .ok (.iaload, 1) := by decide +kernel
theorem dX11_write_20 : decode cX11_write 20 = .ok (.ifCond .ne 11, 3) := by decide +kernel
theorem dX11_write_23 : decode cX11_write 23 = .ok (.aload_n 0, 1) := by decide +kernel
theorem dX11_write_24 : decode cX11_write 24 = .ok (.ldc_w 283, 3) := by decide +kernel
theorem dX11_write_27 : decode cX11_write 27 = .ok (.invokevirtual 132, 3) := by decide +kernel
theorem dX11_write_30 : decode cX11_write 30 = .ok (.ireturn, 1) := by decide +kernel
theorem dX11_write_31 : decode cX11_write 31 = .ok (.iload_n 2, 1) := by decide +kernel
theorem dX11_write_32 : decode cX11_write 32 = .ok (.iconst 0, 1) := by decide +kernel
theorem dX11_write_33 : decode cX11_write 33 = .ok (.aload_n 0, 1) := by decide +kernel
theorem dX11_write_34 : decode cX11_write 34 = .ok (.getfield 80, 3) := by decide +kernel
theorem dX11_write_37 : decode cX11_write 37 = .ok (.iload_n 1, 1) := by decide +kernel
theorem dX11_write_38 : decode cX11_write 38 = .ok (.iaload, 1) := by decide +kernel
theorem dX11_write_39 : decode cX11_write 39 = .ok (.iconst 1, 1) := by decide +kernel
theorem dX11_write_40 : decode cX11_write 40 = .ok (.isub, 1) := by decide +kernel
theorem dX11_write_41 : decode cX11_write 41 = .ok (.invokestatic 121, 3) := by decide +kernel
theorem dX11_write_44 : decode cX11_write 44 = .ok (.ifCond .ne 10, 3) := by decide +kernel
theorem dX11_write_47 : decode cX11_write 47 = .ok (.aload_n 0, 1) := by decide +kernel
theorem dX11_write_48 : decode cX11_write 48 = .ok (.ldc 131, 2) := by decide +kernel
theorem dX11_write_50 : decode cX11_write 50 = .ok (.invokevirtual 132, 3) := by decide +kernel
theorem dX11_write_53 : decode cX11_write 53 = .ok (.ireturn, 1) := by decide +kernel
theorem dX11_write_54 : decode cX11_write 54 = .ok (.aload_n 0, 1) := by decide +kernel
theorem dX11_write_55 : decode cX11_write 55 = .ok (.getfield 83, 3) := by decide +kernel
theorem dX11_write_58 : decode cX11_write 58 = .ok (.bipush 12, 2) := by decide +kernel
theorem dX11_write_60 : decode cX11_write 60 = .ok (.iload_n 1, 1) := by decide +kernel
theorem dX11_write_61 : decode cX11_write 61 = .ok (.imul, 1) := by decide +kernel
theorem dX11_write_62 : decode cX11_write 62 = .ok (.iload_n 2, 1) := by decide +kernel
theorem dX11_write_63 : decode cX11_write 63 = .ok (.iadd, 1) := by decide +kernel
theorem dX11_write_64 : decode cX11_write 64 = .ok (.iaload, 1) := by decide +kernel
theorem dX11_write_65 : decode cX11_write 65 = .ok (.istore 4, 2) := by decide +kernel
theorem dX11_write_67 : decode cX11_write 67 = .ok (.bipush 32, 2) := by decide +kernel
theorem dX11_write_69 : decode cX11_write 69 = .ok (.aload_n 0, 1) := by decide +kernel
theorem dX11_write_70 : decode cX11_write 70 = .ok (.getfield 77, 3) := by decide +kernel
theorem dX11_write_73 : decode cX11_write 73 = .ok (.iload_n 1, 1) := by decide +kernel
theorem dX11_write_74 : decode cX11_write 74 = .ok (.iaload, 1) := by decide +kernel
theorem dX11_write_75 : decode cX11_write 75 = .ok (.isub, 1) := by decide +kernel
theorem dX11_write_76 : decode cX11_write 76 = .ok (.istore 5, 2) := by decide +kernel
theorem dX11_write_78 : decode cX11_write 78 = .ok (.aload_n 0, 1) := by decide +kernel
theorem dX11_write_79 : decode cX11_write 79 = .ok (.getfield 83, 3) := by decide +kernel
theorem dX11_write_82 : decode cX11_write 82 = .ok (.bipush 12, 2) := by decide +kernel
theorem dX11_write_84 : decode cX11_write 84 = .ok (.iload_n 1, 1) := by decide +kernel
theorem dX11_write_85 : decode cX11_write 85 = .ok (.imul, 1) := by decide +kernel
theorem dX11_write_86 : decode cX11_write 86 = .ok (.iload_n 2, 1) := by decide +kernel
theorem dX11_write_87 : decode cX11_write 87 = .ok (.iadd, 1) := by decide +kernel
theorem dX11_write_88 : decode cX11_write 88 = .ok (.iload_n 3, 1) := by decide +kernel
theorem dX11_write_89 : decode cX11_write 89 = .ok (.iload 5, 2) := by decide +kernel
theorem dX11_write_91 : decode cX11_write 91 = .ok (.ishl, 1) := by decide +kernel
theorem dX11_write_92 : decode cX11_write 92 = .ok (.iload 5, 2) := by decide +kernel
theorem dX11_write_94 : decode cX11_write 94 = .ok (.ishr, 1) := by decide +kernel
theorem dX11_write_95 : decode cX11_write 95 = .ok (.iastore, 1) := by decide +kernel
theorem dX11_write_96 : decode cX11_write 96 = .ok (.iload 4, 2) := by decide +kernel
theorem dX11_write_98 : decode cX11_write 98 = .ok (.ireturn, 1) := by decide +kernel
theorem dX11_copy_0 : decode cX11_copy 0 = .ok (.iload_n 1, 1) := by decide +kernel
theorem dX11_copy_1 : decode cX11_copy 1 = .ok (.invokestatic 279, 3) := by decide +kernel
theorem dX11_copy_4 : decode cX11_copy 4 = .ok (.ifCond .eq 10, 3) := by decide +kernel
theorem dX11_copy_7 : decode cX11_copy 7 = .ok (.iload_n 3, 1) := by decide +kernel
theorem dX11_copy_8 : decode cX11_copy 8 = .ok (.invokestatic 279, 3) := by decide +kernel
theorem dX11_copy_11 : decode cX11_copy 11 = .ok (.ifCond .ne 10, 3) := by decide +kernel
theorem dX11_copy_14 : decode cX11_copy 14 = .ok (.aload_n 0, 1) := by decide +kernel
theorem dX11_copy_15 : decode cX11_copy 15 = .ok (.ldc 131, 2) := by decide +kernel
theorem dX11_copy_17 : decode cX11_copy 17 = .ok (.invokevirtual 132, 3) := by decide +kernel
theorem dX11_copy_20 : decode cX11_copy 20 = .ok (.ireturn, 1) := by decide +kernel
theorem dX11_copy_21 : decode cX11_copy 21 = .ok (.aload_n 0, 1) := by decide +kernel
theorem dX11_copy_22 : decode cX11_copy 22 = .ok (.getfield 77, 3) := by decide +kernel
theorem dX11_copy_25 : decode cX11_copy 25 = .ok (.iload_n 1, 1) := by decide +kernel
theorem dX11_copy_26 : decode cX11_copy 26 = .ok (.iaload, 1) := by decide +kernel
theorem dX11_copy_27 : decode cX11_copy 27 = .ok (.ifCond .eq 12, 3) := by decide +kernel
theorem dX11_copy_30 : decode cX11_copy 30 = .ok (.aload_n 0, 1) := by decide +kernel
theorem dX11_copy_31 : decode cX11_copy 31 = .ok (.getfield 77, 3) := by decide +kernel
theorem dX11_copy_34 : decode cX11_copy 34 = .ok (.iload_n 3, 1) := by decide +kernel
theorem dX11_copy_35 : decode cX11_copy 35 = .ok (.iaload, 1) := by decide +kernel
theorem dX11_copy_36 : decode cX11_copy 36 = .ok (.ifCond .ne 11, 3) := by decide +kernel
theorem dX11_copy_39 : decode cX11_copy 39 = .ok (.aload_n 0, 1) := by decide +kernel
theorem dX11_copy_40 : decode cX11_copy 40 = .ok (.ldc_w 283, 3) := by decide +kernel
theorem dX11_copy_43 : decode cX11_copy 43 = .ok (.invokevirtual 132, 3) := by decide +kernel
theorem dX11_copy_46 : decode cX11_copy 46 = .ok (.ireturn, 1) := by decide +kernel
theorem dX11_copy_47 : decode cX11_copy 47 = .ok (.aload_n 0, 1) := by decide +kernel
theorem dX11_copy_48 : decode cX11_copy 48 = .ok (.getfield 77, 3) := by decide +kernel
theorem dX11_copy_51 : decode cX11_copy 51 = .ok (.iload_n 1, 1) := by decide +kernel
theorem dX11_copy_52 : decode cX11_copy 52 = .ok (.iaload, 1) := by decide +kernel
theorem dX11_copy_53 : decode cX11_copy 53 = .ok (.aload_n 0, 1) := by decide +kernel
theorem dX11_copy_54 : decode cX11_copy 54 = .ok (.getfield 77, 3) := by decide +kernel
theorem dX11_copy_57 : decode cX11_copy 57 = .ok (.iload_n 3, 1) := by decide +kernel
theorem dX11_copy_58 : decode cX11_copy 58 = .ok (.iaload, 1) := by decide +kernel
theorem dX11_copy_59 : decode cX11_copy 59 = .ok (.if_icmp .eq 10, 3) := by decide +kernel
theorem dX11_copy_62 : decode cX11_copy 62 = .ok (.aload_n 0, 1) := by decide +kernel
theorem dX11_copy_63 : decode cX11_copy 63 = .ok (.ldc 198, 2) := by decide +kernel
theorem dX11_copy_65 : decode cX11_copy 65 = .ok (.invokevirtual 132, 3) := by decide +kernel
theorem dX11_copy_68 : decode cX11_copy 68 = .ok (.ireturn, 1) := by decide +kernel
theorem dX11_copy_69 : decode cX11_copy 69 = .ok (.iload_n 2, 1) := by decide +kernel
theorem dX11_copy_70 : decode cX11_copy 70 = .ok (.ifCond .lt 48, 3) := by decide +kernel
theorem dX11_copy_73 : decode cX11_copy 73 = .ok (.iload 4, 2) := by decide +kernel
theorem dX11_copy_75 : decode cX11_copy 75 = .ok (.ifCond .lt 43, 3) := by decide +kernel
theorem dX11_copy_78 : decode cX11_copy 78 = .ok (.iload 5, 2) := by decide +kernel
theorem dX11_copy_80 : decode cX11_copy 80 = .ok (.ifCond .lt 38, 3) := by decide +kernel
theorem dX11_copy_83 : decode cX11_copy 83 = .ok (.iload_n 2, 1) := by decide +kernel
theorem dX11_copy_84 : decode cX11_copy 84 = .ok (.i2l, 1) := by decide +kernel
theorem dX11_copy_85 : decode cX11_copy 85 = .ok (.iload 5, 2) := by decide +kernel
theorem dX11_copy_87 : decode cX11_copy 87 = .ok (.i2l, 1) := by decide +kernel
theorem dX11_copy_88 : decode cX11_copy 88 = .ok (.ladd, 1) := by decide +kernel
theorem dX11_copy_89 : decode cX11_copy 89 = .ok (.aload_n 0, 1) := by decide +kernel
theorem dX11_copy_90 : decode cX11_copy 90 = .ok (.getfield 80, 3) := by decide +kernel
theorem dX11_copy_93 : decode cX11_copy 93 = .ok (.iload_n 1, 1) := by decide +kernel
theorem dX11_copy_94 : decode cX11_copy 94 = .ok (.iaload, 1) := by decide +kernel
theorem dX11_copy_95 : decode cX11_copy 95 = .ok (.i2l, 1) := by decide +kernel
theorem dX11_copy_96 : decode cX11_copy 96 = .ok (.lcmp, 1) := by decide +kernel
theorem dX11_copy_97 : decode cX11_copy 97 = .ok (.ifCond .gt 21, 3) := by decide +kernel
theorem dX11_copy_100 : decode cX11_copy 100 = .ok (.iload 4, 2) := by decide +kernel
theorem dX11_copy_102 : decode cX11_copy 102 = .ok (.i2l, 1) := by decide +kernel
theorem dX11_copy_103 : decode cX11_copy 103 = .ok (.iload 5, 2) := by decide +kernel
theorem dX11_copy_105 : decode cX11_copy 105 = .ok (.i2l, 1) := by decide +kernel
theorem dX11_copy_106 : decode cX11_copy 106 = .ok (.ladd, 1) := by decide +kernel
theorem dX11_copy_107 : decode cX11_copy 107 = .ok (.aload_n 0, 1) := by decide +kernel
theorem dX11_copy_108 : decode cX11_copy 108 = .ok (.getfield 80, 3) := by decide +kernel
theorem dX11_copy_111 : decode cX11_copy 111 = .ok (.iload_n 3, 1) := by decide +kernel
theorem dX11_copy_112 : decode cX11_copy 112 = .ok (.iaload, 1) := by decide +kernel
theorem dX11_copy_113 : decode cX11_copy 113 = .ok (.i2l, 1) := by decide +kernel
theorem dX11_copy_114 : decode cX11_copy 114 = .ok (.lcmp, 1) := by decide +kernel
theorem dX11_copy_115 : decode cX11_copy 115 = .ok (.ifCond .le 10, 3) := by decide +kernel
theorem dX11_copy_118 : decode cX11_copy 118 = .ok (.aload_n 0, 1) := by decide +kernel
theorem dX11_copy_119 : decode cX11_copy 119 = .ok (.ldc 131, 2) := by decide +kernel
theorem dX11_copy_121 : decode cX11_copy 121 = .ok (.invokevirtual 132, 3) := by decide +kernel
theorem dX11_copy_124 : decode cX11_copy 124 = .ok (.ireturn, 1) := by decide +kernel
theorem dX11_copy_125 : decode cX11_copy 125 = .ok (.iconst 0, 1) := by decide +kernel
theorem dX11_copy_126 : decode cX11_copy 126 = .ok (.istore 6, 2) := by decide +kernel
theorem dX11_copy_128 : decode cX11_copy 128 = .ok (.iload 6, 2) := by decide +kernel
theorem dX11_copy_130 : decode cX11_copy 130 = .ok (.iload 5, 2) := by decide +kernel
theorem dX11_copy_132 : decode cX11_copy 132 = .ok (.if_icmp .ge 30, 3) := by decide +kernel
theorem dX11_copy_135 : decode cX11_copy 135 = .ok (.aload_n 0, 1) := by decide +kernel
theorem dX11_copy_136 : decode cX11_copy 136 = .ok (.getfield 111, 3) := by decide +kernel
theorem dX11_copy_139 : decode cX11_copy 139 = .ok (.iload 6, 2) := by decide +kernel
theorem dX11_copy_141 : decode cX11_copy 141 = .ok (.aload_n 0, 1) := by decide +kernel
theorem dX11_copy_142 : decode cX11_copy 142 = .ok (.getfield 83, 3) := by decide +kernel
theorem dX11_copy_145 : decode cX11_copy 145 = .ok (.bipush 12, 2) := by decide +kernel
theorem dX11_copy_147 : decode cX11_copy 147 = .ok (.iload_n 1, 1) := by decide +kernel
theorem dX11_copy_148 : decode cX11_copy 148 = .ok (.imul, 1) := by decide +kernel
theorem dX11_copy_149 : decode cX11_copy 149 = .ok (.iload_n 2, 1) := by decide +kernel
theorem dX11_copy_150 : decode cX11_copy 150 = .ok (.iadd, 1) := by decide +kernel
theorem dX11_copy_151 : decode cX11_copy 151 = .ok (.iload 6, 2) := by decide +kernel
theorem dX11_copy_153 : decode cX11_copy 153 = .ok (.iadd, 1) := by decide +kernel
theorem dX11_copy_154 : decode cX11_copy 154 = .ok (.iaload, 1) := by decide +kernel
theorem dX11_copy_155 : decode cX11_copy 155 = .ok (.iastore, 1) := by decide +kernel
theorem dX11_copy_156 : decode cX11_copy 156 = .ok (.iinc 6 1, 3) := by decide +kernel
theorem dX11_copy_159 : decode cX11_copy 159 = .ok (.goto (-31), 3) := by decide +kernel
theorem dX11_copy_162 : decode cX11_copy 162 = .ok (.iconst 0, 1) := by decide +kernel
theorem dX11_copy_163 : decode cX11_copy 163 = .ok (.istore 6, 2) := by decide +kernel
theorem dX11_copy_165 : decode cX11_copy 165 = .ok (.iload 6, 2) := by decide +kernel
theorem dX11_copy_167 : decode cX11_copy 167 = .ok (.iload 5, 2) := by decide +kernel
theorem dX11_copy_169 : decode cX11_copy 169 = .ok (.if_icmp .ge 31, 3) := by decide +kernel
theorem dX11_copy_172 : decode cX11_copy 172 = .ok (.aload_n 0, 1) := by decide +kernel
theorem dX11_copy_173 : decode cX11_copy 173 = .ok (.getfield 83, 3) := by decide +kernel
theorem dX11_copy_176 : decode cX11_copy 176 = .ok (.bipush 12, 2) := by decide +kernel
theorem dX11_copy_178 : decode cX11_copy 178 = .ok (.iload_n 3, 1) := by decide +kernel
theorem dX11_copy_179 : decode cX11_copy 179 = .ok (.imul, 1) := by decide +kernel
theorem dX11_copy_180 : decode cX11_copy 180 = .ok (.iload 4, 2) := by decide +kernel
theorem dX11_copy_182 : decode cX11_copy 182 = .ok (.iadd, 1) := by decide +kernel
theorem dX11_copy_183 : decode cX11_copy 183 = .ok (.iload 6, 2) := by decide +kernel
theorem dX11_copy_185 : decode cX11_copy 185 = .ok (.iadd, 1) := by decide +kernel
theorem dX11_copy_186 : decode cX11_copy 186 = .ok (.aload_n 0, 1) := by decide +kernel
theorem dX11_copy_187 : decode cX11_copy 187 = .ok (.getfield 111, 3) := by decide +kernel
theorem dX11_copy_190 : decode cX11_copy 190 = .ok (.iload 6, 2) := by decide +kernel
theorem dX11_copy_192 : decode cX11_copy 192 = .ok (.iaload, 1) := by decide +kernel
theorem dX11_copy_193 : decode cX11_copy 193 = .ok (.iastore, 1) := by decide +kernel
theorem dX11_copy_194 : decode cX11_copy 194 = .ok (.iinc 6 1, 3) := by decide +kernel
theorem dX11_copy_197 : decode cX11_copy 197 = .ok (.goto (-32), 3) := by decide +kernel
theorem dX11_copy_200 : decode cX11_copy 200 = .ok (.iload 5, 2) := by decide +kernel
theorem dX11_copy_202 : decode cX11_copy 202 = .ok (.ireturn, 1) := by decide +kernel
theorem dX11_trace_0 : decode cX11_trace 0 = .ok (.iload_n 1, 1) := by decide +kernel
theorem dX11_trace_1 : decode cX11_trace 1 = .ok (.invokestatic 279, 3) := by decide +kernel
theorem dX11_trace_4 : decode cX11_trace 4 = .ok (.ifCond .eq 11, 3) := by decide +kernel
theorem dX11_trace_7 : decode cX11_trace 7 = .ok (.aload_n 0, 1) := by decide +kernel
theorem dX11_trace_8 : decode cX11_trace 8 = .ok (.iload_n 2, 1) := by decide +kernel
theorem dX11_trace_9 : decode cX11_trace 9 = .ok (.invokevirtual 252, 3) := by decide +kernel
theorem dX11_trace_12 : decode cX11_trace 12 = .ok (.ifCond .ne 10, 3) := by decide +kernel
theorem dX11_trace_15 : decode cX11_trace 15 = .ok (.aload_n 0, 1) := by decide +kernel
theorem dX11_trace_16 : decode cX11_trace 16 = .ok (.ldc 131, 2) := by decide +kernel
theorem dX11_trace_18 : decode cX11_trace 18 = .ok (.invokevirtual 132, 3) := by decide +kernel
theorem dX11_trace_21 : decode cX11_trace 21 = .ok (.ireturn, 1) := by decide +kernel
theorem dX11_trace_22 : decode cX11_trace 22 = .ok (.aload_n 0, 1) := by decide +kernel
theorem dX11_trace_23 : decode cX11_trace 23 = .ok (.getfield 77, 3) := by decide +kernel
theorem dX11_trace_26 : decode cX11_trace 26 = .ok (.iload_n 1, 1) := by decide +kernel
theorem dX11_trace_27 : decode cX11_trace 27 = .ok (.iaload, 1) := by decide +kernel
theorem dX11_trace_28 : decode cX11_trace 28 = .ok (.ifCond .ne 11, 3) := by decide +kernel
theorem dX11_trace_31 : decode cX11_trace 31 = .ok (.aload_n 0, 1) := by decide +kernel
theorem dX11_trace_32 : decode cX11_trace 32 = .ok (.ldc_w 283, 3) := by decide +kernel
theorem dX11_trace_35 : decode cX11_trace 35 = .ok (.invokevirtual 132, 3) := by decide +kernel
theorem dX11_trace_38 : decode cX11_trace 38 = .ok (.ireturn, 1) := by decide +kernel
theorem dX11_trace_39 : decode cX11_trace 39 = .ok (.iconst 0, 1) := by decide +kernel
theorem dX11_trace_40 : decode cX11_trace 40 = .ok (.istore_n 3, 1) := by decide +kernel
theorem dX11_trace_41 : decode cX11_trace 41 = .ok (.bipush 12, 2) := by decide +kernel
theorem dX11_trace_43 : decode cX11_trace 43 = .ok (.iload_n 1, 1) := by decide +kernel
theorem dX11_trace_44 : decode cX11_trace 44 = .ok (.imul, 1) := by decide +kernel
theorem dX11_trace_45 : decode cX11_trace 45 = .ok (.istore 4, 2) := by decide +kernel
theorem dX11_trace_47 : decode cX11_trace 47 = .ok (.iconst 3, 1) := by decide +kernel
theorem dX11_trace_48 : decode cX11_trace 48 = .ok (.iload_n 3, 1) := by decide +kernel
theorem dX11_trace_49 : decode cX11_trace 49 = .ok (.imul, 1) := by decide +kernel
theorem dX11_trace_50 : decode cX11_trace 50 = .ok (.iconst 2, 1) := by decide +kernel
theorem dX11_trace_51 : decode cX11_trace 51 = .ok (.iadd, 1) := by decide +kernel
theorem dX11_trace_52 : decode cX11_trace 52 = .ok (.aload_n 0, 1) := by decide +kernel
theorem dX11_trace_53 : decode cX11_trace 53 = .ok (.getfield 80, 3) := by decide +kernel
theorem dX11_trace_56 : decode cX11_trace 56 = .ok (.iload_n 1, 1) := by decide +kernel
theorem dX11_trace_57 : decode cX11_trace 57 = .ok (.iaload, 1) := by decide +kernel
theorem dX11_trace_58 : decode cX11_trace 58 = .ok (.if_icmp .ge 81, 3) := by decide +kernel
theorem dX11_trace_61 : decode cX11_trace 61 = .ok (.aload_n 0, 1) := by decide +kernel
theorem dX11_trace_62 : decode cX11_trace 62 = .ok (.iload_n 2, 1) := by decide +kernel
theorem dX11_trace_63 : decode cX11_trace 63 = .ok (.invokevirtual 255, 3) := by decide +kernel
theorem dX11_trace_66 : decode cX11_trace 66 = .ok (.ifCond .ne 73, 3) := by decide +kernel
theorem dX11_trace_69 : decode cX11_trace 69 = .ok (.aload_n 0, 1) := by decide +kernel
theorem dX11_trace_70 : decode cX11_trace 70 = .ok (.getfield 83, 3) := by decide +kernel
theorem dX11_trace_73 : decode cX11_trace 73 = .ok (.iload 4, 2) := by decide +kernel
theorem dX11_trace_75 : decode cX11_trace 75 = .ok (.iconst 3, 1) := by decide +kernel
theorem dX11_trace_76 : decode cX11_trace 76 = .ok (.iload_n 3, 1) := by decide +kernel
theorem dX11_trace_77 : decode cX11_trace 77 = .ok (.imul, 1) := by decide +kernel
theorem dX11_trace_78 : decode cX11_trace 78 = .ok (.iadd, 1) := by decide +kernel
theorem dX11_trace_79 : decode cX11_trace 79 = .ok (.iconst 2, 1) := by decide +kernel
theorem dX11_trace_80 : decode cX11_trace 80 = .ok (.iadd, 1) := by decide +kernel
theorem dX11_trace_81 : decode cX11_trace 81 = .ok (.iaload, 1) := by decide +kernel
theorem dX11_trace_82 : decode cX11_trace 82 = .ok (.iconst 0, 1) := by decide +kernel
theorem dX11_trace_83 : decode cX11_trace 83 = .ok (.bipush 30, 2) := by decide +kernel
theorem dX11_trace_85 : decode cX11_trace 85 = .ok (.invokestatic 121, 3) := by decide +kernel
theorem dX11_trace_88 : decode cX11_trace 88 = .ok (.ifCond .eq 51, 3) := by decide +kernel
theorem dX11_trace_91 : decode cX11_trace 91 = .ok (.aload_n 0, 1) := by decide +kernel
theorem dX11_trace_92 : decode cX11_trace 92 = .ok (.iload_n 2, 1) := by decide +kernel
theorem dX11_trace_93 : decode cX11_trace 93 = .ok (.aload_n 0, 1) := by decide +kernel
theorem dX11_trace_94 : decode cX11_trace 94 = .ok (.getfield 83, 3) := by decide +kernel
theorem dX11_trace_97 : decode cX11_trace 97 = .ok (.iload 4, 2) := by decide +kernel
theorem dX11_trace_99 : decode cX11_trace 99 = .ok (.iconst 3, 1) := by decide +kernel
theorem dX11_trace_100 : decode cX11_trace 100 = .ok (.iload_n 3, 1) := by decide +kernel
theorem dX11_trace_101 : decode cX11_trace 101 = .ok (.imul, 1) := by decide +kernel
theorem dX11_trace_102 : decode cX11_trace 102 = .ok (.iadd, 1) := by decide +kernel
theorem dX11_trace_103 : decode cX11_trace 103 = .ok (.iaload, 1) := by decide +kernel
theorem dX11_trace_104 : decode cX11_trace 104 = .ok (.aload_n 0, 1) := by decide +kernel
theorem dX11_trace_105 : decode cX11_trace 105 = .ok (.getfield 83, 3) := by decide +kernel
theorem dX11_trace_108 : decode cX11_trace 108 = .ok (.iload 4, 2) := by decide +kernel
theorem dX11_trace_110 : decode cX11_trace 110 = .ok (.iconst 3, 1) := by decide +kernel
theorem dX11_trace_111 : decode cX11_trace 111 = .ok (.iload_n 3, 1) := by decide +kernel
theorem dX11_trace_112 : decode cX11_trace 112 = .ok (.imul, 1) := by decide +kernel
theorem dX11_trace_113 : decode cX11_trace 113 = .ok (.iadd, 1) := by decide +kernel
theorem dX11_trace_114 : decode cX11_trace 114 = .ok (.iconst 1, 1) := by decide +kernel
theorem dX11_trace_115 : decode cX11_trace 115 = .ok (.iadd, 1) := by decide +kernel
theorem dX11_trace_116 : decode cX11_trace 116 = .ok (.iaload, 1) := by decide +kernel
theorem dX11_trace_117 : decode cX11_trace 117 = .ok (.aload_n 0, 1) := by decide +kernel
theorem dX11_trace_118 : decode cX11_trace 118 = .ok (.getfield 83, 3) := by decide +kernel
theorem dX11_trace_121 : decode cX11_trace 121 = .ok (.iload 4, 2) := by decide +kernel
theorem dX11_trace_123 : decode cX11_trace 123 = .ok (.iconst 3, 1) := by decide +kernel
theorem dX11_trace_124 : decode cX11_trace 124 = .ok (.iload_n 3, 1) := by decide +kernel
theorem dX11_trace_125 : decode cX11_trace 125 = .ok (.imul, 1) := by decide +kernel
theorem dX11_trace_126 : decode cX11_trace 126 = .ok (.iadd, 1) := by decide +kernel
theorem dX11_trace_127 : decode cX11_trace 127 = .ok (.iconst 2, 1) := by decide +kernel
theorem dX11_trace_128 : decode cX11_trace 128 = .ok (.iadd, 1) := by decide +kernel
theorem dX11_trace_129 : decode cX11_trace 129 = .ok (.iaload, 1) := by decide +kernel
theorem dX11_trace_130 : decode cX11_trace 130 = .ok (.invokevirtual 275, 3) := by decide +kernel
theorem dX11_trace_133 : decode cX11_trace 133 = .ok (.iinc 3 1, 3) := by decide +kernel
theorem dX11_trace_136 : decode cX11_trace 136 = .ok (.goto (-89), 3) := by decide +kernel
theorem dX11_trace_139 : decode cX11_trace 139 = .ok (.iload_n 3, 1) := by decide +kernel
theorem dX11_trace_140 : decode cX11_trace 140 = .ok (.ireturn, 1) := by decide +kernel
theorem dX11_told_0 : decode cX11_told 0 = .ok (.iload_n 1, 1) := by decide +kernel
theorem dX11_told_1 : decode cX11_told 1 = .ok (.tableswitch 78 0 6 #[43, 48, 53, 58, 63, 68, 73], 43) := by decide +kernel
theorem dX11_told_44 : decode cX11_told 44 = .ok (.aload_n 0, 1) := by decide +kernel
theorem dX11_told_45 : decode cX11_told 45 = .ok (.getfield 118, 3) := by decide +kernel
theorem dX11_told_48 : decode cX11_told 48 = .ok (.ireturn, 1) := by decide +kernel
theorem dX11_told_49 : decode cX11_told 49 = .ok (.aload_n 0, 1) := by decide +kernel
theorem dX11_told_50 : decode cX11_told 50 = .ok (.getfield 125, 3) := by decide +kernel
theorem dX11_told_53 : decode cX11_told 53 = .ok (.ireturn, 1) := by decide +kernel
theorem dX11_told_54 : decode cX11_told 54 = .ok (.aload_n 0, 1) := by decide +kernel
theorem dX11_told_55 : decode cX11_told 55 = .ok (.getfield 184, 3) := by decide +kernel
theorem dX11_told_58 : decode cX11_told 58 = .ok (.ireturn, 1) := by decide +kernel
theorem dX11_told_59 : decode cX11_told 59 = .ok (.aload_n 0, 1) := by decide +kernel
theorem dX11_told_60 : decode cX11_told 60 = .ok (.getfield 128, 3) := by decide +kernel
theorem dX11_told_63 : decode cX11_told 63 = .ok (.ireturn, 1) := by decide +kernel
theorem dX11_told_64 : decode cX11_told 64 = .ok (.aload_n 0, 1) := by decide +kernel
theorem dX11_told_65 : decode cX11_told 65 = .ok (.getfield 245, 3) := by decide +kernel
theorem dX11_told_68 : decode cX11_told 68 = .ok (.ireturn, 1) := by decide +kernel
theorem dX11_told_69 : decode cX11_told 69 = .ok (.aload_n 0, 1) := by decide +kernel
theorem dX11_told_70 : decode cX11_told 70 = .ok (.getfield 159, 3) := by decide +kernel
theorem dX11_told_73 : decode cX11_told 73 = .ok (.ireturn, 1) := by decide +kernel
theorem dX11_told_74 : decode cX11_told 74 = .ok (.aload_n 0, 1) := by decide +kernel
theorem dX11_told_75 : decode cX11_told 75 = .ok (.getfield 114, 3) := by decide +kernel
theorem dX11_told_78 : decode cX11_told 78 = .ok (.ireturn, 1) := by decide +kernel
theorem dX11_told_79 : decode cX11_told 79 = .ok (.aload_n 0, 1) := by decide +kernel
theorem dX11_told_80 : decode cX11_told 80 = .ok (.ldc 131, 2) := by decide +kernel
theorem dX11_told_82 : decode cX11_told 82 = .ok (.invokevirtual 132, 3) := by decide +kernel
theorem dX11_told_85 : decode cX11_told 85 = .ok (.ireturn, 1) := by decide +kernel
end
section
theorem dJ6_numberOfTrailingZeros_0f7a4_0 : decode cJ6_numberOfTrailingZeros_0f7a4 0 = .ok (.iload_n 0, 1) := by decide +kernel
theorem dJ6_numberOfTrailingZeros_0f7a4_1 : decode cJ6_numberOfTrailingZeros_0f7a4 1 = .ok (.iconst (-1), 1) := by decide +kernel
theorem dJ6_numberOfTrailingZeros_0f7a4_2 : decode cJ6_numberOfTrailingZeros_0f7a4 2 = .ok (.ixor, 1) := by decide +kernel
theorem dJ6_numberOfTrailingZeros_0f7a4_3 : decode cJ6_numberOfTrailingZeros_0f7a4 3 = .ok (.iload_n 0, 1) := by decide +kernel
theorem dJ6_numberOfTrailingZeros_0f7a4_4 : decode cJ6_numberOfTrailingZeros_0f7a4 4 = .ok (.iconst 1, 1) := by decide +kernel
theorem dJ6_numberOfTrailingZeros_0f7a4_5 : decode cJ6_numberOfTrailingZeros_0f7a4 5 = .ok (.isub, 1) := by decide +kernel
theorem dJ6_numberOfTrailingZeros_0f7a4_6 : decode cJ6_numberOfTrailingZeros_0f7a4 6 = .ok (.iand, 1) := by decide +kernel
theorem dJ6_numberOfTrailingZeros_0f7a4_7 : decode cJ6_numberOfTrailingZeros_0f7a4 7 = .ok (.istore_n 0, 1) := by decide +kernel
theorem dJ6_numberOfTrailingZeros_0f7a4_8 : decode cJ6_numberOfTrailingZeros_0f7a4 8 = .ok (.iload_n 0, 1) := by decide +kernel
theorem dJ6_numberOfTrailingZeros_0f7a4_9 : decode cJ6_numberOfTrailingZeros_0f7a4 9 = .ok (.ifCond .gt 8, 3) := by decide +kernel
theorem dJ6_numberOfTrailingZeros_0f7a4_12 : decode cJ6_numberOfTrailingZeros_0f7a4 12 = .ok (.iload_n 0, 1) := by decide +kernel
theorem dJ6_numberOfTrailingZeros_0f7a4_13 : decode cJ6_numberOfTrailingZeros_0f7a4 13 = .ok (.bipush 32, 2) := by decide +kernel
theorem dJ6_numberOfTrailingZeros_0f7a4_15 : decode cJ6_numberOfTrailingZeros_0f7a4 15 = .ok (.iand, 1) := by decide +kernel
theorem dJ6_numberOfTrailingZeros_0f7a4_16 : decode cJ6_numberOfTrailingZeros_0f7a4 16 = .ok (.ireturn, 1) := by decide +kernel
theorem dJ6_numberOfTrailingZeros_0f7a4_17 : decode cJ6_numberOfTrailingZeros_0f7a4 17 = .ok (.iconst 1, 1) := by decide +kernel
theorem dJ6_numberOfTrailingZeros_0f7a4_18 : decode cJ6_numberOfTrailingZeros_0f7a4 18 = .ok (.istore_n 1, 1) := by decide +kernel
theorem dJ6_numberOfTrailingZeros_0f7a4_19 : decode cJ6_numberOfTrailingZeros_0f7a4 19 = .ok (.iload_n 0, 1) := by decide +kernel
theorem dJ6_numberOfTrailingZeros_0f7a4_20 : decode cJ6_numberOfTrailingZeros_0f7a4 20 = .ok (.ldc_w 264, 3) := by decide +kernel
theorem dJ6_numberOfTrailingZeros_0f7a4_23 : decode cJ6_numberOfTrailingZeros_0f7a4 23 = .ok (.if_icmp .le 11, 3) := by decide +kernel
theorem dJ6_numberOfTrailingZeros_0f7a4_26 : decode cJ6_numberOfTrailingZeros_0f7a4 26 = .ok (.iinc 1 16, 3) := by decide +kernel
theorem dJ6_numberOfTrailingZeros_0f7a4_29 : decode cJ6_numberOfTrailingZeros_0f7a4 29 = .ok (.iload_n 0, 1) := by decide +kernel
theorem dJ6_numberOfTrailingZeros_0f7a4_30 : decode cJ6_numberOfTrailingZeros_0f7a4 30 = .ok (.bipush 16, 2) := by decide +kernel
theorem dJ6_numberOfTrailingZeros_0f7a4_32 : decode cJ6_numberOfTrailingZeros_0f7a4 32 = .ok (.iushr, 1) := by decide +kernel
theorem dJ6_numberOfTrailingZeros_0f7a4_33 : decode cJ6_numberOfTrailingZeros_0f7a4 33 = .ok (.istore_n 0, 1) := by decide +kernel
theorem dJ6_numberOfTrailingZeros_0f7a4_34 : decode cJ6_numberOfTrailingZeros_0f7a4 34 = .ok (.iload_n 0, 1) := by decide +kernel
theorem dJ6_numberOfTrailingZeros_0f7a4_35 : decode cJ6_numberOfTrailingZeros_0f7a4 35 = .ok (.sipush 256, 3) := by decide +kernel
theorem dJ6_numberOfTrailingZeros_0f7a4_38 : decode cJ6_numberOfTrailingZeros_0f7a4 38 = .ok (.if_icmp .le 11, 3) := by decide +kernel
theorem dJ6_numberOfTrailingZeros_0f7a4_41 : decode cJ6_numberOfTrailingZeros_0f7a4 41 = .ok (.iinc 1 8, 3) := by decide +kernel
theorem dJ6_numberOfTrailingZeros_0f7a4_44 : decode cJ6_numberOfTrailingZeros_0f7a4 44 = .ok (.iload_n 0, 1) := by decide +kernel
theorem dJ6_numberOfTrailingZeros_0f7a4_45 : decode cJ6_numberOfTrailingZeros_0f7a4 45 = .ok (.bipush 8, 2) := by decide +kernel
theorem dJ6_numberOfTrailingZeros_0f7a4_47 : decode cJ6_numberOfTrailingZeros_0f7a4 47 = .ok (.iushr, 1) := by decide +kernel
theorem dJ6_numberOfTrailingZeros_0f7a4_48 : decode cJ6_numberOfTrailingZeros_0f7a4 48 = .ok (.istore_n 0, 1) := by decide +kernel
theorem dJ6_numberOfTrailingZeros_0f7a4_49 : decode cJ6_numberOfTrailingZeros_0f7a4 49 = .ok (.iload_n 0, 1) := by decide +kernel
theorem dJ6_numberOfTrailingZeros_0f7a4_50 : decode cJ6_numberOfTrailingZeros_0f7a4 50 = .ok (.bipush 16, 2) := by decide +kernel
theorem dJ6_numberOfTrailingZeros_0f7a4_52 : decode cJ6_numberOfTrailingZeros_0f7a4 52 = .ok (.if_icmp .le 10, 3) := by decide +kernel
theorem dJ6_numberOfTrailingZeros_0f7a4_55 : decode cJ6_numberOfTrailingZeros_0f7a4 55 = .ok (.iinc 1 4, 3) := by decide +kernel
theorem dJ6_numberOfTrailingZeros_0f7a4_58 : decode cJ6_numberOfTrailingZeros_0f7a4 58 = .ok (.iload_n 0, 1) := by decide +kernel
theorem dJ6_numberOfTrailingZeros_0f7a4_59 : decode cJ6_numberOfTrailingZeros_0f7a4 59 = .ok (.iconst 4, 1) := by decide +kernel
theorem dJ6_numberOfTrailingZeros_0f7a4_60 : decode cJ6_numberOfTrailingZeros_0f7a4 60 = .ok (.iushr, 1) := by decide +kernel
theorem dJ6_numberOfTrailingZeros_0f7a4_61 : decode cJ6_numberOfTrailingZeros_0f7a4 61 = .ok (.istore_n 0, 1) := by decide +kernel
theorem dJ6_numberOfTrailingZeros_0f7a4_62 : decode cJ6_numberOfTrailingZeros_0f7a4 62 = .ok (.iload_n 0, 1) := by decide +kernel
theorem dJ6_numberOfTrailingZeros_0f7a4_63 : decode cJ6_numberOfTrailingZeros_0f7a4 63 = .ok (.iconst 4, 1) := by decide +kernel
theorem dJ6_numberOfTrailingZeros_0f7a4_64 : decode cJ6_numberOfTrailingZeros_0f7a4 64 = .ok (.if_icmp .le 10, 3) := by decide +kernel
theorem dJ6_numberOfTrailingZeros_0f7a4_67 : decode cJ6_numberOfTrailingZeros_0f7a4 67 = .ok (.iinc 1 2, 3) := by decide +kernel
theorem dJ6_numberOfTrailingZeros_0f7a4_70 : decode cJ6_numberOfTrailingZeros_0f7a4 70 = .ok (.iload_n 0, 1) := by decide +kernel
theorem dJ6_numberOfTrailingZeros_0f7a4_71 : decode cJ6_numberOfTrailingZeros_0f7a4 71 = .ok (.iconst 2, 1) := by decide +kernel
theorem dJ6_numberOfTrailingZeros_0f7a4_72 : decode cJ6_numberOfTrailingZeros_0f7a4 72 = .ok (.iushr, 1) := by decide +kernel
theorem dJ6_numberOfTrailingZeros_0f7a4_73 : decode cJ6_numberOfTrailingZeros_0f7a4 73 = .ok (.istore_n 0, 1) := by decide +kernel
theorem dJ6_numberOfTrailingZeros_0f7a4_74 : decode cJ6_numberOfTrailingZeros_0f7a4 74 = .ok (.iload_n 1, 1) := by decide +kernel
theorem dJ6_numberOfTrailingZeros_0f7a4_75 : decode cJ6_numberOfTrailingZeros_0f7a4 75 = .ok (.iload_n 0, 1) := by decide +kernel
theorem dJ6_numberOfTrailingZeros_0f7a4_76 : decode cJ6_numberOfTrailingZeros_0f7a4 76 = .ok (.iconst 1, 1) := by decide +kernel
theorem dJ6_numberOfTrailingZeros_0f7a4_77 : decode cJ6_numberOfTrailingZeros_0f7a4 77 = .ok (.iushr, 1) := by decide +kernel
theorem dJ6_numberOfTrailingZeros_0f7a4_78 : decode cJ6_numberOfTrailingZeros_0f7a4 78 = .ok (.iadd, 1) := by decide +kernel
theorem dJ6_numberOfTrailingZeros_0f7a4_79 : decode cJ6_numberOfTrailingZeros_0f7a4 79 = .ok (.ireturn, 1) := by decide +kernel
theorem dJ6_bitCount_0f7a4_0 : decode cJ6_bitCount_0f7a4 0 = .ok (.iload_n 0, 1) := by decide +kernel
theorem dJ6_bitCount_0f7a4_1 : decode cJ6_bitCount_0f7a4 1 = .ok (.iload_n 0, 1) := by decide +kernel
theorem dJ6_bitCount_0f7a4_2 : decode cJ6_bitCount_0f7a4 2 = .ok (.iconst 1, 1) := by decide +kernel
theorem dJ6_bitCount_0f7a4_3 : decode cJ6_bitCount_0f7a4 3 = .ok (.iushr, 1) := by decide +kernel
theorem dJ6_bitCount_0f7a4_4 : decode cJ6_bitCount_0f7a4 4 = .ok (.ldc_w 265, 3) := by decide +kernel
theorem dJ6_bitCount_0f7a4_7 : decode cJ6_bitCount_0f7a4 7 = .ok (.iand, 1) := by decide +kernel
theorem dJ6_bitCount_0f7a4_8 : decode cJ6_bitCount_0f7a4 8 = .ok (.isub, 1) := by decide +kernel
theorem dJ6_bitCount_0f7a4_9 : decode cJ6_bitCount_0f7a4 9 = .ok (.istore_n 0, 1) := by decide +kernel
theorem dJ6_bitCount_0f7a4_10 : decode cJ6_bitCount_0f7a4 10 = .ok (.iload_n 0, 1) := by decide +kernel
theorem dJ6_bitCount_0f7a4_11 : decode cJ6_bitCount_0f7a4 11 = .ok (.ldc_w 266, 3) := by decide +kernel
theorem dJ6_bitCount_0f7a4_14 : decode cJ6_bitCount_0f7a4 14 = .ok (.iand, 1) := by decide +kernel
theorem dJ6_bitCount_0f7a4_15 : decode cJ6_bitCount_0f7a4 15 = .ok (.iload_n 0, 1) := by decide +kernel
theorem dJ6_bitCount_0f7a4_16 : decode cJ6_bitCount_0f7a4 16 = .ok (.iconst 2, 1) := by decide +kernel
theorem dJ6_bitCount_0f7a4_17 : decode cJ6_bitCount_0f7a4 17 = .ok (.iushr, 1) := by decide +kernel
theorem dJ6_bitCount_0f7a4_18 : decode cJ6_bitCount_0f7a4 18 = .ok (.ldc_w 266, 3) := by decide +kernel
theorem dJ6_bitCount_0f7a4_21 : decode cJ6_bitCount_0f7a4 21 = .ok (.iand, 1) := by decide +kernel
theorem dJ6_bitCount_0f7a4_22 : decode cJ6_bitCount_0f7a4 22 = .ok (.iadd, 1) := by decide +kernel
theorem dJ6_bitCount_0f7a4_23 : decode cJ6_bitCount_0f7a4 23 = .ok (.istore_n 0, 1) := by decide +kernel
theorem dJ6_bitCount_0f7a4_24 : decode cJ6_bitCount_0f7a4 24 = .ok (.iload_n 0, 1) := by decide +kernel
theorem dJ6_bitCount_0f7a4_25 : decode cJ6_bitCount_0f7a4 25 = .ok (.iload_n 0, 1) := by decide +kernel
theorem dJ6_bitCount_0f7a4_26 : decode cJ6_bitCount_0f7a4 26 = .ok (.iconst 4, 1) := by decide +kernel
theorem dJ6_bitCount_0f7a4_27 : decode cJ6_bitCount_0f7a4 27 = .ok (.iushr, 1) := by decide +kernel
theorem dJ6_bitCount_0f7a4_28 : decode cJ6_bitCount_0f7a4 28 = .ok (.iadd, 1) := by decide +kernel
theorem dJ6_bitCount_0f7a4_29 : decode cJ6_bitCount_0f7a4 29 = .ok (.ldc_w 267, 3) := by decide +kernel
theorem dJ6_bitCount_0f7a4_32 : decode cJ6_bitCount_0f7a4 32 = .ok (.iand, 1) := by decide +kernel
theorem dJ6_bitCount_0f7a4_33 : decode cJ6_bitCount_0f7a4 33 = .ok (.istore_n 0, 1) := by decide +kernel
theorem dJ6_bitCount_0f7a4_34 : decode cJ6_bitCount_0f7a4 34 = .ok (.iload_n 0, 1) := by decide +kernel
theorem dJ6_bitCount_0f7a4_35 : decode cJ6_bitCount_0f7a4 35 = .ok (.iload_n 0, 1) := by decide +kernel
theorem dJ6_bitCount_0f7a4_36 : decode cJ6_bitCount_0f7a4 36 = .ok (.bipush 8, 2) := by decide +kernel
theorem dJ6_bitCount_0f7a4_38 : decode cJ6_bitCount_0f7a4 38 = .ok (.iushr, 1) := by decide +kernel
theorem dJ6_bitCount_0f7a4_39 : decode cJ6_bitCount_0f7a4 39 = .ok (.iadd, 1) := by decide +kernel
theorem dJ6_bitCount_0f7a4_40 : decode cJ6_bitCount_0f7a4 40 = .ok (.istore_n 0, 1) := by decide +kernel
theorem dJ6_bitCount_0f7a4_41 : decode cJ6_bitCount_0f7a4 41 = .ok (.iload_n 0, 1) := by decide +kernel
theorem dJ6_bitCount_0f7a4_42 : decode cJ6_bitCount_0f7a4 42 = .ok (.iload_n 0, 1) := by decide +kernel
theorem dJ6_bitCount_0f7a4_43 : decode cJ6_bitCount_0f7a4 43 = .ok (.bipush 16, 2) := by decide +kernel
theorem dJ6_bitCount_0f7a4_45 : decode cJ6_bitCount_0f7a4 45 = .ok (.iushr, 1) := by decide +kernel
theorem dJ6_bitCount_0f7a4_46 : decode cJ6_bitCount_0f7a4 46 = .ok (.iadd, 1) := by decide +kernel
theorem dJ6_bitCount_0f7a4_47 : decode cJ6_bitCount_0f7a4 47 = .ok (.istore_n 0, 1) := by decide +kernel
theorem dJ6_bitCount_0f7a4_48 : decode cJ6_bitCount_0f7a4 48 = .ok (.iload_n 0, 1) := by decide +kernel
theorem dJ6_bitCount_0f7a4_49 : decode cJ6_bitCount_0f7a4 49 = .ok (.bipush 63, 2) := by decide +kernel
theorem dJ6_bitCount_0f7a4_51 : decode cJ6_bitCount_0f7a4 51 = .ok (.iand, 1) := by decide +kernel
theorem dJ6_bitCount_0f7a4_52 : decode cJ6_bitCount_0f7a4 52 = .ok (.ireturn, 1) := by decide +kernel
theorem dJ9_abs_067f4_0 : decode cJ9_abs_067f4 0 = .ok (.lload_n 0, 1) := by decide +kernel
theorem dJ9_abs_067f4_1 : decode cJ9_abs_067f4 1 = .ok (.lconst 0, 1) := by decide +kernel
theorem dJ9_abs_067f4_2 : decode cJ9_abs_067f4 2 = .ok (.lcmp, 1) := by decide +kernel
theorem dJ9_abs_067f4_3 : decode cJ9_abs_067f4 3 = .ok (.ifCond .ge 8, 3) := by decide +kernel
theorem dJ9_abs_067f4_6 : decode cJ9_abs_067f4 6 = .ok (.lload_n 0, 1) := by decide +kernel
theorem dJ9_abs_067f4_7 : decode cJ9_abs_067f4 7 = .ok (.lneg, 1) := by decide +kernel
theorem dJ9_abs_067f4_8 : decode cJ9_abs_067f4 8 = .ok (.goto 4, 3) := by decide +kernel
theorem dJ9_abs_067f4_11 : decode cJ9_abs_067f4 11 = .ok (.lload_n 0, 1) := by decide +kernel
theorem dJ9_abs_067f4_12 : decode cJ9_abs_067f4 12 = .ok (.lreturn, 1) := by decide +kernel
theorem dJ9_max_7cf53_0 : decode cJ9_max_7cf53 0 = .ok (.iload_n 0, 1) := by decide +kernel
theorem dJ9_max_7cf53_1 : decode cJ9_max_7cf53 1 = .ok (.iload_n 1, 1) := by decide +kernel
theorem dJ9_max_7cf53_2 : decode cJ9_max_7cf53 2 = .ok (.if_icmp .lt 7, 3) := by decide +kernel
theorem dJ9_max_7cf53_5 : decode cJ9_max_7cf53 5 = .ok (.iload_n 0, 1) := by decide +kernel
theorem dJ9_max_7cf53_6 : decode cJ9_max_7cf53 6 = .ok (.goto 4, 3) := by decide +kernel
theorem dJ9_max_7cf53_9 : decode cJ9_max_7cf53 9 = .ok (.iload_n 1, 1) := by decide +kernel
theorem dJ9_max_7cf53_10 : decode cJ9_max_7cf53 10 = .ok (.ireturn, 1) := by decide +kernel
theorem dJ9_min_7cf53_0 : decode cJ9_min_7cf53 0 = .ok (.iload_n 0, 1) := by decide +kernel
theorem dJ9_min_7cf53_1 : decode cJ9_min_7cf53 1 = .ok (.iload_n 1, 1) := by decide +kernel
theorem dJ9_min_7cf53_2 : decode cJ9_min_7cf53 2 = .ok (.if_icmp .gt 7, 3) := by decide +kernel
theorem dJ9_min_7cf53_5 : decode cJ9_min_7cf53 5 = .ok (.iload_n 0, 1) := by decide +kernel
theorem dJ9_min_7cf53_6 : decode cJ9_min_7cf53 6 = .ok (.goto 4, 3) := by decide +kernel
theorem dJ9_min_7cf53_9 : decode cJ9_min_7cf53 9 = .ok (.iload_n 1, 1) := by decide +kernel
theorem dJ9_min_7cf53_10 : decode cJ9_min_7cf53 10 = .ok (.ireturn, 1) := by decide +kernel
theorem dJ0_length_8abf5_0 : decode cJ0_length_8abf5 0 = .ok (.aload_n 0, 1) := by decide +kernel
theorem dJ0_length_8abf5_1 : decode cJ0_length_8abf5 1 = .ok (.getfield 9, 3) := by decide +kernel
theorem dJ0_length_8abf5_4 : decode cJ0_length_8abf5 4 = .ok (.arraylength, 1) := by decide +kernel
theorem dJ0_length_8abf5_5 : decode cJ0_length_8abf5 5 = .ok (.aload_n 0, 1) := by decide +kernel
theorem dJ0_length_8abf5_6 : decode cJ0_length_8abf5 6 = .ok (.invokevirtual 335, 3) := by decide +kernel
theorem dJ0_length_8abf5_9 : decode cJ0_length_8abf5 9 = .ok (.ishr, 1) := by decide +kernel
theorem dJ0_length_8abf5_10 : decode cJ0_length_8abf5 10 = .ok (.ireturn, 1) := by decide +kernel
theorem dJ0_charAt_5068e_0 : decode cJ0_charAt_5068e 0 = .ok (.aload_n 0, 1) := by decide +kernel
theorem dJ0_charAt_5068e_1 : decode cJ0_charAt_5068e 1 = .ok (.invokevirtual 492, 3) := by decide +kernel
theorem dJ0_charAt_5068e_4 : decode cJ0_charAt_5068e 4 = .ok (.ifCond .eq 12, 3) := by decide +kernel
theorem dJ0_charAt_5068e_7 : decode cJ0_charAt_5068e 7 = .ok (.aload_n 0, 1) := by decide +kernel
theorem dJ0_charAt_5068e_8 : decode cJ0_charAt_5068e 8 = .ok (.getfield 9, 3) := by decide +kernel
theorem dJ0_charAt_5068e_11 : decode cJ0_charAt_5068e 11 = .ok (.iload_n 1, 1) := by decide +kernel
theorem dJ0_charAt_5068e_12 : decode cJ0_charAt_5068e 12 = .ok (.invokestatic 495, 3) := by decide +kernel
theorem dJ0_charAt_5068e_15 : decode cJ0_charAt_5068e 15 = .ok (.ireturn, 1) := by decide +kernel
theorem dJ0_charAt_5068e_16 : decode cJ0_charAt_5068e 16 = .ok (.aload_n 0, 1) := by decide +kernel
theorem dJ0_charAt_5068e_17 : decode cJ0_charAt_5068e 17 = .ok (.getfield 9, 3) := by decide +kernel
theorem dJ0_charAt_5068e_20 : decode cJ0_charAt_5068e 20 = .ok (.iload_n 1, 1) := by decide +kernel
theorem dJ0_charAt_5068e_21 : decode cJ0_charAt_5068e 21 = .ok (.invokestatic 498, 3) := by decide +kernel
theorem dJ0_charAt_5068e_24 : decode cJ0_charAt_5068e 24 = .ok (.ireturn, 1) := by decide +kernel
theorem dJ0_coder_7d493_0 : decode cJ0_coder_7d493 0 = .ok (.getstatic 38, 3) := by decide +kernel
theorem dJ0_coder_7d493_3 : decode cJ0_coder_7d493 3 = .ok (.ifCond .eq 10, 3) := by decide +kernel
theorem dJ0_coder_7d493_6 : decode cJ0_coder_7d493 6 = .ok (.aload_n 0, 1) := by decide +kernel
theorem dJ0_coder_7d493_7 : decode cJ0_coder_7d493 7 = .ok (.getfield 15, 3) := by decide +kernel
theorem dJ0_coder_7d493_10 : decode cJ0_coder_7d493 10 = .ok (.goto 4, 3) := by decide +kernel
theorem dJ0_coder_7d493_13 : decode cJ0_coder_7d493 13 = .ok (.iconst 1, 1) := by decide +kernel
theorem dJ0_coder_7d493_14 : decode cJ0_coder_7d493 14 = .ok (.ireturn, 1) := by decide +kernel
theorem dJ0_isLatin1_aae02_0 : decode cJ0_isLatin1_aae02 0 = .ok (.getstatic 38, 3) := by decide +kernel
theorem dJ0_isLatin1_aae02_3 : decode cJ0_isLatin1_aae02 3 = .ok (.ifCond .eq 14, 3) := by decide +kernel
theorem dJ0_isLatin1_aae02_6 : decode cJ0_isLatin1_aae02 6 = .ok (.aload_n 0, 1) := by decide +kernel
theorem dJ0_isLatin1_aae02_7 : decode cJ0_isLatin1_aae02 7 = .ok (.getfield 15, 3) := by decide +kernel
theorem dJ0_isLatin1_aae02_10 : decode cJ0_isLatin1_aae02 10 = .ok (.ifCond .ne 7, 3) := by decide +kernel
theorem dJ0_isLatin1_aae02_13 : decode cJ0_isLatin1_aae02 13 = .ok (.iconst 1, 1) := by decide +kernel
theorem dJ0_isLatin1_aae02_14 : decode cJ0_isLatin1_aae02 14 = .ok (.goto 4, 3) := by decide +kernel
theorem dJ0_isLatin1_aae02_17 : decode cJ0_isLatin1_aae02 17 = .ok (.iconst 0, 1) := by decide +kernel
theorem dJ0_isLatin1_aae02_18 : decode cJ0_isLatin1_aae02 18 = .ok (.ireturn, 1) := by decide +kernel
theorem dJ0_checkIndex_df160_0 : decode cJ0_checkIndex_df160 0 = .ok (.iload_n 0, 1) := by decide +kernel
theorem dJ0_checkIndex_df160_1 : decode cJ0_checkIndex_df160 1 = .ok (.iload_n 1, 1) := by decide +kernel
theorem dJ0_checkIndex_df160_2 : decode cJ0_checkIndex_df160 2 = .ok (.getstatic 1053, 3) := by decide +kernel
theorem dJ0_checkIndex_df160_5 : decode cJ0_checkIndex_df160 5 = .ok (.invokestatic 1059, 3) := by decide +kernel
theorem dJ0_checkIndex_df160_8 : decode cJ0_checkIndex_df160 8 = .ok (.pop, 1) := by decide +kernel
theorem dJ0_checkIndex_df160_9 : decode cJ0_checkIndex_df160 9 = .ok (.return_, 1) := by decide +kernel
theorem dJ1_charAt_3b067_0 : decode cJ1_charAt_3b067 0 = .ok (.iload_n 1, 1) := by decide +kernel
theorem dJ1_charAt_3b067_1 : decode cJ1_charAt_3b067 1 = .ok (.aload_n 0, 1) := by decide +kernel
theorem dJ1_charAt_3b067_2 : decode cJ1_charAt_3b067 2 = .ok (.arraylength, 1) := by decide +kernel
theorem dJ1_charAt_3b067_3 : decode cJ1_charAt_3b067 3 = .ok (.invokestatic 9, 3) := by decide +kernel
theorem dJ1_charAt_3b067_6 : decode cJ1_charAt_3b067 6 = .ok (.aload_n 0, 1) := by decide +kernel
theorem dJ1_charAt_3b067_7 : decode cJ1_charAt_3b067 7 = .ok (.iload_n 1, 1) := by decide +kernel
theorem dJ1_charAt_3b067_8 : decode cJ1_charAt_3b067 8 = .ok (.baload, 1) := by decide +kernel
theorem dJ1_charAt_3b067_9 : decode cJ1_charAt_3b067 9 = .ok (.sipush 255, 3) := by decide +kernel
theorem dJ1_charAt_3b067_12 : decode cJ1_charAt_3b067 12 = .ok (.iand, 1) := by decide +kernel
theorem dJ1_charAt_3b067_13 : decode cJ1_charAt_3b067 13 = .ok (.i2c, 1) := by decide +kernel
theorem dJ1_charAt_3b067_14 : decode cJ1_charAt_3b067 14 = .ok (.ireturn, 1) := by decide +kernel
theorem dJ2_getChar_3b067_0 : decode cJ2_getChar_3b067 0 = .ok (.getstatic 44, 3) := by decide +kernel
theorem dJ2_getChar_3b067_3 : decode cJ2_getChar_3b067 3 = .ok (.ifCond .ne 25, 3) := by decide +kernel
theorem dJ2_getChar_3b067_6 : decode cJ2_getChar_3b067 6 = .ok (.iload_n 1, 1) := by decide +kernel
theorem dJ2_getChar_3b067_7 : decode cJ2_getChar_3b067 7 = .ok (.ifCond .lt 11, 3) := by decide +kernel
theorem dJ2_getChar_3b067_10 : decode cJ2_getChar_3b067 10 = .ok (.iload_n 1, 1) := by decide +kernel
theorem dJ2_getChar_3b067_11 : decode cJ2_getChar_3b067 11 = .ok (.aload_n 0, 1) := by decide +kernel
theorem dJ2_getChar_3b067_12 : decode cJ2_getChar_3b067 12 = .ok (.invokestatic 48, 3) := by decide +kernel
theorem dJ2_getChar_3b067_15 : decode cJ2_getChar_3b067 15 = .ok (.if_icmp .lt 13, 3) := by decide +kernel
theorem dJ2_getChar_3b067_18 : decode cJ2_getChar_3b067 18 = .ok (.new 52, 3) := by decide +kernel
theorem dJ2_getChar_3b067_21 : decode cJ2_getChar_3b067 21 = .ok (.dup, 1) := by decide +kernel
theorem dJ2_getChar_3b067_22 : decode cJ2_getChar_3b067 22 = .ok (.ldc 54, 2) := by decide +kernel
theorem dJ2_getChar_3b067_24 : decode cJ2_getChar_3b067 24 = .ok (.invokespecial 56, 3) := by decide +kernel
theorem dJ2_getChar_3b067_27 : decode cJ2_getChar_3b067 27 = .ok (.athrow, 1) := by decide +kernel
theorem dJ2_getChar_3b067_28 : decode cJ2_getChar_3b067 28 = .ok (.iload_n 1, 1) := by decide +kernel
theorem dJ2_getChar_3b067_29 : decode cJ2_getChar_3b067 29 = .ok (.iconst 1, 1) := by decide +kernel
theorem dJ2_getChar_3b067_30 : decode cJ2_getChar_3b067 30 = .ok (.ishl, 1) := by decide +kernel
theorem dJ2_getChar_3b067_31 : decode cJ2_getChar_3b067 31 = .ok (.istore_n 1, 1) := by decide +kernel
theorem dJ2_getChar_3b067_32 : decode cJ2_getChar_3b067 32 = .ok (.aload_n 0, 1) := by decide +kernel
theorem dJ2_getChar_3b067_33 : decode cJ2_getChar_3b067 33 = .ok (.iload_n 1, 1) := by decide +kernel
theorem dJ2_getChar_3b067_34 : decode cJ2_getChar_3b067 34 = .ok (.iinc 1 1, 3) := by decide +kernel
theorem dJ2_getChar_3b067_37 : decode cJ2_getChar_3b067 37 = .ok (.baload, 1) := by decide +kernel
theorem dJ2_getChar_3b067_38 : decode cJ2_getChar_3b067 38 = .ok (.sipush 255, 3) := by decide +kernel
theorem dJ2_getChar_3b067_41 : decode cJ2_getChar_3b067 41 = .ok (.iand, 1) := by decide +kernel
theorem dJ2_getChar_3b067_42 : decode cJ2_getChar_3b067 42 = .ok (.getstatic 59, 3) := by decide +kernel
theorem dJ2_getChar_3b067_45 : decode cJ2_getChar_3b067 45 = .ok (.ishl, 1) := by decide +kernel
theorem dJ2_getChar_3b067_46 : decode cJ2_getChar_3b067 46 = .ok (.aload_n 0, 1) := by decide +kernel
theorem dJ2_getChar_3b067_47 : decode cJ2_getChar_3b067 47 = .ok (.iload_n 1, 1) := by decide +kernel
theorem dJ2_getChar_3b067_48 : decode cJ2_getChar_3b067 48 = .ok (.baload, 1) := by decide +kernel
theorem dJ2_getChar_3b067_49 : decode cJ2_getChar_3b067 49 = .ok (.sipush 255, 3) := by decide +kernel
theorem dJ2_getChar_3b067_52 : decode cJ2_getChar_3b067 52 = .ok (.iand, 1) := by decide +kernel
theorem dJ2_getChar_3b067_53 : decode cJ2_getChar_3b067 53 = .ok (.getstatic 63, 3) := by decide +kernel
theorem dJ2_getChar_3b067_56 : decode cJ2_getChar_3b067 56 = .ok (.ishl, 1) := by decide +kernel
theorem dJ2_getChar_3b067_57 : decode cJ2_getChar_3b067 57 = .ok (.ior, 1) := by decide +kernel
theorem dJ2_getChar_3b067_58 : decode cJ2_getChar_3b067 58 = .ok (.i2c, 1) := by decide +kernel
theorem dJ2_getChar_3b067_59 : decode cJ2_getChar_3b067 59 = .ok (.ireturn, 1) := by decide +kernel
theorem dJ2_length_9d52b_0 : decode cJ2_length_9d52b 0 = .ok (.aload_n 0, 1) := by decide +kernel
theorem dJ2_length_9d52b_1 : decode cJ2_length_9d52b 1 = .ok (.arraylength, 1) := by decide +kernel
theorem dJ2_length_9d52b_2 : decode cJ2_length_9d52b 2 = .ok (.iconst 1, 1) := by decide +kernel
theorem dJ2_length_9d52b_3 : decode cJ2_length_9d52b 3 = .ok (.ishr, 1) := by decide +kernel
theorem dJ2_length_9d52b_4 : decode cJ2_length_9d52b 4 = .ok (.ireturn, 1) := by decide +kernel
theorem dJ2_charAt_3b067_0 : decode cJ2_charAt_3b067 0 = .ok (.iload_n 1, 1) := by decide +kernel
theorem dJ2_charAt_3b067_1 : decode cJ2_charAt_3b067 1 = .ok (.aload_n 0, 1) := by decide +kernel
theorem dJ2_charAt_3b067_2 : decode cJ2_charAt_3b067 2 = .ok (.invokestatic 67, 3) := by decide +kernel
theorem dJ2_charAt_3b067_5 : decode cJ2_charAt_3b067 5 = .ok (.aload_n 0, 1) := by decide +kernel
theorem dJ2_charAt_3b067_6 : decode cJ2_charAt_3b067 6 = .ok (.iload_n 1, 1) := by decide +kernel
theorem dJ2_charAt_3b067_7 : decode cJ2_charAt_3b067 7 = .ok (.invokestatic 71, 3) := by decide +kernel
theorem dJ2_charAt_3b067_10 : decode cJ2_charAt_3b067 10 = .ok (.ireturn, 1) := by decide +kernel
theorem dJ2_checkIndex_2214a_0 : decode cJ2_checkIndex_2214a 0 = .ok (.iload_n 0, 1) := by decide +kernel
theorem dJ2_checkIndex_2214a_1 : decode cJ2_checkIndex_2214a 1 = .ok (.aload_n 1, 1) := by decide +kernel
theorem dJ2_checkIndex_2214a_2 : decode cJ2_checkIndex_2214a 2 = .ok (.invokestatic 48, 3) := by decide +kernel
theorem dJ2_checkIndex_2214a_5 : decode cJ2_checkIndex_2214a 5 = .ok (.invokestatic 414, 3) := by decide +kernel
theorem dJ2_checkIndex_2214a_8 : decode cJ2_checkIndex_2214a 8 = .ok (.return_, 1) := by decide +kernel
theorem dJ7_fill_53178_0 : decode cJ7_fill_53178 0 = .ok (.iconst 0, 1) := by decide +kernel
theorem dJ7_fill_53178_1 : decode cJ7_fill_53178 1 = .ok (.istore_n 2, 1) := by decide +kernel
theorem dJ7_fill_53178_2 : decode cJ7_fill_53178 2 = .ok (.aload_n 0, 1) := by decide +kernel
theorem dJ7_fill_53178_3 : decode cJ7_fill_53178 3 = .ok (.arraylength, 1) := by decide +kernel
theorem dJ7_fill_53178_4 : decode cJ7_fill_53178 4 = .ok (.istore_n 3, 1) := by decide +kernel
theorem dJ7_fill_53178_5 : decode cJ7_fill_53178 5 = .ok (.iload_n 2, 1) := by decide +kernel
theorem dJ7_fill_53178_6 : decode cJ7_fill_53178 6 = .ok (.iload_n 3, 1) := by decide +kernel
theorem dJ7_fill_53178_7 : decode cJ7_fill_53178 7 = .ok (.if_icmp .ge 13, 3) := by decide +kernel
theorem dJ7_fill_53178_10 : decode cJ7_fill_53178 10 = .ok (.aload_n 0, 1) := by decide +kernel
theorem dJ7_fill_53178_11 : decode cJ7_fill_53178 11 = .ok (.iload_n 2, 1) := by decide +kernel
theorem dJ7_fill_53178_12 : decode cJ7_fill_53178 12 = .ok (.iload_n 1, 1) := by decide +kernel
theorem dJ7_fill_53178_13 : decode cJ7_fill_53178 13 = .ok (.iastore, 1) := by decide +kernel
theorem dJ7_fill_53178_14 : decode cJ7_fill_53178 14 = .ok (.iinc 2 1, 3) := by decide +kernel
theorem dJ7_fill_53178_17 : decode cJ7_fill_53178 17 = .ok (.goto (-12), 3) := by decide +kernel
theorem dJ7_fill_53178_20 : decode cJ7_fill_53178 20 = .ok (.return_, 1) := by decide +kernel
theorem dJ3_checkIndex_8e157_0 : decode cJ3_checkIndex_8e157 0 = .ok (.iload_n 0, 1) := by decide +kernel
theorem dJ3_checkIndex_8e157_1 : decode cJ3_checkIndex_8e157 1 = .ok (.ifCond .lt 8, 3) := by decide +kernel
theorem dJ3_checkIndex_8e157_4 : decode cJ3_checkIndex_8e157 4 = .ok (.iload_n 0, 1) := by decide +kernel
theorem dJ3_checkIndex_8e157_5 : decode cJ3_checkIndex_8e157 5 = .ok (.iload_n 1, 1) := by decide +kernel
theorem dJ3_checkIndex_8e157_6 : decode cJ3_checkIndex_8e157 6 = .ok (.if_icmp .lt 10, 3) := by decide +kernel
theorem dJ3_checkIndex_8e157_9 : decode cJ3_checkIndex_8e157 9 = .ok (.aload_n 2, 1) := by decide +kernel
theorem dJ3_checkIndex_8e157_10 : decode cJ3_checkIndex_8e157 10 = .ok (.iload_n 0, 1) := by decide +kernel
theorem dJ3_checkIndex_8e157_11 : decode cJ3_checkIndex_8e157 11 = .ok (.iload_n 1, 1) := by decide +kernel
theorem dJ3_checkIndex_8e157_12 : decode cJ3_checkIndex_8e157 12 = .ok (.invokestatic 95, 3) := by decide +kernel
theorem dJ3_checkIndex_8e157_15 : decode cJ3_checkIndex_8e157 15 = .ok (.athrow, 1) := by decide +kernel
theorem dJ3_checkIndex_8e157_16 : decode cJ3_checkIndex_8e157 16 = .ok (.iload_n 0, 1) := by decide +kernel
theorem dJ3_checkIndex_8e157_17 : decode cJ3_checkIndex_8e157 17 = .ok (.ireturn, 1) := by decide +kernel
end
section
/-! THE LAYER OVER THE KIT: a heap by kinds of cells, a judgement V that carries its context, contracts zC. -/
theorem in_t1 {w : Cond} (j : Nat) (h : tables_1_1[j]? = some w) : w ∈ lw_tbl := List.mem_append_right _ (List.mem_append_left _ (List.mem_of_getElem? h))
theorem in_t2 {w : Cond} (j : Nat) (h : tables_1_2[j]? = some w) : w ∈ lw_tbl := List.mem_append_right _ (List.mem_append_right _ (List.mem_append_left _ (List.mem_of_getElem? h)))
theorem in_t3 {w : Cond} (j : Nat) (h : tables_1_3[j]? = some w) : w ∈ lw_tbl := List.mem_append_right _ (List.mem_append_right _ (List.mem_append_right _ (List.mem_append_left _ (List.mem_of_getElem? h))))
theorem in_t4 {w : Cond} (j : Nat) (h : tables_1_4[j]? = some w) : w ∈ lw_tbl := List.mem_append_right _ (List.mem_append_right _ (List.mem_append_right _ (List.mem_append_right _ (List.mem_append_left _ (List.mem_of_getElem? h)))))
theorem in_t5 {w : Cond} (j : Nat) (h : tables_1_5[j]? = some w) : w ∈ lw_tbl := List.mem_append_right _ (List.mem_append_right _ (List.mem_append_right _ (List.mem_append_right _ (List.mem_append_right _ (List.mem_of_getElem? h)))))
theorem in_s {w : Cond} (j : Nat) (h : (k2_sels lw_privs)[j]? = some w) : w ∈ lw_tbl := List.mem_append_left _ (List.mem_of_getElem? h)
/-- the words that every state of the run keeps -/
def zOk : Cond → Bool
  | .fieldLinkNest _ _ _ _ _ _ => true
  | .methodLinkNest _ _ _ _ => true
  | .arrayOver (.object _) => true
  | .stringRef _ _ _ => false
  | w => goodWord w
abbrev zT : Type := Nat → Nat × Nat
abbrev zN : Type := Nat → Nat → Nat → Int32
abbrev zP : Type := Nat → Nat → Nat → Option Nat
abbrev zI : Type := Nat → Nat → Int32
abbrev zR : Type := Nat → Nat → Option Nat
def u1 {α : Type} (f : Nat → α) (a : Nat) (v : α) : Nat → α := fun b => if b = a then v else f b
def u2 {α : Type} (f : Nat → Nat → α) (a i : Nat) (v : α) : Nat → Nat → α := fun b j => if b = a ∧ j = i then v else f b j
def u3 {α : Type} (f : Nat → Nat → Nat → α) (c k a : Nat) (v : α) : Nat → Nat → Nat → α := fun c' k' b => if c' = c ∧ k' = k ∧ b = a then v else f c' k' b
def uo {α : Type} (f : Nat → Nat → Nat → α) (c a : Nat) (v : α) : Nat → Nat → Nat → α := fun c' k' b => if c' = c ∧ b = a then v else f c' k' b
/-- which fields are references -/
def zr : Nat → Nat → Bool
  | 0, 0 => true
  | 1, 0 => true
  | 1, 1 => true
  | 3, 0 => true
  | 4, 0 => true
  | 4, 1 => true
  | 4, 2 => true
  | 4, 3 => true
  | 4, 4 => true
  | 5, 1 => true
  | 6, 0 => true
  | 7, 0 => true
  | 7, 1 => true
  | 7, 2 => true
  | 8, 0 => true
  | 10, 0 => true
  | 10, 1 => true
  | 10, 2 => true
  | 10, 3 => true
  | 10, 4 => true
  | 10, 5 => true
  | 11, 0 => false
  | 11, 3 => false
  | 11, 9 => false
  | 11, 17 => false
  | 11, 18 => false
  | 11, 27 => false
  | 11, 31 => false
  | 11, 32 => false
  | 11, 33 => false
  | 11, 42 => false
  | 11, _ => true
  | _, _ => false
/-- how many fields -/
def zn : Nat → Nat
  | 0 => 3
  | 1 => 2
  | 2 => 5
  | 3 => 3
  | 4 => 8
  | 5 => 2
  | 6 => 2
  | 7 => 5
  | 8 => 9
  | 9 => 5
  | 10 => 10
  | 11 => 44
  | _ => 0
def zF (N : zN) (P : zP) (ci a : Nat) : List Value := (List.range (zn ci)).map fun k => if zr ci k = true then va_rf (P ci k a) else Value.int (N ci k a)
theorem zF_get {N : zN} {P : zP} {ci a k : Nat} (hk : k < zn ci) : (zF N P ci a)[k]? = some (if zr ci k = true then va_rf (P ci k a) else Value.int (N ci k a)) := by
  simp [zF, List.getElem?_map, List.getElem?_range hk]
theorem zF_len {N : zN} {P : zP} {ci a : Nat} : (zF N P ci a).length = zn ci := by simp [zF]
theorem zF_ext {N N' : zN} {P P' : zP} {ci a : Nat} (h : ∀ k, k < zn ci → (if zr ci k = true then va_rf (P ci k a) else Value.int (N ci k a)) = (if zr ci k = true then va_rf (P' ci k a) else Value.int (N' ci k a))) : zF N P ci a = zF N' P' ci a := by
  apply List.map_congr_left
  intro k hk
  exact h k (List.mem_range.mp hk)
theorem zF_setN {N : zN} {P : zP} {ci a k : Nat} {x : Int32} (hr : zr ci k = false) : (zF N P ci a).set k (.int x) = zF (u3 N ci k a x) P ci a := by
  apply List.ext_getElem?
  intro j
  by_cases hj : j < zn ci
  · by_cases hjk : j = k
    · subst hjk
      rw [List.getElem?_set_self (by rw [zF_len]; exact hj), zF_get hj]
      simp [hr, u3]
    · rw [List.getElem?_set_ne (Ne.symm hjk), zF_get hj, zF_get hj]
      simp [u3, hjk]
  · rw [List.getElem?_eq_none (by rw [List.length_set, zF_len]; omega), List.getElem?_eq_none (by rw [zF_len]; omega)]
theorem zF_setP {N : zN} {P : zP} {ci a k : Nat} {x : Option Nat} (hr : zr ci k = true) : (zF N P ci a).set k (va_rf x) = zF N (u3 P ci k a x) ci a := by
  apply List.ext_getElem?
  intro j
  by_cases hj : j < zn ci
  · by_cases hjk : j = k
    · subst hjk
      rw [List.getElem?_set_self (by rw [zF_len]; exact hj), zF_get hj]
      simp [hr, u3]
    · rw [List.getElem?_set_ne (Ne.symm hjk), zF_get hj, zF_get hj]
      simp [u3, hjk]
  · rw [List.getElem?_eq_none (by rw [List.length_set, zF_len]; omega), List.getElem?_eq_none (by rw [zF_len]; omega)]
theorem zF_neN {N : zN} {P : zP} {ci a k c b : Nat} {x : Int32} (h : b ≠ a) : zF (u3 N ci k a x) P c b = zF N P c b := zF_ext fun j _ => by simp [u3, h]
theorem zF_neP {N : zN} {P : zP} {ci a k c b : Nat} {x : Option Nat} (h : b ≠ a) : zF N (u3 P ci k a x) c b = zF N P c b := zF_ext fun j _ => by simp [u3, h]
theorem zF_new {N : zN} {P : zP} {ci a c b : Nat} (h : b ≠ a) : zF (uo N ci a 0) (uo P ci a none) c b = zF N P c b := zF_ext fun j _ => by simp [uo, h]
/-- tags: 0 no cell of ours; 1 int[], 2 boolean[], 3 byte[] (with its length); 10 + ci an object; 30 + ci an array of such -/
def zcell (kA : Nat → ClassId) (T : zT) (N : zN) (P : zP) (I : zI) (R : zR) (a : Nat) : Option va_E :=
  if (T a).1 = 0 then none
  else if (T a).1 < 10 then some (.inl (kA (T a).1, (T a).2, .inl (I a)))
  else if (T a).1 < 30 then some (.inr ((T a).1 - 10, zF N P ((T a).1 - 10) a))
  else some (.inl (kA (T a).1, (T a).2, .inr (.inr (.inr (.inr (R a))))))
/-- the run's constants: the tables' numbers, the arrays' classes, where our cells begin, the text constant and its bytes -/
abbrev zE : Type := va_G × (Nat → ClassId) × Nat × Nat × Nat
def zA (E : zE) : Nat → Prop := fun q => E.2.2.1 ≤ q
def zCov (E : zE) (T : zT) (N : zN) (P : zP) (I : zI) (R : zR) (ws : va_W) : Prop := ∀ (a : Nat) (e : va_E), zcell E.2.1 T N P I R a = some e → ∃ k : Nat, ws[k]? = some (a, e)
def zH (E : zE) (T : zT) (N : zN) (P : zP) (I : zI) (R : zR) (H : Heap) : Prop := ∃ ws : va_W, va_P E.1 vwCl ws H ∧ va_D (zA E) ws ∧ zCov E T N P I R ws
theorem zCov.set {E : zE} {T T' : zT} {N N' : zN} {P P' : zP} {I I' : zI} {R R' : zR} {ws : va_W} {k a : Nat} {e0 e : va_E} (h : zCov E T N P I R ws) (hk : ws[k]? = some (a, e0))
    (h1 : zcell E.2.1 T' N' P' I' R' a = some e) (h2 : ∀ b, b ≠ a → zcell E.2.1 T' N' P' I' R' b = zcell E.2.1 T N P I R b) : zCov E T' N' P' I' R' (ws.set k (a, e)) := by
  intro b e1 hb
  by_cases hba : b = a
  · subst hba
    rw [h1] at hb
    cases hb
    exact ⟨k, List.getElem?_set_self (List.getElem?_eq_some_iff.mp hk).1⟩
  · rw [h2 b hba] at hb
    obtain ⟨j, hj⟩ := h b e1 hb
    refine ⟨j, ?_⟩
    rw [List.getElem?_set_ne]
    · exact hj
    · intro e
      subst e
      rw [hk] at hj
      cases hj
      exact hba rfl
theorem zCov.push {E : zE} {T T' : zT} {N N' : zN} {P P' : zP} {I I' : zI} {R R' : zR} {ws : va_W} {q : Nat} {e : va_E} (h : zCov E T N P I R ws)
    (h1 : zcell E.2.1 T' N' P' I' R' q = some e) (h2 : ∀ b, b ≠ q → zcell E.2.1 T' N' P' I' R' b = zcell E.2.1 T N P I R b) : zCov E T' N' P' I' R' (ws ++ [(q, e)]) := by
  intro b e1 hb
  by_cases hba : b = q
  · subst hba
    rw [h1] at hb
    cases hb
    exact ⟨ws.length, by simp⟩
  · rw [h2 b hba] at hb
    obtain ⟨j, hj⟩ := h b e1 hb
    exact ⟨j, by rw [List.getElem?_append_left (List.getElem?_eq_some_iff.mp hj).1]; exact hj⟩
theorem zCov.fresh {E : zE} {T : zT} {N : zN} {P : zP} {I : zI} {R : zR} {ws : va_W} {A : Nat → Prop} {q : Nat} {e : va_E} (h : zCov E T N P I R ws) (hD : va_D A (ws ++ [(q, e)])) : (T q).1 = 0 := by
  by_cases h0 : (T q).1 = 0
  · exact h0
  · exfalso
    have : ∃ e', zcell E.2.1 T N P I R q = some e' := by
      unfold zcell
      rw [if_neg h0]
      split
      · exact ⟨_, rfl⟩
      · split <;> exact ⟨_, rfl⟩
    obtain ⟨e', he⟩ := this
    obtain ⟨j, hj⟩ := h q e' he
    have hl := (List.getElem?_eq_some_iff.mp hj).1
    have hij := hD.1 j ws.length (q, e') (q, e) (by rw [List.getElem?_append_left hl]; exact hj) (by simp) rfl
    omega
abbrev ztys (kA : Nat → ClassId) : List (ClassId × FieldType) := [(kA 1, .int), (kA 2, .boolean), (kA 3, .byte), (kA 30, .object RX0), (kA 32, .object RX2), (kA 35, .object RX5), (kA 38, .object RX8), (kA 39, .object RX9)]
/-- the text constant "pste", String's COMPACT_STRINGS -/
def zX (E : zE) (U : State) : Prop := vk_R RX3 62 "pste" E.2.2.2.1 U ∧ vk_S 1 [4] [[112, 115, 116, 101]] (fun _ => E.2.2.2.1) (fun _ => E.2.2.2.2) (zA E) U U.heap ∧ va_Z "java/lang/String" "COMPACT_STRINGS" "Z" (.int 1) (zA E) U U.heap
def zW (E : zE) (U : State) : Prop := va_K E.1 vwCl (ztys E.2.1) U ∧ (∀ (A : Array Value) (w : Cond), w ∈ lw_tbl → zOk w = true → w.before A U = true) ∧ E.2.2.1 ≤ U.heap.size ∧ zX E U
theorem zword {w : Cond} (hg : zOk w = true) {s U : State} (hW : s.WarmedH U.vm) (h : ∀ A : Array Value, w.before A s = true) (A : Array Value) : w.before A U = true := by
  cases w with
  | fieldLinkNest a i b n d h9 => exact va_Nw.use rfl (va_Nw.warmF hW (va_Nw.of rfl (h #[])))
  | methodLinkNest a i x h9 => exact va_Nw.use rfl (va_Nw.warmM hW (va_Nw.of rfl (h #[])))
  | stringRef a b c => cases hg
  | arrayOver t =>
    cases t with
    | object C => exact va_AO.use (va_AO.moved hW.alike (va_AO.of (h #[])))
    | _ => exact word_at hW (good_of_word hg) (h #[])
  | _ => exact word_at hW (good_of_word hg) (h #[])
/-- a word of the tables says the same at every state of the same tables -/
theorem zsameG {w : Cond} (hg : goodWord w = true) {u U : State} (hv : u.vm = U.vm) {A A' : Array Value} (h : w.before A u = true) : w.before A' U = true := by
  rcases good_of_word hg with h1 | ⟨ty, rfl⟩
  · exact va_tabs (Bool.and_eq_true_iff.mp h1).1 hv h
  · simp only [Cond.before, Cond.holds, Cond.value, hv] at h ⊢
    exact h
theorem zsame {w : Cond} (hg : zOk w = true) {u U : State} (hv : u.vm = U.vm) {A A' : Array Value} (h : w.before A u = true) : w.before A' U = true := by
  cases w with
  | fieldLinkNest a i b n d h9 => exact va_tabs rfl hv h
  | methodLinkNest a i x h9 => exact va_tabs rfl hv h
  | stringRef a b c => cases hg
  | arrayOver t =>
    cases t with
    | object C => exact va_AO.use (va_AO.moved (hv ▸ Vm.Alike.refl _) (va_AO.of h))
    | _ => refine zsameG ?_ hv h; exact hg
  | _ => refine zsameG ?_ hv h; exact hg
theorem zW.move {E : zE} {s U : State} {locs : List Loc} (h : zW E s) (hW : s.WarmedH U.vm) (hS : va_S (zA E) s.heap U.heap locs) : zW E U :=
  ⟨va_K.moved hW.alike h.1, fun A w hw ho => zword ho hW (fun A => h.2.1 A w hw ho) A, Nat.le_trans h.2.2.1 hS.1, h.2.2.2.1.warm hW, (vk_S.moved hW.alike h.2.2.2.2.1).kept hS.2.1, (va_Z.moved hW.alike h.2.2.2.2.2).kept hS.2.1⟩
/-- the machine at a method's body -/
abbrev zM : Type := Program × Launch × Env × Room × State × MethodId × Array Value × List Frame × Method × Code
abbrev zM.p (z : zM) : Program := z.1
abbrev zM.l (z : zM) : Launch := z.2.1
abbrev zM.e (z : zM) : Env := z.2.2.1
abbrev zM.R (z : zM) : Room := z.2.2.2.1
abbrev zM.s (z : zM) : State := z.2.2.2.2.1
abbrev zM.m (z : zM) : MethodId := z.2.2.2.2.2.1
abbrev zM.a (z : zM) : Array Value := z.2.2.2.2.2.2.1
abbrev zM.b (z : zM) : List Frame := z.2.2.2.2.2.2.2.1
abbrev zM.t (z : zM) : Method := z.2.2.2.2.2.2.2.2.1
abbrev zM.c (z : zM) : Code := z.2.2.2.2.2.2.2.2.2
def zK (E : zE) (y : MethodName) (cc : ByteArray) (nL : Nat) (ret : Option FieldType) (rm : Room) : Type :=
  { z : zM // z.p.tables.exec = Jvm.exec ∧ z.c.code = cc ∧ z.c.maxLocals = nL ∧ z.s.vm.findClass y.cls = some z.m.cls ∧ z.t.sig.returnType = ret ∧ z.t.locks = false ∧ z.t.name = y.name ∧ z.R = rm ∧ zW E z.s }
section zsec
variable {E : zE} {y : MethodName} {cc : ByteArray} {nL : Nat} {ret : Option FieldType} {rm : Room}
theorem zK.x (K : zK E y cc nL ret rm) : K.1.p.tables.exec = Jvm.exec := K.2.1
theorem zK.hb (K : zK E y cc nL ret rm) : K.1.c.code = cc := K.2.2.1
theorem zK.hm (K : zK E y cc nL ret rm) : K.1.c.maxLocals = nL := K.2.2.2.1
theorem zK.ho (K : zK E y cc nL ret rm) : K.1.s.vm.findClass y.cls = some K.1.m.cls := K.2.2.2.2.1
theorem zK.hr (K : zK E y cc nL ret rm) : K.1.t.sig.returnType = ret := K.2.2.2.2.2.1
theorem zK.hk (K : zK E y cc nL ret rm) : K.1.t.locks = false := K.2.2.2.2.2.2.1
theorem zK.hn (K : zK E y cc nL ret rm) : K.1.t.name = y.name := K.2.2.2.2.2.2.2.1
theorem zK.hR (K : zK E y cc nL ret rm) : K.1.R = rm := K.2.2.2.2.2.2.2.2.1
theorem zK.hw (K : zK E y cc nL ret rm) : zW E K.1.s := K.2.2.2.2.2.2.2.2.2
theorem zK.wd (K : zK E y cc nL ret rm) {w : Cond} (h : w ∈ lw_tbl) (ho : zOk w = true) : w.before K.1.a K.1.s = true := K.hw.2.1 _ w h ho
theorem zK.kk (K : zK E y cc nL ret rm) : va_K E.1 vwCl (ztys E.2.1) K.1.s := K.hw.1
theorem zK.aa (K : zK E y cc nL ret rm) : ∀ q, K.1.s.heap.size ≤ q → zA E q := fun _ h => Nat.le_trans K.hw.2.2.1 h
def zL (LS : Array Slot) (nL : Nat) (ls : List (Option Value)) : Prop := LS.size = nL ∧ lv_wf LS ∧ ∀ (k : Nat) (v : Value), ls[k]? = some (some v) → LS[k]? = some (.val v)
/-- the judgement: from here, over the heap (T, N, P, I, R), with kc cells of ks slots made, the machine comes to Qf -/
def V (K : zK E y cc nL ret rm) (Qf : State → Prop) (T : zT) (N : zN) (P : zP) (I : zI) (R : zR) (kc ks pc : Nat) (ls : List (Option Value)) (st : List Value) : Prop :=
  ∀ (H : Heap) (locs : List Loc) (LS : Array Slot), zH E T N P I R H → va_S (zA E) K.1.s.heap H locs → zL LS nL ls →
    W K.1.p K.1.l K.1.e K.1.R K.1.s K.1.m K.1.a K.1.b K.1.t K.1.c H locs kc ks Qf (F0 K.1.m pc LS st)
/-- a contract's end -/
def zQ (E : zE) (Q : Option Value → zT → zN → zP → zI → zR → Prop) : Array Value → State → Outcome → State → Prop := fun _ st oc t =>
  (∃ (v : Option Value) (T : zT) (N : zN) (P : zP) (I : zI) (R : zR), oc = .returned v ∧ Q v T N P I R ∧ zH E T N P I R t.heap) ∧ va_F (zA E) st t
/-- a contract -/
def zC (E : zE) (y : MethodName) (cc : ByteArray) (nL : Nat) (ret : Option FieldType) (rm : Room) (As : List Value) (T : zT) (N : zN) (P : zP) (I : zI) (R : zR) (Q : Option Value → zT → zN → zP → zI → zR → Prop) : Prop :=
  ∀ l : Launch, Met l y [Cond.code y cc nL ret] rm (va_Pc As (fun U => zH E T N P I R U.heap ∧ zW E U)) (zQ E Q) rm.cells rm.slots (zA E)
def zQf (K : zK E y cc nL ret rm) (Q : Option Value → zT → zN → zP → zI → zR → Prop) : State → Prop := MQ K.1.b (zQ E Q) K.1.a K.1.s rm.cells rm.slots (zA E)
/-- the locals at a method's entry -/
def zarg : List Value → List (Option Value)
  | [] => []
  | v :: vs => if v.category = 2 then some v :: none :: zarg vs else some v :: zarg vs
theorem zarg_in : ∀ (vs : List Value) (i k : Nat) (v : Value), (zarg vs)[k]? = some (some v) → (i + k, v) ∈ lv_args i vs
  | [], i, k, v, h => by simp [zarg] at h
  | w :: vs, i, k, v, h => by
    unfold zarg at h
    unfold lv_args
    by_cases hc : w.category = 2
    · rw [if_pos hc] at h
      rw [if_pos hc]
      match k, h with
      | 0, h => cases h; exact List.mem_cons_self
      | 1, h => simp at h
      | k + 2, h =>
        have := zarg_in vs (i + 2) k v (by simpa using h)
        exact List.mem_cons_of_mem _ (by rw [show i + (k + 2) = i + 2 + k by omega]; exact this)
    · rw [if_neg hc] at h
      rw [if_neg hc]
      match k, h with
      | 0, h => cases h; exact List.mem_cons_self
      | k + 1, h =>
        have := zarg_in vs (i + 1) k v (by simpa using h)
        exact List.mem_cons_of_mem _ (by rw [show i + (k + 1) = i + 1 + k by omega]; exact this)
theorem zL_entry {vs : List Value} {n j : Nat} {LS : Array Slot} (h : lv_has LS n (lv_args 0 vs)) : zL LS n (zarg vs ++ List.replicate j none) := by
  refine ⟨h.1, h.2.1, fun k v hk => ?_⟩
  by_cases hl : k < (zarg vs).length
  · rw [List.getElem?_append_left hl] at hk
    have := zarg_in vs 0 k v hk
    rw [Nat.zero_add] at this
    exact h.2.2 _ this
  · rw [List.getElem?_append_right (by omega)] at hk
    simp [List.getElem?_replicate] at hk
theorem zC.intro {As : List Value} {T : zT} {N : zN} {P : zP} {I : zI} {R : zR} {Q : Option Value → zT → zN → zP → zI → zR → Prop} (hy : plainName y.cls = true) (hle : (lg_sl As).length ≤ nL) (j : Nat) {ls : List (Option Value)} (hls : zarg As ++ List.replicate j none = ls)
    (h : ∀ K : zK E y cc nL ret rm, V K (zQf K Q) T N P I R 0 0 0 ls []) : zC E y cc nL ret rm As T N P I R Q := by
  intro l
  refine Met.ofW (cc := cc) (maxL := nL) (ret := ret) hy rfl ?_
  intro p e s m args below meth c s₁ B hml hv
  obtain ⟨rfl, hH, hZ⟩ := hv
  have hown : s.vm.findClass y.cls = some m.cls := findClass_of_methodNamed B.named
  have hin := (name_of_methodNamed B.named B.method).1
  rw [lg_entry_eq]
  exact h ⟨(p, l, e, rm, s, m, As.toArray, below, meth, c), B.exec, B.bytes, hml, hown, B.returns, B.notSynchronized, hin, rfl, hZ⟩ s.heap [] _ hH va_S.rf (hls ▸ zL_entry (lv_entry As hle))
end zsec
end
section
section zrule
variable {E : zE} {y : MethodName} {cc : ByteArray} {nL : Nat} {ret : Option FieldType} {rm : Room} {K : zK E y cc nL ret rm} {Qf : State → Prop} {T : zT} {N : zN} {P : zP} {I : zI} {R : zR} {kc ks pc n : Nat} {ls : List (Option Value)} {st : List Value}
theorem v_iconst {m : Int} {v : Int32} (d : decode cc pc = .ok (.iconst m, 1)) (hv : Int32.ofInt m = v) (hn : pc + 1 = n) (k : V K Qf T N P I R kc ks n ls (.int v :: st)) : V K Qf T N P I R kc ks pc ls (st) := by
  subst hn
  exact fun H locs LS h1 h2 h3 => lv_iconst K.x K.hb d hv (k H locs LS h1 h2 h3)
theorem v_bipush {m : Int} {v : Int32} (d : decode cc pc = .ok (.bipush m, 2)) (hv : (Int8.ofInt m).toInt32 = v) (hn : pc + 2 = n) (k : V K Qf T N P I R kc ks n ls (.int v :: st)) : V K Qf T N P I R kc ks pc ls (st) := by
  subst hn
  exact fun H locs LS h1 h2 h3 => lv_bipush K.x K.hb d hv (k H locs LS h1 h2 h3)
theorem v_sipush {m : Int} {v : Int32} (d : decode cc pc = .ok (.sipush m, 3)) (hv : (Int16.ofInt m).toInt32 = v) (hn : pc + 3 = n) (k : V K Qf T N P I R kc ks n ls (.int v :: st)) : V K Qf T N P I R kc ks pc ls (st) := by
  subst hn
  exact fun H locs LS h1 h2 h3 => lv_sipush K.x K.hb d hv (k H locs LS h1 h2 h3)
theorem v_null  (d : decode cc pc = .ok (.aconst_null, 1))  (hn : pc + 1 = n) (k : V K Qf T N P I R kc ks n ls (.null :: st)) : V K Qf T N P I R kc ks pc ls (st) := by
  subst hn
  exact fun H locs LS h1 h2 h3 => lv_null K.x K.hb d  (k H locs LS h1 h2 h3)
theorem v_ldc {idx : Nat} {v : Int32} (d : decode cc pc = .ok (.ldc idx, 2)) (hc : Cond.constant y.cls idx v ∈ lw_tbl) (hn : pc + 2 = n) (k : V K Qf T N P I R kc ks n ls (.int v :: st)) : V K Qf T N P I R kc ks pc ls st := by
  subst hn
  exact fun H locs LS h1 h2 h3 => lv_ldc K.x K.hb K.ho (K.wd hc rfl) d (k H locs LS h1 h2 h3)
theorem v_ldcw {idx : Nat} {v : Int32} (d : decode cc pc = .ok (.ldc_w idx, 3)) (hc : Cond.constant y.cls idx v ∈ lw_tbl) (hn : pc + 3 = n) (k : V K Qf T N P I R kc ks n ls (.int v :: st)) : V K Qf T N P I R kc ks pc ls st := by
  subst hn
  exact fun H locs LS h1 h2 h3 => lv_ldcw K.x K.hb K.ho (K.wd hc rfl) d (k H locs LS h1 h2 h3)
theorem v_ldc2 {idx : Nat} {v : Int64} (d : decode cc pc = .ok (.ldc2_w idx, 3)) (hc : Cond.constantLong y.cls idx v ∈ lw_tbl) (hn : pc + 3 = n) (k : V K Qf T N P I R kc ks n ls (.long v :: st)) : V K Qf T N P I R kc ks pc ls st := by
  subst hn
  exact fun H locs LS h1 h2 h3 => lv_ldc2 K.x K.hb K.ho (K.wd hc rfl) d (k H locs LS h1 h2 h3)
theorem v_iadd {a b : Int32} (d : decode cc pc = .ok (.iadd, 1))  (hn : pc + 1 = n) (k : V K Qf T N P I R kc ks n ls (.int (a + b) :: st)) : V K Qf T N P I R kc ks pc ls (.int b :: .int a :: st) := by
  subst hn
  exact fun H locs LS h1 h2 h3 => lv_iadd K.x K.hb d  (k H locs LS h1 h2 h3)
theorem v_isub {a b : Int32} (d : decode cc pc = .ok (.isub, 1))  (hn : pc + 1 = n) (k : V K Qf T N P I R kc ks n ls (.int (a - b) :: st)) : V K Qf T N P I R kc ks pc ls (.int b :: .int a :: st) := by
  subst hn
  exact fun H locs LS h1 h2 h3 => lv_isub K.x K.hb d  (k H locs LS h1 h2 h3)
theorem v_imul {a b : Int32} (d : decode cc pc = .ok (.imul, 1))  (hn : pc + 1 = n) (k : V K Qf T N P I R kc ks n ls (.int (a * b) :: st)) : V K Qf T N P I R kc ks pc ls (.int b :: .int a :: st) := by
  subst hn
  exact fun H locs LS h1 h2 h3 => lv_imul K.x K.hb d  (k H locs LS h1 h2 h3)
theorem v_iand {a b : Int32} (d : decode cc pc = .ok (.iand, 1))  (hn : pc + 1 = n) (k : V K Qf T N P I R kc ks n ls (.int (a &&& b) :: st)) : V K Qf T N P I R kc ks pc ls (.int b :: .int a :: st) := by
  subst hn
  exact fun H locs LS h1 h2 h3 => lv_iand K.x K.hb d  (k H locs LS h1 h2 h3)
theorem v_ior {a b : Int32} (d : decode cc pc = .ok (.ior, 1))  (hn : pc + 1 = n) (k : V K Qf T N P I R kc ks n ls (.int (a ||| b) :: st)) : V K Qf T N P I R kc ks pc ls (.int b :: .int a :: st) := by
  subst hn
  exact fun H locs LS h1 h2 h3 => lv_ior K.x K.hb d  (k H locs LS h1 h2 h3)
theorem v_ixor {a b : Int32} (d : decode cc pc = .ok (.ixor, 1))  (hn : pc + 1 = n) (k : V K Qf T N P I R kc ks n ls (.int (a ^^^ b) :: st)) : V K Qf T N P I R kc ks pc ls (.int b :: .int a :: st) := by
  subst hn
  exact fun H locs LS h1 h2 h3 => lv_ixor K.x K.hb d  (k H locs LS h1 h2 h3)
theorem v_ishl {a b : Int32} (d : decode cc pc = .ok (.ishl, 1))  (hn : pc + 1 = n) (k : V K Qf T N P I R kc ks n ls (.int (a <<< (b &&& 31)) :: st)) : V K Qf T N P I R kc ks pc ls (.int b :: .int a :: st) := by
  subst hn
  exact fun H locs LS h1 h2 h3 => lv_ishl K.x K.hb d  (k H locs LS h1 h2 h3)
theorem v_ishr {a b : Int32} (d : decode cc pc = .ok (.ishr, 1))  (hn : pc + 1 = n) (k : V K Qf T N P I R kc ks n ls (.int (a >>> (b &&& 31)) :: st)) : V K Qf T N P I R kc ks pc ls (.int b :: .int a :: st) := by
  subst hn
  exact fun H locs LS h1 h2 h3 => lv_ishr K.x K.hb d  (k H locs LS h1 h2 h3)
theorem v_iushr {a b : Int32} (d : decode cc pc = .ok (.iushr, 1))  (hn : pc + 1 = n) (k : V K Qf T N P I R kc ks n ls (.int (a.toUInt32 >>> (b.toUInt32 &&& Int32.toUInt32 31)).toInt32 :: st)) : V K Qf T N P I R kc ks pc ls (.int b :: .int a :: st) := by
  subst hn
  exact fun H locs LS h1 h2 h3 => lv_iushr K.x K.hb d rfl (k H locs LS h1 h2 h3)
theorem v_idiv {a b : Int32} (d : decode cc pc = .ok (.idiv, 1)) (h0 : ¬ b = 0) (hn : pc + 1 = n) (k : V K Qf T N P I R kc ks n ls (.int (a / b) :: st)) : V K Qf T N P I R kc ks pc ls (.int b :: .int a :: st) := by
  subst hn
  exact fun H locs LS h1 h2 h3 => lv_idiv K.x K.hb d h0 (k H locs LS h1 h2 h3)
theorem v_irem {a b : Int32} (d : decode cc pc = .ok (.irem, 1)) (h0 : ¬ b = 0) (hn : pc + 1 = n) (k : V K Qf T N P I R kc ks n ls (.int (a - a / b * b) :: st)) : V K Qf T N P I R kc ks pc ls (.int b :: .int a :: st) := by
  subst hn
  exact fun H locs LS h1 h2 h3 => lv_irem K.x K.hb d h0 (k H locs LS h1 h2 h3)
theorem v_ladd {a b : Int64} (d : decode cc pc = .ok (.ladd, 1))  (hn : pc + 1 = n) (k : V K Qf T N P I R kc ks n ls (.long (a + b) :: st)) : V K Qf T N P I R kc ks pc ls (.long b :: .long a :: st) := by
  subst hn
  exact fun H locs LS h1 h2 h3 => lv_ladd K.x K.hb d  (k H locs LS h1 h2 h3)
theorem v_lsub {a b : Int64} (d : decode cc pc = .ok (.lsub, 1))  (hn : pc + 1 = n) (k : V K Qf T N P I R kc ks n ls (.long (a - b) :: st)) : V K Qf T N P I R kc ks pc ls (.long b :: .long a :: st) := by
  subst hn
  exact fun H locs LS h1 h2 h3 => lv_lsub K.x K.hb d  (k H locs LS h1 h2 h3)
theorem v_land {a b : Int64} (d : decode cc pc = .ok (.land, 1))  (hn : pc + 1 = n) (k : V K Qf T N P I R kc ks n ls (.long (a &&& b) :: st)) : V K Qf T N P I R kc ks pc ls (.long b :: .long a :: st) := by
  subst hn
  exact fun H locs LS h1 h2 h3 => lv_land K.x K.hb d  (k H locs LS h1 h2 h3)
theorem v_lor {a b : Int64} (d : decode cc pc = .ok (.lor, 1))  (hn : pc + 1 = n) (k : V K Qf T N P I R kc ks n ls (.long (a ||| b) :: st)) : V K Qf T N P I R kc ks pc ls (.long b :: .long a :: st) := by
  subst hn
  exact fun H locs LS h1 h2 h3 => lv_lor K.x K.hb d  (k H locs LS h1 h2 h3)
theorem v_lcmp {a b : Int64} (d : decode cc pc = .ok (.lcmp, 1))  (hn : pc + 1 = n) (k : V K Qf T N P I R kc ks n ls (.int (lg_cmp a b) :: st)) : V K Qf T N P I R kc ks pc ls (.long b :: .long a :: st) := by
  subst hn
  exact fun H locs LS h1 h2 h3 => W.lcmp K.x K.hb d  (k H locs LS h1 h2 h3)
theorem v_lshl {a : Int64} {b : Int32} (d : decode cc pc = .ok (.lshl, 1))  (hn : pc + 1 = n) (k : V K Qf T N P I R kc ks n ls (.long (a <<< (b.toInt64 &&& 63)) :: st)) : V K Qf T N P I R kc ks pc ls (.int b :: .long a :: st) := by
  subst hn
  exact fun H locs LS h1 h2 h3 => lv_lshl K.x K.hb d rfl (k H locs LS h1 h2 h3)
theorem v_lshr {a : Int64} {b : Int32} (d : decode cc pc = .ok (.lshr, 1))  (hn : pc + 1 = n) (k : V K Qf T N P I R kc ks n ls (.long (a >>> (b.toInt64 &&& 63)) :: st)) : V K Qf T N P I R kc ks pc ls (.int b :: .long a :: st) := by
  subst hn
  exact fun H locs LS h1 h2 h3 => lv_lshr K.x K.hb d rfl (k H locs LS h1 h2 h3)
theorem v_i2l {a : Int32} (d : decode cc pc = .ok (.i2l, 1))  (hn : pc + 1 = n) (k : V K Qf T N P I R kc ks n ls (.long a.toInt64 :: st)) : V K Qf T N P I R kc ks pc ls (.int a :: st) := by
  subst hn
  exact fun H locs LS h1 h2 h3 => lv_i2l K.x K.hb d rfl (k H locs LS h1 h2 h3)
theorem v_l2i {a : Int64} (d : decode cc pc = .ok (.l2i, 1))  (hn : pc + 1 = n) (k : V K Qf T N P I R kc ks n ls (.int a.toInt32 :: st)) : V K Qf T N P I R kc ks pc ls (.long a :: st) := by
  subst hn
  exact fun H locs LS h1 h2 h3 => lv_l2i K.x K.hb d rfl (k H locs LS h1 h2 h3)
theorem v_i2b {a : Int32} (d : decode cc pc = .ok (.i2b, 1))  (hn : pc + 1 = n) (k : V K Qf T N P I R kc ks n ls (.int a.toInt8.toInt32 :: st)) : V K Qf T N P I R kc ks pc ls (.int a :: st) := by
  subst hn
  exact fun H locs LS h1 h2 h3 => lv_i2b K.x K.hb d rfl (k H locs LS h1 h2 h3)
theorem v_i2c {a : Int32} (d : decode cc pc = .ok (.i2c, 1))  (hn : pc + 1 = n) (k : V K Qf T N P I R kc ks n ls (.int (a.toUInt32 % 65536).toInt32 :: st)) : V K Qf T N P I R kc ks pc ls (.int a :: st) := by
  subst hn
  exact fun H locs LS h1 h2 h3 => lv_i2c K.x K.hb d rfl (k H locs LS h1 h2 h3)
theorem v_dup {v : Value} (d : decode cc pc = .ok (.dup, 1)) (h0 : v.category = 1) (hn : pc + 1 = n) (k : V K Qf T N P I R kc ks n ls (v :: v :: st)) : V K Qf T N P I R kc ks pc ls (v :: st) := by
  subst hn
  exact fun H locs LS h1 h2 h3 => lv_dup K.x K.hb d h0 (k H locs LS h1 h2 h3)
theorem v_pop {v : Value} (d : decode cc pc = .ok (.pop, 1)) (h0 : v.category = 1) (hn : pc + 1 = n) (k : V K Qf T N P I R kc ks n ls (st)) : V K Qf T N P I R kc ks pc ls (v :: st) := by
  subst hn
  exact fun H locs LS h1 h2 h3 => lv_pop K.x K.hb d h0 (k H locs LS h1 h2 h3)
theorem v_dup2 {v u : Value} (d : decode cc pc = .ok (.dup2, 1)) (h0 : v.category = 1) (h9 : u.category = 1) (hn : pc + 1 = n) (k : V K Qf T N P I R kc ks n ls (v :: u :: v :: u :: st)) : V K Qf T N P I R kc ks pc ls (v :: u :: st) := by
  subst hn
  exact fun H locs LS h1 h2 h3 => lv_dup2_11 K.x K.hb d h0 h9 (k H locs LS h1 h2 h3)
theorem v_dup_x1 {v u : Value} (d : decode cc pc = .ok (.dup_x1, 1)) (h0 : v.category = 1) (h9 : u.category = 1) (hn : pc + 1 = n) (k : V K Qf T N P I R kc ks n ls (v :: u :: v :: st)) : V K Qf T N P I R kc ks pc ls (v :: u :: st) := by
  subst hn
  exact fun H locs LS h1 h2 h3 => lv_dup_x1 K.x K.hb d h0 h9 (k H locs LS h1 h2 h3)
theorem v_if_eq {a : Int32} {off : Int} {tgt : Nat} (d : decode cc pc = .ok (.ifCond .eq off, 3)) (ht : (pc : Int) + off = (tgt : Int)) (hn : pc + 3 = n) (kt : a = 0 → V K Qf T N P I R kc ks tgt ls st) (kf : ¬ a = 0 → V K Qf T N P I R kc ks n ls st) : V K Qf T N P I R kc ks pc ls (.int a :: st) := by
  subst hn
  exact fun H locs LS h1 h2 h3 => lv_if_eq K.x K.hb d ht (fun h => kt h H locs LS h1 h2 h3) (fun h => kf h H locs LS h1 h2 h3)
theorem v_if_ne {a : Int32} {off : Int} {tgt : Nat} (d : decode cc pc = .ok (.ifCond .ne off, 3)) (ht : (pc : Int) + off = (tgt : Int)) (hn : pc + 3 = n) (kt : ¬ a = 0 → V K Qf T N P I R kc ks tgt ls st) (kf : a = 0 → V K Qf T N P I R kc ks n ls st) : V K Qf T N P I R kc ks pc ls (.int a :: st) := by
  subst hn
  exact fun H locs LS h1 h2 h3 => lv_if_ne K.x K.hb d ht (fun h => kt h H locs LS h1 h2 h3) (fun h => kf h H locs LS h1 h2 h3)
theorem v_if_lt {a : Int32} {off : Int} {tgt : Nat} (d : decode cc pc = .ok (.ifCond .lt off, 3)) (ht : (pc : Int) + off = (tgt : Int)) (hn : pc + 3 = n) (kt : a < 0 → V K Qf T N P I R kc ks tgt ls st) (kf : ¬ a < 0 → V K Qf T N P I R kc ks n ls st) : V K Qf T N P I R kc ks pc ls (.int a :: st) := by
  subst hn
  exact fun H locs LS h1 h2 h3 => lv_if_lt K.x K.hb d ht (fun h => kt h H locs LS h1 h2 h3) (fun h => kf h H locs LS h1 h2 h3)
theorem v_if_ge {a : Int32} {off : Int} {tgt : Nat} (d : decode cc pc = .ok (.ifCond .ge off, 3)) (ht : (pc : Int) + off = (tgt : Int)) (hn : pc + 3 = n) (kt : 0 ≤ a → V K Qf T N P I R kc ks tgt ls st) (kf : ¬ 0 ≤ a → V K Qf T N P I R kc ks n ls st) : V K Qf T N P I R kc ks pc ls (.int a :: st) := by
  subst hn
  exact fun H locs LS h1 h2 h3 => lv_if_ge K.x K.hb d ht (fun h => kt h H locs LS h1 h2 h3) (fun h => kf h H locs LS h1 h2 h3)
theorem v_if_gt {a : Int32} {off : Int} {tgt : Nat} (d : decode cc pc = .ok (.ifCond .gt off, 3)) (ht : (pc : Int) + off = (tgt : Int)) (hn : pc + 3 = n) (kt : 0 < a → V K Qf T N P I R kc ks tgt ls st) (kf : ¬ 0 < a → V K Qf T N P I R kc ks n ls st) : V K Qf T N P I R kc ks pc ls (.int a :: st) := by
  subst hn
  exact fun H locs LS h1 h2 h3 => lv_if_gt K.x K.hb d ht (fun h => kt h H locs LS h1 h2 h3) (fun h => kf h H locs LS h1 h2 h3)
theorem v_if_le {a : Int32} {off : Int} {tgt : Nat} (d : decode cc pc = .ok (.ifCond .le off, 3)) (ht : (pc : Int) + off = (tgt : Int)) (hn : pc + 3 = n) (kt : a ≤ 0 → V K Qf T N P I R kc ks tgt ls st) (kf : ¬ a ≤ 0 → V K Qf T N P I R kc ks n ls st) : V K Qf T N P I R kc ks pc ls (.int a :: st) := by
  subst hn
  exact fun H locs LS h1 h2 h3 => lv_if_le K.x K.hb d ht (fun h => kt h H locs LS h1 h2 h3) (fun h => kf h H locs LS h1 h2 h3)
theorem v_icmp_eq {a b : Int32} {off : Int} {tgt : Nat} (d : decode cc pc = .ok (.if_icmp .eq off, 3)) (ht : (pc : Int) + off = (tgt : Int)) (hn : pc + 3 = n) (kt : a = b → V K Qf T N P I R kc ks tgt ls st) (kf : ¬ a = b → V K Qf T N P I R kc ks n ls st) : V K Qf T N P I R kc ks pc ls (.int b :: .int a :: st) := by
  subst hn
  exact fun H locs LS h1 h2 h3 => lv_icmp_eq K.x K.hb d ht (fun h => kt h H locs LS h1 h2 h3) (fun h => kf h H locs LS h1 h2 h3)
theorem v_icmp_ne {a b : Int32} {off : Int} {tgt : Nat} (d : decode cc pc = .ok (.if_icmp .ne off, 3)) (ht : (pc : Int) + off = (tgt : Int)) (hn : pc + 3 = n) (kt : ¬ a = b → V K Qf T N P I R kc ks tgt ls st) (kf : a = b → V K Qf T N P I R kc ks n ls st) : V K Qf T N P I R kc ks pc ls (.int b :: .int a :: st) := by
  subst hn
  exact fun H locs LS h1 h2 h3 => lv_icmp_ne K.x K.hb d ht (fun h => kt h H locs LS h1 h2 h3) (fun h => kf h H locs LS h1 h2 h3)
theorem v_icmp_lt {a b : Int32} {off : Int} {tgt : Nat} (d : decode cc pc = .ok (.if_icmp .lt off, 3)) (ht : (pc : Int) + off = (tgt : Int)) (hn : pc + 3 = n) (kt : a < b → V K Qf T N P I R kc ks tgt ls st) (kf : ¬ a < b → V K Qf T N P I R kc ks n ls st) : V K Qf T N P I R kc ks pc ls (.int b :: .int a :: st) := by
  subst hn
  exact fun H locs LS h1 h2 h3 => lv_icmp_lt K.x K.hb d ht (fun h => kt h H locs LS h1 h2 h3) (fun h => kf h H locs LS h1 h2 h3)
theorem v_icmp_ge {a b : Int32} {off : Int} {tgt : Nat} (d : decode cc pc = .ok (.if_icmp .ge off, 3)) (ht : (pc : Int) + off = (tgt : Int)) (hn : pc + 3 = n) (kt : b ≤ a → V K Qf T N P I R kc ks tgt ls st) (kf : ¬ b ≤ a → V K Qf T N P I R kc ks n ls st) : V K Qf T N P I R kc ks pc ls (.int b :: .int a :: st) := by
  subst hn
  exact fun H locs LS h1 h2 h3 => lv_icmp_ge K.x K.hb d ht (fun h => kt h H locs LS h1 h2 h3) (fun h => kf h H locs LS h1 h2 h3)
theorem v_icmp_gt {a b : Int32} {off : Int} {tgt : Nat} (d : decode cc pc = .ok (.if_icmp .gt off, 3)) (ht : (pc : Int) + off = (tgt : Int)) (hn : pc + 3 = n) (kt : b < a → V K Qf T N P I R kc ks tgt ls st) (kf : ¬ b < a → V K Qf T N P I R kc ks n ls st) : V K Qf T N P I R kc ks pc ls (.int b :: .int a :: st) := by
  subst hn
  exact fun H locs LS h1 h2 h3 => lv_icmp_gt K.x K.hb d ht (fun h => kt h H locs LS h1 h2 h3) (fun h => kf h H locs LS h1 h2 h3)
theorem v_icmp_le {a b : Int32} {off : Int} {tgt : Nat} (d : decode cc pc = .ok (.if_icmp .le off, 3)) (ht : (pc : Int) + off = (tgt : Int)) (hn : pc + 3 = n) (kt : a ≤ b → V K Qf T N P I R kc ks tgt ls st) (kf : ¬ a ≤ b → V K Qf T N P I R kc ks n ls st) : V K Qf T N P I R kc ks pc ls (.int b :: .int a :: st) := by
  subst hn
  exact fun H locs LS h1 h2 h3 => lv_icmp_le K.x K.hb d ht (fun h => kt h H locs LS h1 h2 h3) (fun h => kf h H locs LS h1 h2 h3)
theorem v_goto {off : Int} (d : decode cc pc = .ok (.goto off, 3)) (ht : (pc : Int) + off = (n : Int)) (k : V K Qf T N P I R kc ks n ls st) : V K Qf T N P I R kc ks pc ls st :=
  fun H locs LS h1 h2 h3 => lv_goto K.x K.hb d ht (k H locs LS h1 h2 h3)
theorem v_ifnonnull {a : Nat} {off : Int} (d : decode cc pc = .ok (.ifnonnull off, 3)) (ht : (pc : Int) + off = (n : Int)) (k : V K Qf T N P I R kc ks n ls st) : V K Qf T N P I R kc ks pc ls (.ref a :: st) :=
  fun H locs LS h1 h2 h3 => lv_ifnonnull K.x K.hb d ht (k H locs LS h1 h2 h3)
theorem v_ifnonnullN {off : Int} (d : decode cc pc = .ok (.ifnonnull off, 3)) (hn : pc + 3 = n) (k : V K Qf T N P I R kc ks n ls st) : V K Qf T N P I R kc ks pc ls (.null :: st) := by
  subst hn
  exact fun H locs LS h1 h2 h3 => lv_ifnonnullN K.x K.hb d (k H locs LS h1 h2 h3)
theorem v_ifnull {a : Nat} {off : Int} (d : decode cc pc = .ok (.ifnull off, 3)) (hn : pc + 3 = n) (k : V K Qf T N P I R kc ks n ls st) : V K Qf T N P I R kc ks pc ls (.ref a :: st) := by
  subst hn
  exact fun H locs LS h1 h2 h3 => lv_ifnull K.x K.hb d (k H locs LS h1 h2 h3)
theorem v_ifnullN {off : Int} (d : decode cc pc = .ok (.ifnull off, 3)) (ht : (pc : Int) + off = (n : Int)) (k : V K Qf T N P I R kc ks n ls st) : V K Qf T N P I R kc ks pc ls (.null :: st) :=
  fun H locs LS h1 h2 h3 => lv_ifnullN K.x K.hb d ht (k H locs LS h1 h2 h3)
theorem v_tableOut {dflt lo hi : Int} {offs : Array Int} {len : Nat} {a : Int32} (d : decode cc pc = .ok (.tableswitch dflt lo hi offs, len)) (h : a.toInt < lo ∨ hi < a.toInt) (ht : (pc : Int) + dflt = (n : Int)) (k : V K Qf T N P I R kc ks n ls st) : V K Qf T N P I R kc ks pc ls (.int a :: st) :=
  fun H locs LS h1 h2 h3 => lv_tableOut K.x K.hb d h ht (k H locs LS h1 h2 h3)
theorem v_tableIn {dflt lo hi off : Int} {offs : Array Int} {len : Nat} {a : Int32} (d : decode cc pc = .ok (.tableswitch dflt lo hi offs, len)) (g1 : ¬ a.toInt < lo) (g2 : ¬ hi < a.toInt) (ho : offs[(a.toInt - lo).toNat]? = some off) (ht : (pc : Int) + off = (n : Int)) (k : V K Qf T N P I R kc ks n ls st) : V K Qf T N P I R kc ks pc ls (.int a :: st) :=
  fun H locs LS h1 h2 h3 => lv_tableIn K.x K.hb d g1 g2 ho ht (k H locs LS h1 h2 h3)
/-- the listed locals as pairs -/
def zpr : Nat → List (Option Value) → List (Nat × Value)
  | _, [] => []
  | i, none :: l => zpr (i + 1) l
  | i, some v :: l => (i, v) :: zpr (i + 1) l
theorem zpr_mem : ∀ (l : List (Option Value)) (i j : Nat) (v : Value), (j, v) ∈ zpr i l ↔ ∃ k, j = i + k ∧ l[k]? = some (some v)
  | [], i, j, v => by simp [zpr]
  | none :: l, i, j, v => by
    rw [zpr, zpr_mem l (i + 1) j v]
    constructor
    · rintro ⟨k, h1, h2⟩
      exact ⟨k + 1, by omega, by simpa using h2⟩
    · rintro ⟨k, h1, h2⟩
      match k, h2 with
      | 0, h2 => simp at h2
      | k + 1, h2 => exact ⟨k, by omega, by simpa using h2⟩
  | some u :: l, i, j, v => by
    rw [zpr, List.mem_cons, zpr_mem l (i + 1) j v]
    constructor
    · rintro (h | ⟨k, h1, h2⟩)
      · cases h
        exact ⟨0, by omega, rfl⟩
      · exact ⟨k + 1, by omega, by simpa using h2⟩
    · rintro ⟨k, h1, h2⟩
      match k, h2 with
      | 0, h2 =>
        left
        simp at h2
        rw [h1, h2]
        rfl
      | k + 1, h2 => exact Or.inr ⟨k, by omega, by simpa using h2⟩
theorem zL.has {LS : Array Slot} {nL : Nat} {ls : List (Option Value)} (h : zL LS nL ls) : lv_has LS nL (zpr 0 ls) := ⟨h.1, h.2.1, fun q hq => by
  obtain ⟨k, h1, h2⟩ := (zpr_mem ls 0 q.1 q.2).mp hq
  rw [h1, Nat.zero_add]
  exact h.2.2 k q.2 h2⟩
def zpv : Option Value → Bool
  | some v => !(v.category == 2)
  | none => true
theorem zL.stored {LS : Array Slot} {nL i : Nat} {ls ls' : List (Option Value)} {v : Value} (hs : ls.set i (some v) = ls') (hp : i = 0 ∨ ∀ q, ls[i - 1]? = some q → zpv q = true)
    (h : lv_has LS nL ((i, v) :: (zpr 0 ls).filter (fun q => !(q.1 == i) && !(q.1 + 1 == i && q.2.category == 2)))) : zL LS nL ls' := by
  subst hs
  refine ⟨h.1, h.2.1, fun k w hk => ?_⟩
  by_cases hki : k = i
  · subst hki
    by_cases hl : k < ls.length
    · rw [List.getElem?_set_self hl] at hk
      cases hk
      exact h.2.2 (k, v) List.mem_cons_self
    · rw [List.getElem?_eq_none (by rw [List.length_set]; omega)] at hk
      cases hk
  · rw [List.getElem?_set_ne (Ne.symm hki)] at hk
    refine h.2.2 (k, w) (List.mem_cons_of_mem _ (List.mem_filter.mpr ⟨(zpr_mem ls 0 k w).mpr ⟨k, by omega, hk⟩, ?_⟩))
    have h1 : ¬ (k + 1 = i ∧ w.category = 2) := by
      rintro ⟨e1, e2⟩
      rcases hp with hp | hp
      · omega
      · have := hp (some w) (by rw [show i - 1 = k by omega]; exact hk)
        simp [zpv, e2] at this
    by_cases h2 : k + 1 = i
    · have h3 : ¬ w.category = 2 := fun e => h1 ⟨h2, e⟩
      simp [hki, h2, h3]
    · simp [hki, h2]
theorem v_iload_0  {tl : List (Option Value)} {a : Int32} (d : decode cc pc = .ok (.iload_n 0, 1)) (hn : pc + 1 = n) (k : V K Qf T N P I R kc ks n (some (.int a) :: tl) (.int a :: st)) : V K Qf T N P I R kc ks pc (some (.int a) :: tl) st := by
  subst hn
  exact fun H locs LS h1 h2 h3 => lv_iload_n K.x K.hb d rfl (h3.2.2 0 (.int a) rfl) (k H locs LS h1 h2 h3)
theorem v_aload_0  {tl : List (Option Value)} {a : Nat} (d : decode cc pc = .ok (.aload_n 0, 1)) (hn : pc + 1 = n) (k : V K Qf T N P I R kc ks n (some (.ref a) :: tl) (.ref a :: st)) : V K Qf T N P I R kc ks pc (some (.ref a) :: tl) st := by
  subst hn
  exact fun H locs LS h1 h2 h3 => lv_aload_n K.x K.hb d rfl (h3.2.2 0 (.ref a) rfl) (k H locs LS h1 h2 h3)
theorem v_aloadN_0  {tl : List (Option Value)} (d : decode cc pc = .ok (.aload_n 0, 1)) (hn : pc + 1 = n) (k : V K Qf T N P I R kc ks n (some .null :: tl) (.null :: st)) : V K Qf T N P I R kc ks pc (some .null :: tl) st := by
  subst hn
  exact fun H locs LS h1 h2 h3 => lv_aload_nN K.x K.hb d rfl (h3.2.2 0 .null rfl) (k H locs LS h1 h2 h3)
theorem v_istore_0  {o : Option Value} {tl : List (Option Value)} {a : Int32} (d : decode cc pc = .ok (.istore_n 0, 1)) (hl : 0 < nL) (hn : pc + 1 = n) (k : V K Qf T N P I R kc ks n (some (.int a) :: tl) st) : V K Qf T N P I R kc ks pc (o :: tl) (.int a :: st) := by
  subst hn
  exact fun H locs LS h1 h2 h3 => lv_istore_n K.x K.hb d rfl h3.has hl rfl (fun LS' h4 => k H locs LS' h1 h2 (zL.stored rfl (Or.inl rfl) h4))
theorem v_astore_0  {o : Option Value} {tl : List (Option Value)} {a : Nat} (d : decode cc pc = .ok (.astore_n 0, 1)) (hl : 0 < nL) (hn : pc + 1 = n) (k : V K Qf T N P I R kc ks n (some (.ref a) :: tl) st) : V K Qf T N P I R kc ks pc (o :: tl) (.ref a :: st) := by
  subst hn
  exact fun H locs LS h1 h2 h3 => lv_astore_n K.x K.hb d rfl h3.has hl rfl (fun LS' h4 => k H locs LS' h1 h2 (zL.stored rfl (Or.inl rfl) h4))
theorem v_astoreN_0  {o : Option Value} {tl : List (Option Value)}  (d : decode cc pc = .ok (.astore_n 0, 1)) (hl : 0 < nL) (hn : pc + 1 = n) (k : V K Qf T N P I R kc ks n (some (.null) :: tl) st) : V K Qf T N P I R kc ks pc (o :: tl) (.null :: st) := by
  subst hn
  exact fun H locs LS h1 h2 h3 => lv_astore_nN K.x K.hb d rfl h3.has hl rfl (fun LS' h4 => k H locs LS' h1 h2 (zL.stored rfl (Or.inl rfl) h4))
theorem v_iinc_0  {tl : List (Option Value)} {a b : Int32} {m : Int} (d : decode cc pc = .ok (.iinc 0 m, 3)) (hv : a + Int32.ofInt m = b) (hl : 0 < nL) (hn : pc + 3 = n) (k : V K Qf T N P I R kc ks n (some (.int b) :: tl) st) : V K Qf T N P I R kc ks pc (some (.int a) :: tl) st := by
  subst hn
  intro H locs LS h1 h2 h3
  obtain ⟨j, hj⟩ := List.getElem?_of_mem ((zpr_mem (some (.int a) :: tl) 0 0 (.int a)).mpr ⟨0, rfl, rfl⟩)
  exact lv_iinc K.x K.hb d h3.has hj hv hl rfl (fun LS' h4 => k H locs LS' h1 h2 (zL.stored rfl (Or.inl rfl) h4))
theorem v_iload_1 {x0 : Option Value} {tl : List (Option Value)} {a : Int32} (d : decode cc pc = .ok (.iload_n 1, 1)) (hn : pc + 1 = n) (k : V K Qf T N P I R kc ks n (x0 :: some (.int a) :: tl) (.int a :: st)) : V K Qf T N P I R kc ks pc (x0 :: some (.int a) :: tl) st := by
  subst hn
  exact fun H locs LS h1 h2 h3 => lv_iload_n K.x K.hb d rfl (h3.2.2 1 (.int a) rfl) (k H locs LS h1 h2 h3)
theorem v_aload_1 {x0 : Option Value} {tl : List (Option Value)} {a : Nat} (d : decode cc pc = .ok (.aload_n 1, 1)) (hn : pc + 1 = n) (k : V K Qf T N P I R kc ks n (x0 :: some (.ref a) :: tl) (.ref a :: st)) : V K Qf T N P I R kc ks pc (x0 :: some (.ref a) :: tl) st := by
  subst hn
  exact fun H locs LS h1 h2 h3 => lv_aload_n K.x K.hb d rfl (h3.2.2 1 (.ref a) rfl) (k H locs LS h1 h2 h3)
theorem v_aloadN_1 {x0 : Option Value} {tl : List (Option Value)} (d : decode cc pc = .ok (.aload_n 1, 1)) (hn : pc + 1 = n) (k : V K Qf T N P I R kc ks n (x0 :: some .null :: tl) (.null :: st)) : V K Qf T N P I R kc ks pc (x0 :: some .null :: tl) st := by
  subst hn
  exact fun H locs LS h1 h2 h3 => lv_aload_nN K.x K.hb d rfl (h3.2.2 1 .null rfl) (k H locs LS h1 h2 h3)
theorem v_istore_1 {x0 : Option Value} {o : Option Value} {tl : List (Option Value)} {a : Int32} (d : decode cc pc = .ok (.istore_n 1, 1)) (hp : zpv x0 = true) (hl : 1 < nL) (hn : pc + 1 = n) (k : V K Qf T N P I R kc ks n (x0 :: some (.int a) :: tl) st) : V K Qf T N P I R kc ks pc (x0 :: o :: tl) (.int a :: st) := by
  subst hn
  exact fun H locs LS h1 h2 h3 => lv_istore_n K.x K.hb d rfl h3.has hl rfl (fun LS' h4 => k H locs LS' h1 h2 (zL.stored rfl (Or.inr (fun q h => by cases h; exact hp)) h4))
theorem v_astore_1 {x0 : Option Value} {o : Option Value} {tl : List (Option Value)} {a : Nat} (d : decode cc pc = .ok (.astore_n 1, 1)) (hp : zpv x0 = true) (hl : 1 < nL) (hn : pc + 1 = n) (k : V K Qf T N P I R kc ks n (x0 :: some (.ref a) :: tl) st) : V K Qf T N P I R kc ks pc (x0 :: o :: tl) (.ref a :: st) := by
  subst hn
  exact fun H locs LS h1 h2 h3 => lv_astore_n K.x K.hb d rfl h3.has hl rfl (fun LS' h4 => k H locs LS' h1 h2 (zL.stored rfl (Or.inr (fun q h => by cases h; exact hp)) h4))
theorem v_astoreN_1 {x0 : Option Value} {o : Option Value} {tl : List (Option Value)}  (d : decode cc pc = .ok (.astore_n 1, 1)) (hp : zpv x0 = true) (hl : 1 < nL) (hn : pc + 1 = n) (k : V K Qf T N P I R kc ks n (x0 :: some (.null) :: tl) st) : V K Qf T N P I R kc ks pc (x0 :: o :: tl) (.null :: st) := by
  subst hn
  exact fun H locs LS h1 h2 h3 => lv_astore_nN K.x K.hb d rfl h3.has hl rfl (fun LS' h4 => k H locs LS' h1 h2 (zL.stored rfl (Or.inr (fun q h => by cases h; exact hp)) h4))
theorem v_iinc_1 {x0 : Option Value} {tl : List (Option Value)} {a b : Int32} {m : Int} (d : decode cc pc = .ok (.iinc 1 m, 3)) (hv : a + Int32.ofInt m = b) (hp : zpv x0 = true) (hl : 1 < nL) (hn : pc + 3 = n) (k : V K Qf T N P I R kc ks n (x0 :: some (.int b) :: tl) st) : V K Qf T N P I R kc ks pc (x0 :: some (.int a) :: tl) st := by
  subst hn
  intro H locs LS h1 h2 h3
  obtain ⟨j, hj⟩ := List.getElem?_of_mem ((zpr_mem (x0 :: some (.int a) :: tl) 0 1 (.int a)).mpr ⟨1, rfl, rfl⟩)
  exact lv_iinc K.x K.hb d h3.has hj hv hl rfl (fun LS' h4 => k H locs LS' h1 h2 (zL.stored rfl (Or.inr (fun q h => by cases h; exact hp)) h4))
theorem v_iload_2 {x0 x1 : Option Value} {tl : List (Option Value)} {a : Int32} (d : decode cc pc = .ok (.iload_n 2, 1)) (hn : pc + 1 = n) (k : V K Qf T N P I R kc ks n (x0 :: x1 :: some (.int a) :: tl) (.int a :: st)) : V K Qf T N P I R kc ks pc (x0 :: x1 :: some (.int a) :: tl) st := by
  subst hn
  exact fun H locs LS h1 h2 h3 => lv_iload_n K.x K.hb d rfl (h3.2.2 2 (.int a) rfl) (k H locs LS h1 h2 h3)
theorem v_aload_2 {x0 x1 : Option Value} {tl : List (Option Value)} {a : Nat} (d : decode cc pc = .ok (.aload_n 2, 1)) (hn : pc + 1 = n) (k : V K Qf T N P I R kc ks n (x0 :: x1 :: some (.ref a) :: tl) (.ref a :: st)) : V K Qf T N P I R kc ks pc (x0 :: x1 :: some (.ref a) :: tl) st := by
  subst hn
  exact fun H locs LS h1 h2 h3 => lv_aload_n K.x K.hb d rfl (h3.2.2 2 (.ref a) rfl) (k H locs LS h1 h2 h3)
theorem v_aloadN_2 {x0 x1 : Option Value} {tl : List (Option Value)} (d : decode cc pc = .ok (.aload_n 2, 1)) (hn : pc + 1 = n) (k : V K Qf T N P I R kc ks n (x0 :: x1 :: some .null :: tl) (.null :: st)) : V K Qf T N P I R kc ks pc (x0 :: x1 :: some .null :: tl) st := by
  subst hn
  exact fun H locs LS h1 h2 h3 => lv_aload_nN K.x K.hb d rfl (h3.2.2 2 .null rfl) (k H locs LS h1 h2 h3)
theorem v_istore_2 {x0 x1 : Option Value} {o : Option Value} {tl : List (Option Value)} {a : Int32} (d : decode cc pc = .ok (.istore_n 2, 1)) (hp : zpv x1 = true) (hl : 2 < nL) (hn : pc + 1 = n) (k : V K Qf T N P I R kc ks n (x0 :: x1 :: some (.int a) :: tl) st) : V K Qf T N P I R kc ks pc (x0 :: x1 :: o :: tl) (.int a :: st) := by
  subst hn
  exact fun H locs LS h1 h2 h3 => lv_istore_n K.x K.hb d rfl h3.has hl rfl (fun LS' h4 => k H locs LS' h1 h2 (zL.stored rfl (Or.inr (fun q h => by cases h; exact hp)) h4))
theorem v_astore_2 {x0 x1 : Option Value} {o : Option Value} {tl : List (Option Value)} {a : Nat} (d : decode cc pc = .ok (.astore_n 2, 1)) (hp : zpv x1 = true) (hl : 2 < nL) (hn : pc + 1 = n) (k : V K Qf T N P I R kc ks n (x0 :: x1 :: some (.ref a) :: tl) st) : V K Qf T N P I R kc ks pc (x0 :: x1 :: o :: tl) (.ref a :: st) := by
  subst hn
  exact fun H locs LS h1 h2 h3 => lv_astore_n K.x K.hb d rfl h3.has hl rfl (fun LS' h4 => k H locs LS' h1 h2 (zL.stored rfl (Or.inr (fun q h => by cases h; exact hp)) h4))
theorem v_astoreN_2 {x0 x1 : Option Value} {o : Option Value} {tl : List (Option Value)}  (d : decode cc pc = .ok (.astore_n 2, 1)) (hp : zpv x1 = true) (hl : 2 < nL) (hn : pc + 1 = n) (k : V K Qf T N P I R kc ks n (x0 :: x1 :: some (.null) :: tl) st) : V K Qf T N P I R kc ks pc (x0 :: x1 :: o :: tl) (.null :: st) := by
  subst hn
  exact fun H locs LS h1 h2 h3 => lv_astore_nN K.x K.hb d rfl h3.has hl rfl (fun LS' h4 => k H locs LS' h1 h2 (zL.stored rfl (Or.inr (fun q h => by cases h; exact hp)) h4))
theorem v_iinc_2 {x0 x1 : Option Value} {tl : List (Option Value)} {a b : Int32} {m : Int} (d : decode cc pc = .ok (.iinc 2 m, 3)) (hv : a + Int32.ofInt m = b) (hp : zpv x1 = true) (hl : 2 < nL) (hn : pc + 3 = n) (k : V K Qf T N P I R kc ks n (x0 :: x1 :: some (.int b) :: tl) st) : V K Qf T N P I R kc ks pc (x0 :: x1 :: some (.int a) :: tl) st := by
  subst hn
  intro H locs LS h1 h2 h3
  obtain ⟨j, hj⟩ := List.getElem?_of_mem ((zpr_mem (x0 :: x1 :: some (.int a) :: tl) 0 2 (.int a)).mpr ⟨2, rfl, rfl⟩)
  exact lv_iinc K.x K.hb d h3.has hj hv hl rfl (fun LS' h4 => k H locs LS' h1 h2 (zL.stored rfl (Or.inr (fun q h => by cases h; exact hp)) h4))
theorem v_iload_3 {x0 x1 x2 : Option Value} {tl : List (Option Value)} {a : Int32} (d : decode cc pc = .ok (.iload_n 3, 1)) (hn : pc + 1 = n) (k : V K Qf T N P I R kc ks n (x0 :: x1 :: x2 :: some (.int a) :: tl) (.int a :: st)) : V K Qf T N P I R kc ks pc (x0 :: x1 :: x2 :: some (.int a) :: tl) st := by
  subst hn
  exact fun H locs LS h1 h2 h3 => lv_iload_n K.x K.hb d rfl (h3.2.2 3 (.int a) rfl) (k H locs LS h1 h2 h3)
theorem v_aload_3 {x0 x1 x2 : Option Value} {tl : List (Option Value)} {a : Nat} (d : decode cc pc = .ok (.aload_n 3, 1)) (hn : pc + 1 = n) (k : V K Qf T N P I R kc ks n (x0 :: x1 :: x2 :: some (.ref a) :: tl) (.ref a :: st)) : V K Qf T N P I R kc ks pc (x0 :: x1 :: x2 :: some (.ref a) :: tl) st := by
  subst hn
  exact fun H locs LS h1 h2 h3 => lv_aload_n K.x K.hb d rfl (h3.2.2 3 (.ref a) rfl) (k H locs LS h1 h2 h3)
theorem v_aloadN_3 {x0 x1 x2 : Option Value} {tl : List (Option Value)} (d : decode cc pc = .ok (.aload_n 3, 1)) (hn : pc + 1 = n) (k : V K Qf T N P I R kc ks n (x0 :: x1 :: x2 :: some .null :: tl) (.null :: st)) : V K Qf T N P I R kc ks pc (x0 :: x1 :: x2 :: some .null :: tl) st := by
  subst hn
  exact fun H locs LS h1 h2 h3 => lv_aload_nN K.x K.hb d rfl (h3.2.2 3 .null rfl) (k H locs LS h1 h2 h3)
theorem v_istore_3 {x0 x1 x2 : Option Value} {o : Option Value} {tl : List (Option Value)} {a : Int32} (d : decode cc pc = .ok (.istore_n 3, 1)) (hp : zpv x2 = true) (hl : 3 < nL) (hn : pc + 1 = n) (k : V K Qf T N P I R kc ks n (x0 :: x1 :: x2 :: some (.int a) :: tl) st) : V K Qf T N P I R kc ks pc (x0 :: x1 :: x2 :: o :: tl) (.int a :: st) := by
  subst hn
  exact fun H locs LS h1 h2 h3 => lv_istore_n K.x K.hb d rfl h3.has hl rfl (fun LS' h4 => k H locs LS' h1 h2 (zL.stored rfl (Or.inr (fun q h => by cases h; exact hp)) h4))
theorem v_astore_3 {x0 x1 x2 : Option Value} {o : Option Value} {tl : List (Option Value)} {a : Nat} (d : decode cc pc = .ok (.astore_n 3, 1)) (hp : zpv x2 = true) (hl : 3 < nL) (hn : pc + 1 = n) (k : V K Qf T N P I R kc ks n (x0 :: x1 :: x2 :: some (.ref a) :: tl) st) : V K Qf T N P I R kc ks pc (x0 :: x1 :: x2 :: o :: tl) (.ref a :: st) := by
  subst hn
  exact fun H locs LS h1 h2 h3 => lv_astore_n K.x K.hb d rfl h3.has hl rfl (fun LS' h4 => k H locs LS' h1 h2 (zL.stored rfl (Or.inr (fun q h => by cases h; exact hp)) h4))
theorem v_astoreN_3 {x0 x1 x2 : Option Value} {o : Option Value} {tl : List (Option Value)}  (d : decode cc pc = .ok (.astore_n 3, 1)) (hp : zpv x2 = true) (hl : 3 < nL) (hn : pc + 1 = n) (k : V K Qf T N P I R kc ks n (x0 :: x1 :: x2 :: some (.null) :: tl) st) : V K Qf T N P I R kc ks pc (x0 :: x1 :: x2 :: o :: tl) (.null :: st) := by
  subst hn
  exact fun H locs LS h1 h2 h3 => lv_astore_nN K.x K.hb d rfl h3.has hl rfl (fun LS' h4 => k H locs LS' h1 h2 (zL.stored rfl (Or.inr (fun q h => by cases h; exact hp)) h4))
theorem v_iinc_3 {x0 x1 x2 : Option Value} {tl : List (Option Value)} {a b : Int32} {m : Int} (d : decode cc pc = .ok (.iinc 3 m, 3)) (hv : a + Int32.ofInt m = b) (hp : zpv x2 = true) (hl : 3 < nL) (hn : pc + 3 = n) (k : V K Qf T N P I R kc ks n (x0 :: x1 :: x2 :: some (.int b) :: tl) st) : V K Qf T N P I R kc ks pc (x0 :: x1 :: x2 :: some (.int a) :: tl) st := by
  subst hn
  intro H locs LS h1 h2 h3
  obtain ⟨j, hj⟩ := List.getElem?_of_mem ((zpr_mem (x0 :: x1 :: x2 :: some (.int a) :: tl) 0 3 (.int a)).mpr ⟨3, rfl, rfl⟩)
  exact lv_iinc K.x K.hb d h3.has hj hv hl rfl (fun LS' h4 => k H locs LS' h1 h2 (zL.stored rfl (Or.inr (fun q h => by cases h; exact hp)) h4))
theorem v_iload_4 {x0 x1 x2 x3 : Option Value} {tl : List (Option Value)} {a : Int32} (d : decode cc pc = .ok (.iload 4, 2)) (hn : pc + 2 = n) (k : V K Qf T N P I R kc ks n (x0 :: x1 :: x2 :: x3 :: some (.int a) :: tl) (.int a :: st)) : V K Qf T N P I R kc ks pc (x0 :: x1 :: x2 :: x3 :: some (.int a) :: tl) st := by
  subst hn
  exact fun H locs LS h1 h2 h3 => lv_iload K.x K.hb d (h3.2.2 4 (.int a) rfl) (k H locs LS h1 h2 h3)
theorem v_aload_4 {x0 x1 x2 x3 : Option Value} {tl : List (Option Value)} {a : Nat} (d : decode cc pc = .ok (.aload 4, 2)) (hn : pc + 2 = n) (k : V K Qf T N P I R kc ks n (x0 :: x1 :: x2 :: x3 :: some (.ref a) :: tl) (.ref a :: st)) : V K Qf T N P I R kc ks pc (x0 :: x1 :: x2 :: x3 :: some (.ref a) :: tl) st := by
  subst hn
  exact fun H locs LS h1 h2 h3 => lv_aload K.x K.hb d (h3.2.2 4 (.ref a) rfl) (k H locs LS h1 h2 h3)
theorem v_aloadN_4 {x0 x1 x2 x3 : Option Value} {tl : List (Option Value)} (d : decode cc pc = .ok (.aload 4, 2)) (hn : pc + 2 = n) (k : V K Qf T N P I R kc ks n (x0 :: x1 :: x2 :: x3 :: some .null :: tl) (.null :: st)) : V K Qf T N P I R kc ks pc (x0 :: x1 :: x2 :: x3 :: some .null :: tl) st := by
  subst hn
  exact fun H locs LS h1 h2 h3 => lv_aloadN K.x K.hb d (h3.2.2 4 .null rfl) (k H locs LS h1 h2 h3)
theorem v_istore_4 {x0 x1 x2 x3 : Option Value} {o : Option Value} {tl : List (Option Value)} {a : Int32} (d : decode cc pc = .ok (.istore 4, 2)) (hp : zpv x3 = true) (hl : 4 < nL) (hn : pc + 2 = n) (k : V K Qf T N P I R kc ks n (x0 :: x1 :: x2 :: x3 :: some (.int a) :: tl) st) : V K Qf T N P I R kc ks pc (x0 :: x1 :: x2 :: x3 :: o :: tl) (.int a :: st) := by
  subst hn
  exact fun H locs LS h1 h2 h3 => lv_istore K.x K.hb d h3.has hl rfl (fun LS' h4 => k H locs LS' h1 h2 (zL.stored rfl (Or.inr (fun q h => by cases h; exact hp)) h4))
theorem v_astore_4 {x0 x1 x2 x3 : Option Value} {o : Option Value} {tl : List (Option Value)} {a : Nat} (d : decode cc pc = .ok (.astore 4, 2)) (hp : zpv x3 = true) (hl : 4 < nL) (hn : pc + 2 = n) (k : V K Qf T N P I R kc ks n (x0 :: x1 :: x2 :: x3 :: some (.ref a) :: tl) st) : V K Qf T N P I R kc ks pc (x0 :: x1 :: x2 :: x3 :: o :: tl) (.ref a :: st) := by
  subst hn
  exact fun H locs LS h1 h2 h3 => lv_astore K.x K.hb d h3.has hl rfl (fun LS' h4 => k H locs LS' h1 h2 (zL.stored rfl (Or.inr (fun q h => by cases h; exact hp)) h4))
theorem v_astoreN_4 {x0 x1 x2 x3 : Option Value} {o : Option Value} {tl : List (Option Value)}  (d : decode cc pc = .ok (.astore 4, 2)) (hp : zpv x3 = true) (hl : 4 < nL) (hn : pc + 2 = n) (k : V K Qf T N P I R kc ks n (x0 :: x1 :: x2 :: x3 :: some (.null) :: tl) st) : V K Qf T N P I R kc ks pc (x0 :: x1 :: x2 :: x3 :: o :: tl) (.null :: st) := by
  subst hn
  exact fun H locs LS h1 h2 h3 => lv_astoreN K.x K.hb d h3.has hl rfl (fun LS' h4 => k H locs LS' h1 h2 (zL.stored rfl (Or.inr (fun q h => by cases h; exact hp)) h4))
theorem v_iinc_4 {x0 x1 x2 x3 : Option Value} {tl : List (Option Value)} {a b : Int32} {m : Int} (d : decode cc pc = .ok (.iinc 4 m, 3)) (hv : a + Int32.ofInt m = b) (hp : zpv x3 = true) (hl : 4 < nL) (hn : pc + 3 = n) (k : V K Qf T N P I R kc ks n (x0 :: x1 :: x2 :: x3 :: some (.int b) :: tl) st) : V K Qf T N P I R kc ks pc (x0 :: x1 :: x2 :: x3 :: some (.int a) :: tl) st := by
  subst hn
  intro H locs LS h1 h2 h3
  obtain ⟨j, hj⟩ := List.getElem?_of_mem ((zpr_mem (x0 :: x1 :: x2 :: x3 :: some (.int a) :: tl) 0 4 (.int a)).mpr ⟨4, rfl, rfl⟩)
  exact lv_iinc K.x K.hb d h3.has hj hv hl rfl (fun LS' h4 => k H locs LS' h1 h2 (zL.stored rfl (Or.inr (fun q h => by cases h; exact hp)) h4))
theorem v_iload_5 {x0 x1 x2 x3 x4 : Option Value} {tl : List (Option Value)} {a : Int32} (d : decode cc pc = .ok (.iload 5, 2)) (hn : pc + 2 = n) (k : V K Qf T N P I R kc ks n (x0 :: x1 :: x2 :: x3 :: x4 :: some (.int a) :: tl) (.int a :: st)) : V K Qf T N P I R kc ks pc (x0 :: x1 :: x2 :: x3 :: x4 :: some (.int a) :: tl) st := by
  subst hn
  exact fun H locs LS h1 h2 h3 => lv_iload K.x K.hb d (h3.2.2 5 (.int a) rfl) (k H locs LS h1 h2 h3)
theorem v_aload_5 {x0 x1 x2 x3 x4 : Option Value} {tl : List (Option Value)} {a : Nat} (d : decode cc pc = .ok (.aload 5, 2)) (hn : pc + 2 = n) (k : V K Qf T N P I R kc ks n (x0 :: x1 :: x2 :: x3 :: x4 :: some (.ref a) :: tl) (.ref a :: st)) : V K Qf T N P I R kc ks pc (x0 :: x1 :: x2 :: x3 :: x4 :: some (.ref a) :: tl) st := by
  subst hn
  exact fun H locs LS h1 h2 h3 => lv_aload K.x K.hb d (h3.2.2 5 (.ref a) rfl) (k H locs LS h1 h2 h3)
theorem v_aloadN_5 {x0 x1 x2 x3 x4 : Option Value} {tl : List (Option Value)} (d : decode cc pc = .ok (.aload 5, 2)) (hn : pc + 2 = n) (k : V K Qf T N P I R kc ks n (x0 :: x1 :: x2 :: x3 :: x4 :: some .null :: tl) (.null :: st)) : V K Qf T N P I R kc ks pc (x0 :: x1 :: x2 :: x3 :: x4 :: some .null :: tl) st := by
  subst hn
  exact fun H locs LS h1 h2 h3 => lv_aloadN K.x K.hb d (h3.2.2 5 .null rfl) (k H locs LS h1 h2 h3)
theorem v_istore_5 {x0 x1 x2 x3 x4 : Option Value} {o : Option Value} {tl : List (Option Value)} {a : Int32} (d : decode cc pc = .ok (.istore 5, 2)) (hp : zpv x4 = true) (hl : 5 < nL) (hn : pc + 2 = n) (k : V K Qf T N P I R kc ks n (x0 :: x1 :: x2 :: x3 :: x4 :: some (.int a) :: tl) st) : V K Qf T N P I R kc ks pc (x0 :: x1 :: x2 :: x3 :: x4 :: o :: tl) (.int a :: st) := by
  subst hn
  exact fun H locs LS h1 h2 h3 => lv_istore K.x K.hb d h3.has hl rfl (fun LS' h4 => k H locs LS' h1 h2 (zL.stored rfl (Or.inr (fun q h => by cases h; exact hp)) h4))
theorem v_astore_5 {x0 x1 x2 x3 x4 : Option Value} {o : Option Value} {tl : List (Option Value)} {a : Nat} (d : decode cc pc = .ok (.astore 5, 2)) (hp : zpv x4 = true) (hl : 5 < nL) (hn : pc + 2 = n) (k : V K Qf T N P I R kc ks n (x0 :: x1 :: x2 :: x3 :: x4 :: some (.ref a) :: tl) st) : V K Qf T N P I R kc ks pc (x0 :: x1 :: x2 :: x3 :: x4 :: o :: tl) (.ref a :: st) := by
  subst hn
  exact fun H locs LS h1 h2 h3 => lv_astore K.x K.hb d h3.has hl rfl (fun LS' h4 => k H locs LS' h1 h2 (zL.stored rfl (Or.inr (fun q h => by cases h; exact hp)) h4))
theorem v_astoreN_5 {x0 x1 x2 x3 x4 : Option Value} {o : Option Value} {tl : List (Option Value)}  (d : decode cc pc = .ok (.astore 5, 2)) (hp : zpv x4 = true) (hl : 5 < nL) (hn : pc + 2 = n) (k : V K Qf T N P I R kc ks n (x0 :: x1 :: x2 :: x3 :: x4 :: some (.null) :: tl) st) : V K Qf T N P I R kc ks pc (x0 :: x1 :: x2 :: x3 :: x4 :: o :: tl) (.null :: st) := by
  subst hn
  exact fun H locs LS h1 h2 h3 => lv_astoreN K.x K.hb d h3.has hl rfl (fun LS' h4 => k H locs LS' h1 h2 (zL.stored rfl (Or.inr (fun q h => by cases h; exact hp)) h4))
theorem v_iinc_5 {x0 x1 x2 x3 x4 : Option Value} {tl : List (Option Value)} {a b : Int32} {m : Int} (d : decode cc pc = .ok (.iinc 5 m, 3)) (hv : a + Int32.ofInt m = b) (hp : zpv x4 = true) (hl : 5 < nL) (hn : pc + 3 = n) (k : V K Qf T N P I R kc ks n (x0 :: x1 :: x2 :: x3 :: x4 :: some (.int b) :: tl) st) : V K Qf T N P I R kc ks pc (x0 :: x1 :: x2 :: x3 :: x4 :: some (.int a) :: tl) st := by
  subst hn
  intro H locs LS h1 h2 h3
  obtain ⟨j, hj⟩ := List.getElem?_of_mem ((zpr_mem (x0 :: x1 :: x2 :: x3 :: x4 :: some (.int a) :: tl) 0 5 (.int a)).mpr ⟨5, rfl, rfl⟩)
  exact lv_iinc K.x K.hb d h3.has hj hv hl rfl (fun LS' h4 => k H locs LS' h1 h2 (zL.stored rfl (Or.inr (fun q h => by cases h; exact hp)) h4))
theorem v_iload_6 {x0 x1 x2 x3 x4 x5 : Option Value} {tl : List (Option Value)} {a : Int32} (d : decode cc pc = .ok (.iload 6, 2)) (hn : pc + 2 = n) (k : V K Qf T N P I R kc ks n (x0 :: x1 :: x2 :: x3 :: x4 :: x5 :: some (.int a) :: tl) (.int a :: st)) : V K Qf T N P I R kc ks pc (x0 :: x1 :: x2 :: x3 :: x4 :: x5 :: some (.int a) :: tl) st := by
  subst hn
  exact fun H locs LS h1 h2 h3 => lv_iload K.x K.hb d (h3.2.2 6 (.int a) rfl) (k H locs LS h1 h2 h3)
theorem v_aload_6 {x0 x1 x2 x3 x4 x5 : Option Value} {tl : List (Option Value)} {a : Nat} (d : decode cc pc = .ok (.aload 6, 2)) (hn : pc + 2 = n) (k : V K Qf T N P I R kc ks n (x0 :: x1 :: x2 :: x3 :: x4 :: x5 :: some (.ref a) :: tl) (.ref a :: st)) : V K Qf T N P I R kc ks pc (x0 :: x1 :: x2 :: x3 :: x4 :: x5 :: some (.ref a) :: tl) st := by
  subst hn
  exact fun H locs LS h1 h2 h3 => lv_aload K.x K.hb d (h3.2.2 6 (.ref a) rfl) (k H locs LS h1 h2 h3)
theorem v_aloadN_6 {x0 x1 x2 x3 x4 x5 : Option Value} {tl : List (Option Value)} (d : decode cc pc = .ok (.aload 6, 2)) (hn : pc + 2 = n) (k : V K Qf T N P I R kc ks n (x0 :: x1 :: x2 :: x3 :: x4 :: x5 :: some .null :: tl) (.null :: st)) : V K Qf T N P I R kc ks pc (x0 :: x1 :: x2 :: x3 :: x4 :: x5 :: some .null :: tl) st := by
  subst hn
  exact fun H locs LS h1 h2 h3 => lv_aloadN K.x K.hb d (h3.2.2 6 .null rfl) (k H locs LS h1 h2 h3)
theorem v_istore_6 {x0 x1 x2 x3 x4 x5 : Option Value} {o : Option Value} {tl : List (Option Value)} {a : Int32} (d : decode cc pc = .ok (.istore 6, 2)) (hp : zpv x5 = true) (hl : 6 < nL) (hn : pc + 2 = n) (k : V K Qf T N P I R kc ks n (x0 :: x1 :: x2 :: x3 :: x4 :: x5 :: some (.int a) :: tl) st) : V K Qf T N P I R kc ks pc (x0 :: x1 :: x2 :: x3 :: x4 :: x5 :: o :: tl) (.int a :: st) := by
  subst hn
  exact fun H locs LS h1 h2 h3 => lv_istore K.x K.hb d h3.has hl rfl (fun LS' h4 => k H locs LS' h1 h2 (zL.stored rfl (Or.inr (fun q h => by cases h; exact hp)) h4))
theorem v_astore_6 {x0 x1 x2 x3 x4 x5 : Option Value} {o : Option Value} {tl : List (Option Value)} {a : Nat} (d : decode cc pc = .ok (.astore 6, 2)) (hp : zpv x5 = true) (hl : 6 < nL) (hn : pc + 2 = n) (k : V K Qf T N P I R kc ks n (x0 :: x1 :: x2 :: x3 :: x4 :: x5 :: some (.ref a) :: tl) st) : V K Qf T N P I R kc ks pc (x0 :: x1 :: x2 :: x3 :: x4 :: x5 :: o :: tl) (.ref a :: st) := by
  subst hn
  exact fun H locs LS h1 h2 h3 => lv_astore K.x K.hb d h3.has hl rfl (fun LS' h4 => k H locs LS' h1 h2 (zL.stored rfl (Or.inr (fun q h => by cases h; exact hp)) h4))
theorem v_astoreN_6 {x0 x1 x2 x3 x4 x5 : Option Value} {o : Option Value} {tl : List (Option Value)}  (d : decode cc pc = .ok (.astore 6, 2)) (hp : zpv x5 = true) (hl : 6 < nL) (hn : pc + 2 = n) (k : V K Qf T N P I R kc ks n (x0 :: x1 :: x2 :: x3 :: x4 :: x5 :: some (.null) :: tl) st) : V K Qf T N P I R kc ks pc (x0 :: x1 :: x2 :: x3 :: x4 :: x5 :: o :: tl) (.null :: st) := by
  subst hn
  exact fun H locs LS h1 h2 h3 => lv_astoreN K.x K.hb d h3.has hl rfl (fun LS' h4 => k H locs LS' h1 h2 (zL.stored rfl (Or.inr (fun q h => by cases h; exact hp)) h4))
theorem v_iinc_6 {x0 x1 x2 x3 x4 x5 : Option Value} {tl : List (Option Value)} {a b : Int32} {m : Int} (d : decode cc pc = .ok (.iinc 6 m, 3)) (hv : a + Int32.ofInt m = b) (hp : zpv x5 = true) (hl : 6 < nL) (hn : pc + 3 = n) (k : V K Qf T N P I R kc ks n (x0 :: x1 :: x2 :: x3 :: x4 :: x5 :: some (.int b) :: tl) st) : V K Qf T N P I R kc ks pc (x0 :: x1 :: x2 :: x3 :: x4 :: x5 :: some (.int a) :: tl) st := by
  subst hn
  intro H locs LS h1 h2 h3
  obtain ⟨j, hj⟩ := List.getElem?_of_mem ((zpr_mem (x0 :: x1 :: x2 :: x3 :: x4 :: x5 :: some (.int a) :: tl) 0 6 (.int a)).mpr ⟨6, rfl, rfl⟩)
  exact lv_iinc K.x K.hb d h3.has hj hv hl rfl (fun LS' h4 => k H locs LS' h1 h2 (zL.stored rfl (Or.inr (fun q h => by cases h; exact hp)) h4))
theorem v_iload_7 {x0 x1 x2 x3 x4 x5 x6 : Option Value} {tl : List (Option Value)} {a : Int32} (d : decode cc pc = .ok (.iload 7, 2)) (hn : pc + 2 = n) (k : V K Qf T N P I R kc ks n (x0 :: x1 :: x2 :: x3 :: x4 :: x5 :: x6 :: some (.int a) :: tl) (.int a :: st)) : V K Qf T N P I R kc ks pc (x0 :: x1 :: x2 :: x3 :: x4 :: x5 :: x6 :: some (.int a) :: tl) st := by
  subst hn
  exact fun H locs LS h1 h2 h3 => lv_iload K.x K.hb d (h3.2.2 7 (.int a) rfl) (k H locs LS h1 h2 h3)
theorem v_aload_7 {x0 x1 x2 x3 x4 x5 x6 : Option Value} {tl : List (Option Value)} {a : Nat} (d : decode cc pc = .ok (.aload 7, 2)) (hn : pc + 2 = n) (k : V K Qf T N P I R kc ks n (x0 :: x1 :: x2 :: x3 :: x4 :: x5 :: x6 :: some (.ref a) :: tl) (.ref a :: st)) : V K Qf T N P I R kc ks pc (x0 :: x1 :: x2 :: x3 :: x4 :: x5 :: x6 :: some (.ref a) :: tl) st := by
  subst hn
  exact fun H locs LS h1 h2 h3 => lv_aload K.x K.hb d (h3.2.2 7 (.ref a) rfl) (k H locs LS h1 h2 h3)
theorem v_aloadN_7 {x0 x1 x2 x3 x4 x5 x6 : Option Value} {tl : List (Option Value)} (d : decode cc pc = .ok (.aload 7, 2)) (hn : pc + 2 = n) (k : V K Qf T N P I R kc ks n (x0 :: x1 :: x2 :: x3 :: x4 :: x5 :: x6 :: some .null :: tl) (.null :: st)) : V K Qf T N P I R kc ks pc (x0 :: x1 :: x2 :: x3 :: x4 :: x5 :: x6 :: some .null :: tl) st := by
  subst hn
  exact fun H locs LS h1 h2 h3 => lv_aloadN K.x K.hb d (h3.2.2 7 .null rfl) (k H locs LS h1 h2 h3)
theorem v_istore_7 {x0 x1 x2 x3 x4 x5 x6 : Option Value} {o : Option Value} {tl : List (Option Value)} {a : Int32} (d : decode cc pc = .ok (.istore 7, 2)) (hp : zpv x6 = true) (hl : 7 < nL) (hn : pc + 2 = n) (k : V K Qf T N P I R kc ks n (x0 :: x1 :: x2 :: x3 :: x4 :: x5 :: x6 :: some (.int a) :: tl) st) : V K Qf T N P I R kc ks pc (x0 :: x1 :: x2 :: x3 :: x4 :: x5 :: x6 :: o :: tl) (.int a :: st) := by
  subst hn
  exact fun H locs LS h1 h2 h3 => lv_istore K.x K.hb d h3.has hl rfl (fun LS' h4 => k H locs LS' h1 h2 (zL.stored rfl (Or.inr (fun q h => by cases h; exact hp)) h4))
theorem v_astore_7 {x0 x1 x2 x3 x4 x5 x6 : Option Value} {o : Option Value} {tl : List (Option Value)} {a : Nat} (d : decode cc pc = .ok (.astore 7, 2)) (hp : zpv x6 = true) (hl : 7 < nL) (hn : pc + 2 = n) (k : V K Qf T N P I R kc ks n (x0 :: x1 :: x2 :: x3 :: x4 :: x5 :: x6 :: some (.ref a) :: tl) st) : V K Qf T N P I R kc ks pc (x0 :: x1 :: x2 :: x3 :: x4 :: x5 :: x6 :: o :: tl) (.ref a :: st) := by
  subst hn
  exact fun H locs LS h1 h2 h3 => lv_astore K.x K.hb d h3.has hl rfl (fun LS' h4 => k H locs LS' h1 h2 (zL.stored rfl (Or.inr (fun q h => by cases h; exact hp)) h4))
theorem v_astoreN_7 {x0 x1 x2 x3 x4 x5 x6 : Option Value} {o : Option Value} {tl : List (Option Value)}  (d : decode cc pc = .ok (.astore 7, 2)) (hp : zpv x6 = true) (hl : 7 < nL) (hn : pc + 2 = n) (k : V K Qf T N P I R kc ks n (x0 :: x1 :: x2 :: x3 :: x4 :: x5 :: x6 :: some (.null) :: tl) st) : V K Qf T N P I R kc ks pc (x0 :: x1 :: x2 :: x3 :: x4 :: x5 :: x6 :: o :: tl) (.null :: st) := by
  subst hn
  exact fun H locs LS h1 h2 h3 => lv_astoreN K.x K.hb d h3.has hl rfl (fun LS' h4 => k H locs LS' h1 h2 (zL.stored rfl (Or.inr (fun q h => by cases h; exact hp)) h4))
theorem v_iinc_7 {x0 x1 x2 x3 x4 x5 x6 : Option Value} {tl : List (Option Value)} {a b : Int32} {m : Int} (d : decode cc pc = .ok (.iinc 7 m, 3)) (hv : a + Int32.ofInt m = b) (hp : zpv x6 = true) (hl : 7 < nL) (hn : pc + 3 = n) (k : V K Qf T N P I R kc ks n (x0 :: x1 :: x2 :: x3 :: x4 :: x5 :: x6 :: some (.int b) :: tl) st) : V K Qf T N P I R kc ks pc (x0 :: x1 :: x2 :: x3 :: x4 :: x5 :: x6 :: some (.int a) :: tl) st := by
  subst hn
  intro H locs LS h1 h2 h3
  obtain ⟨j, hj⟩ := List.getElem?_of_mem ((zpr_mem (x0 :: x1 :: x2 :: x3 :: x4 :: x5 :: x6 :: some (.int a) :: tl) 0 7 (.int a)).mpr ⟨7, rfl, rfl⟩)
  exact lv_iinc K.x K.hb d h3.has hj hv hl rfl (fun LS' h4 => k H locs LS' h1 h2 (zL.stored rfl (Or.inr (fun q h => by cases h; exact hp)) h4))
theorem v_iload_8 {x0 x1 x2 x3 x4 x5 x6 x7 : Option Value} {tl : List (Option Value)} {a : Int32} (d : decode cc pc = .ok (.iload 8, 2)) (hn : pc + 2 = n) (k : V K Qf T N P I R kc ks n (x0 :: x1 :: x2 :: x3 :: x4 :: x5 :: x6 :: x7 :: some (.int a) :: tl) (.int a :: st)) : V K Qf T N P I R kc ks pc (x0 :: x1 :: x2 :: x3 :: x4 :: x5 :: x6 :: x7 :: some (.int a) :: tl) st := by
  subst hn
  exact fun H locs LS h1 h2 h3 => lv_iload K.x K.hb d (h3.2.2 8 (.int a) rfl) (k H locs LS h1 h2 h3)
theorem v_aload_8 {x0 x1 x2 x3 x4 x5 x6 x7 : Option Value} {tl : List (Option Value)} {a : Nat} (d : decode cc pc = .ok (.aload 8, 2)) (hn : pc + 2 = n) (k : V K Qf T N P I R kc ks n (x0 :: x1 :: x2 :: x3 :: x4 :: x5 :: x6 :: x7 :: some (.ref a) :: tl) (.ref a :: st)) : V K Qf T N P I R kc ks pc (x0 :: x1 :: x2 :: x3 :: x4 :: x5 :: x6 :: x7 :: some (.ref a) :: tl) st := by
  subst hn
  exact fun H locs LS h1 h2 h3 => lv_aload K.x K.hb d (h3.2.2 8 (.ref a) rfl) (k H locs LS h1 h2 h3)
theorem v_aloadN_8 {x0 x1 x2 x3 x4 x5 x6 x7 : Option Value} {tl : List (Option Value)} (d : decode cc pc = .ok (.aload 8, 2)) (hn : pc + 2 = n) (k : V K Qf T N P I R kc ks n (x0 :: x1 :: x2 :: x3 :: x4 :: x5 :: x6 :: x7 :: some .null :: tl) (.null :: st)) : V K Qf T N P I R kc ks pc (x0 :: x1 :: x2 :: x3 :: x4 :: x5 :: x6 :: x7 :: some .null :: tl) st := by
  subst hn
  exact fun H locs LS h1 h2 h3 => lv_aloadN K.x K.hb d (h3.2.2 8 .null rfl) (k H locs LS h1 h2 h3)
theorem v_istore_8 {x0 x1 x2 x3 x4 x5 x6 x7 : Option Value} {o : Option Value} {tl : List (Option Value)} {a : Int32} (d : decode cc pc = .ok (.istore 8, 2)) (hp : zpv x7 = true) (hl : 8 < nL) (hn : pc + 2 = n) (k : V K Qf T N P I R kc ks n (x0 :: x1 :: x2 :: x3 :: x4 :: x5 :: x6 :: x7 :: some (.int a) :: tl) st) : V K Qf T N P I R kc ks pc (x0 :: x1 :: x2 :: x3 :: x4 :: x5 :: x6 :: x7 :: o :: tl) (.int a :: st) := by
  subst hn
  exact fun H locs LS h1 h2 h3 => lv_istore K.x K.hb d h3.has hl rfl (fun LS' h4 => k H locs LS' h1 h2 (zL.stored rfl (Or.inr (fun q h => by cases h; exact hp)) h4))
theorem v_astore_8 {x0 x1 x2 x3 x4 x5 x6 x7 : Option Value} {o : Option Value} {tl : List (Option Value)} {a : Nat} (d : decode cc pc = .ok (.astore 8, 2)) (hp : zpv x7 = true) (hl : 8 < nL) (hn : pc + 2 = n) (k : V K Qf T N P I R kc ks n (x0 :: x1 :: x2 :: x3 :: x4 :: x5 :: x6 :: x7 :: some (.ref a) :: tl) st) : V K Qf T N P I R kc ks pc (x0 :: x1 :: x2 :: x3 :: x4 :: x5 :: x6 :: x7 :: o :: tl) (.ref a :: st) := by
  subst hn
  exact fun H locs LS h1 h2 h3 => lv_astore K.x K.hb d h3.has hl rfl (fun LS' h4 => k H locs LS' h1 h2 (zL.stored rfl (Or.inr (fun q h => by cases h; exact hp)) h4))
theorem v_astoreN_8 {x0 x1 x2 x3 x4 x5 x6 x7 : Option Value} {o : Option Value} {tl : List (Option Value)}  (d : decode cc pc = .ok (.astore 8, 2)) (hp : zpv x7 = true) (hl : 8 < nL) (hn : pc + 2 = n) (k : V K Qf T N P I R kc ks n (x0 :: x1 :: x2 :: x3 :: x4 :: x5 :: x6 :: x7 :: some (.null) :: tl) st) : V K Qf T N P I R kc ks pc (x0 :: x1 :: x2 :: x3 :: x4 :: x5 :: x6 :: x7 :: o :: tl) (.null :: st) := by
  subst hn
  exact fun H locs LS h1 h2 h3 => lv_astoreN K.x K.hb d h3.has hl rfl (fun LS' h4 => k H locs LS' h1 h2 (zL.stored rfl (Or.inr (fun q h => by cases h; exact hp)) h4))
theorem v_iinc_8 {x0 x1 x2 x3 x4 x5 x6 x7 : Option Value} {tl : List (Option Value)} {a b : Int32} {m : Int} (d : decode cc pc = .ok (.iinc 8 m, 3)) (hv : a + Int32.ofInt m = b) (hp : zpv x7 = true) (hl : 8 < nL) (hn : pc + 3 = n) (k : V K Qf T N P I R kc ks n (x0 :: x1 :: x2 :: x3 :: x4 :: x5 :: x6 :: x7 :: some (.int b) :: tl) st) : V K Qf T N P I R kc ks pc (x0 :: x1 :: x2 :: x3 :: x4 :: x5 :: x6 :: x7 :: some (.int a) :: tl) st := by
  subst hn
  intro H locs LS h1 h2 h3
  obtain ⟨j, hj⟩ := List.getElem?_of_mem ((zpr_mem (x0 :: x1 :: x2 :: x3 :: x4 :: x5 :: x6 :: x7 :: some (.int a) :: tl) 0 8 (.int a)).mpr ⟨8, rfl, rfl⟩)
  exact lv_iinc K.x K.hb d h3.has hj hv hl rfl (fun LS' h4 => k H locs LS' h1 h2 (zL.stored rfl (Or.inr (fun q h => by cases h; exact hp)) h4))
theorem v_iload_9 {x0 x1 x2 x3 x4 x5 x6 x7 x8 : Option Value} {tl : List (Option Value)} {a : Int32} (d : decode cc pc = .ok (.iload 9, 2)) (hn : pc + 2 = n) (k : V K Qf T N P I R kc ks n (x0 :: x1 :: x2 :: x3 :: x4 :: x5 :: x6 :: x7 :: x8 :: some (.int a) :: tl) (.int a :: st)) : V K Qf T N P I R kc ks pc (x0 :: x1 :: x2 :: x3 :: x4 :: x5 :: x6 :: x7 :: x8 :: some (.int a) :: tl) st := by
  subst hn
  exact fun H locs LS h1 h2 h3 => lv_iload K.x K.hb d (h3.2.2 9 (.int a) rfl) (k H locs LS h1 h2 h3)
theorem v_aload_9 {x0 x1 x2 x3 x4 x5 x6 x7 x8 : Option Value} {tl : List (Option Value)} {a : Nat} (d : decode cc pc = .ok (.aload 9, 2)) (hn : pc + 2 = n) (k : V K Qf T N P I R kc ks n (x0 :: x1 :: x2 :: x3 :: x4 :: x5 :: x6 :: x7 :: x8 :: some (.ref a) :: tl) (.ref a :: st)) : V K Qf T N P I R kc ks pc (x0 :: x1 :: x2 :: x3 :: x4 :: x5 :: x6 :: x7 :: x8 :: some (.ref a) :: tl) st := by
  subst hn
  exact fun H locs LS h1 h2 h3 => lv_aload K.x K.hb d (h3.2.2 9 (.ref a) rfl) (k H locs LS h1 h2 h3)
theorem v_aloadN_9 {x0 x1 x2 x3 x4 x5 x6 x7 x8 : Option Value} {tl : List (Option Value)} (d : decode cc pc = .ok (.aload 9, 2)) (hn : pc + 2 = n) (k : V K Qf T N P I R kc ks n (x0 :: x1 :: x2 :: x3 :: x4 :: x5 :: x6 :: x7 :: x8 :: some .null :: tl) (.null :: st)) : V K Qf T N P I R kc ks pc (x0 :: x1 :: x2 :: x3 :: x4 :: x5 :: x6 :: x7 :: x8 :: some .null :: tl) st := by
  subst hn
  exact fun H locs LS h1 h2 h3 => lv_aloadN K.x K.hb d (h3.2.2 9 .null rfl) (k H locs LS h1 h2 h3)
theorem v_istore_9 {x0 x1 x2 x3 x4 x5 x6 x7 x8 : Option Value} {o : Option Value} {tl : List (Option Value)} {a : Int32} (d : decode cc pc = .ok (.istore 9, 2)) (hp : zpv x8 = true) (hl : 9 < nL) (hn : pc + 2 = n) (k : V K Qf T N P I R kc ks n (x0 :: x1 :: x2 :: x3 :: x4 :: x5 :: x6 :: x7 :: x8 :: some (.int a) :: tl) st) : V K Qf T N P I R kc ks pc (x0 :: x1 :: x2 :: x3 :: x4 :: x5 :: x6 :: x7 :: x8 :: o :: tl) (.int a :: st) := by
  subst hn
  exact fun H locs LS h1 h2 h3 => lv_istore K.x K.hb d h3.has hl rfl (fun LS' h4 => k H locs LS' h1 h2 (zL.stored rfl (Or.inr (fun q h => by cases h; exact hp)) h4))
theorem v_astore_9 {x0 x1 x2 x3 x4 x5 x6 x7 x8 : Option Value} {o : Option Value} {tl : List (Option Value)} {a : Nat} (d : decode cc pc = .ok (.astore 9, 2)) (hp : zpv x8 = true) (hl : 9 < nL) (hn : pc + 2 = n) (k : V K Qf T N P I R kc ks n (x0 :: x1 :: x2 :: x3 :: x4 :: x5 :: x6 :: x7 :: x8 :: some (.ref a) :: tl) st) : V K Qf T N P I R kc ks pc (x0 :: x1 :: x2 :: x3 :: x4 :: x5 :: x6 :: x7 :: x8 :: o :: tl) (.ref a :: st) := by
  subst hn
  exact fun H locs LS h1 h2 h3 => lv_astore K.x K.hb d h3.has hl rfl (fun LS' h4 => k H locs LS' h1 h2 (zL.stored rfl (Or.inr (fun q h => by cases h; exact hp)) h4))
theorem v_astoreN_9 {x0 x1 x2 x3 x4 x5 x6 x7 x8 : Option Value} {o : Option Value} {tl : List (Option Value)}  (d : decode cc pc = .ok (.astore 9, 2)) (hp : zpv x8 = true) (hl : 9 < nL) (hn : pc + 2 = n) (k : V K Qf T N P I R kc ks n (x0 :: x1 :: x2 :: x3 :: x4 :: x5 :: x6 :: x7 :: x8 :: some (.null) :: tl) st) : V K Qf T N P I R kc ks pc (x0 :: x1 :: x2 :: x3 :: x4 :: x5 :: x6 :: x7 :: x8 :: o :: tl) (.null :: st) := by
  subst hn
  exact fun H locs LS h1 h2 h3 => lv_astoreN K.x K.hb d h3.has hl rfl (fun LS' h4 => k H locs LS' h1 h2 (zL.stored rfl (Or.inr (fun q h => by cases h; exact hp)) h4))
theorem v_iinc_9 {x0 x1 x2 x3 x4 x5 x6 x7 x8 : Option Value} {tl : List (Option Value)} {a b : Int32} {m : Int} (d : decode cc pc = .ok (.iinc 9 m, 3)) (hv : a + Int32.ofInt m = b) (hp : zpv x8 = true) (hl : 9 < nL) (hn : pc + 3 = n) (k : V K Qf T N P I R kc ks n (x0 :: x1 :: x2 :: x3 :: x4 :: x5 :: x6 :: x7 :: x8 :: some (.int b) :: tl) st) : V K Qf T N P I R kc ks pc (x0 :: x1 :: x2 :: x3 :: x4 :: x5 :: x6 :: x7 :: x8 :: some (.int a) :: tl) st := by
  subst hn
  intro H locs LS h1 h2 h3
  obtain ⟨j, hj⟩ := List.getElem?_of_mem ((zpr_mem (x0 :: x1 :: x2 :: x3 :: x4 :: x5 :: x6 :: x7 :: x8 :: some (.int a) :: tl) 0 9 (.int a)).mpr ⟨9, rfl, rfl⟩)
  exact lv_iinc K.x K.hb d h3.has hj hv hl rfl (fun LS' h4 => k H locs LS' h1 h2 (zL.stored rfl (Or.inr (fun q h => by cases h; exact hp)) h4))
theorem v_iload_10 {x0 x1 x2 x3 x4 x5 x6 x7 x8 x9 : Option Value} {tl : List (Option Value)} {a : Int32} (d : decode cc pc = .ok (.iload 10, 2)) (hn : pc + 2 = n) (k : V K Qf T N P I R kc ks n (x0 :: x1 :: x2 :: x3 :: x4 :: x5 :: x6 :: x7 :: x8 :: x9 :: some (.int a) :: tl) (.int a :: st)) : V K Qf T N P I R kc ks pc (x0 :: x1 :: x2 :: x3 :: x4 :: x5 :: x6 :: x7 :: x8 :: x9 :: some (.int a) :: tl) st := by
  subst hn
  exact fun H locs LS h1 h2 h3 => lv_iload K.x K.hb d (h3.2.2 10 (.int a) rfl) (k H locs LS h1 h2 h3)
theorem v_aload_10 {x0 x1 x2 x3 x4 x5 x6 x7 x8 x9 : Option Value} {tl : List (Option Value)} {a : Nat} (d : decode cc pc = .ok (.aload 10, 2)) (hn : pc + 2 = n) (k : V K Qf T N P I R kc ks n (x0 :: x1 :: x2 :: x3 :: x4 :: x5 :: x6 :: x7 :: x8 :: x9 :: some (.ref a) :: tl) (.ref a :: st)) : V K Qf T N P I R kc ks pc (x0 :: x1 :: x2 :: x3 :: x4 :: x5 :: x6 :: x7 :: x8 :: x9 :: some (.ref a) :: tl) st := by
  subst hn
  exact fun H locs LS h1 h2 h3 => lv_aload K.x K.hb d (h3.2.2 10 (.ref a) rfl) (k H locs LS h1 h2 h3)
theorem v_aloadN_10 {x0 x1 x2 x3 x4 x5 x6 x7 x8 x9 : Option Value} {tl : List (Option Value)} (d : decode cc pc = .ok (.aload 10, 2)) (hn : pc + 2 = n) (k : V K Qf T N P I R kc ks n (x0 :: x1 :: x2 :: x3 :: x4 :: x5 :: x6 :: x7 :: x8 :: x9 :: some .null :: tl) (.null :: st)) : V K Qf T N P I R kc ks pc (x0 :: x1 :: x2 :: x3 :: x4 :: x5 :: x6 :: x7 :: x8 :: x9 :: some .null :: tl) st := by
  subst hn
  exact fun H locs LS h1 h2 h3 => lv_aloadN K.x K.hb d (h3.2.2 10 .null rfl) (k H locs LS h1 h2 h3)
theorem v_istore_10 {x0 x1 x2 x3 x4 x5 x6 x7 x8 x9 : Option Value} {o : Option Value} {tl : List (Option Value)} {a : Int32} (d : decode cc pc = .ok (.istore 10, 2)) (hp : zpv x9 = true) (hl : 10 < nL) (hn : pc + 2 = n) (k : V K Qf T N P I R kc ks n (x0 :: x1 :: x2 :: x3 :: x4 :: x5 :: x6 :: x7 :: x8 :: x9 :: some (.int a) :: tl) st) : V K Qf T N P I R kc ks pc (x0 :: x1 :: x2 :: x3 :: x4 :: x5 :: x6 :: x7 :: x8 :: x9 :: o :: tl) (.int a :: st) := by
  subst hn
  exact fun H locs LS h1 h2 h3 => lv_istore K.x K.hb d h3.has hl rfl (fun LS' h4 => k H locs LS' h1 h2 (zL.stored rfl (Or.inr (fun q h => by cases h; exact hp)) h4))
theorem v_astore_10 {x0 x1 x2 x3 x4 x5 x6 x7 x8 x9 : Option Value} {o : Option Value} {tl : List (Option Value)} {a : Nat} (d : decode cc pc = .ok (.astore 10, 2)) (hp : zpv x9 = true) (hl : 10 < nL) (hn : pc + 2 = n) (k : V K Qf T N P I R kc ks n (x0 :: x1 :: x2 :: x3 :: x4 :: x5 :: x6 :: x7 :: x8 :: x9 :: some (.ref a) :: tl) st) : V K Qf T N P I R kc ks pc (x0 :: x1 :: x2 :: x3 :: x4 :: x5 :: x6 :: x7 :: x8 :: x9 :: o :: tl) (.ref a :: st) := by
  subst hn
  exact fun H locs LS h1 h2 h3 => lv_astore K.x K.hb d h3.has hl rfl (fun LS' h4 => k H locs LS' h1 h2 (zL.stored rfl (Or.inr (fun q h => by cases h; exact hp)) h4))
theorem v_astoreN_10 {x0 x1 x2 x3 x4 x5 x6 x7 x8 x9 : Option Value} {o : Option Value} {tl : List (Option Value)}  (d : decode cc pc = .ok (.astore 10, 2)) (hp : zpv x9 = true) (hl : 10 < nL) (hn : pc + 2 = n) (k : V K Qf T N P I R kc ks n (x0 :: x1 :: x2 :: x3 :: x4 :: x5 :: x6 :: x7 :: x8 :: x9 :: some (.null) :: tl) st) : V K Qf T N P I R kc ks pc (x0 :: x1 :: x2 :: x3 :: x4 :: x5 :: x6 :: x7 :: x8 :: x9 :: o :: tl) (.null :: st) := by
  subst hn
  exact fun H locs LS h1 h2 h3 => lv_astoreN K.x K.hb d h3.has hl rfl (fun LS' h4 => k H locs LS' h1 h2 (zL.stored rfl (Or.inr (fun q h => by cases h; exact hp)) h4))
theorem v_iinc_10 {x0 x1 x2 x3 x4 x5 x6 x7 x8 x9 : Option Value} {tl : List (Option Value)} {a b : Int32} {m : Int} (d : decode cc pc = .ok (.iinc 10 m, 3)) (hv : a + Int32.ofInt m = b) (hp : zpv x9 = true) (hl : 10 < nL) (hn : pc + 3 = n) (k : V K Qf T N P I R kc ks n (x0 :: x1 :: x2 :: x3 :: x4 :: x5 :: x6 :: x7 :: x8 :: x9 :: some (.int b) :: tl) st) : V K Qf T N P I R kc ks pc (x0 :: x1 :: x2 :: x3 :: x4 :: x5 :: x6 :: x7 :: x8 :: x9 :: some (.int a) :: tl) st := by
  subst hn
  intro H locs LS h1 h2 h3
  obtain ⟨j, hj⟩ := List.getElem?_of_mem ((zpr_mem (x0 :: x1 :: x2 :: x3 :: x4 :: x5 :: x6 :: x7 :: x8 :: x9 :: some (.int a) :: tl) 0 10 (.int a)).mpr ⟨10, rfl, rfl⟩)
  exact lv_iinc K.x K.hb d h3.has hj hv hl rfl (fun LS' h4 => k H locs LS' h1 h2 (zL.stored rfl (Or.inr (fun q h => by cases h; exact hp)) h4))
theorem v_iload_11 {x0 x1 x2 x3 x4 x5 x6 x7 x8 x9 x10 : Option Value} {tl : List (Option Value)} {a : Int32} (d : decode cc pc = .ok (.iload 11, 2)) (hn : pc + 2 = n) (k : V K Qf T N P I R kc ks n (x0 :: x1 :: x2 :: x3 :: x4 :: x5 :: x6 :: x7 :: x8 :: x9 :: x10 :: some (.int a) :: tl) (.int a :: st)) : V K Qf T N P I R kc ks pc (x0 :: x1 :: x2 :: x3 :: x4 :: x5 :: x6 :: x7 :: x8 :: x9 :: x10 :: some (.int a) :: tl) st := by
  subst hn
  exact fun H locs LS h1 h2 h3 => lv_iload K.x K.hb d (h3.2.2 11 (.int a) rfl) (k H locs LS h1 h2 h3)
theorem v_aload_11 {x0 x1 x2 x3 x4 x5 x6 x7 x8 x9 x10 : Option Value} {tl : List (Option Value)} {a : Nat} (d : decode cc pc = .ok (.aload 11, 2)) (hn : pc + 2 = n) (k : V K Qf T N P I R kc ks n (x0 :: x1 :: x2 :: x3 :: x4 :: x5 :: x6 :: x7 :: x8 :: x9 :: x10 :: some (.ref a) :: tl) (.ref a :: st)) : V K Qf T N P I R kc ks pc (x0 :: x1 :: x2 :: x3 :: x4 :: x5 :: x6 :: x7 :: x8 :: x9 :: x10 :: some (.ref a) :: tl) st := by
  subst hn
  exact fun H locs LS h1 h2 h3 => lv_aload K.x K.hb d (h3.2.2 11 (.ref a) rfl) (k H locs LS h1 h2 h3)
theorem v_aloadN_11 {x0 x1 x2 x3 x4 x5 x6 x7 x8 x9 x10 : Option Value} {tl : List (Option Value)} (d : decode cc pc = .ok (.aload 11, 2)) (hn : pc + 2 = n) (k : V K Qf T N P I R kc ks n (x0 :: x1 :: x2 :: x3 :: x4 :: x5 :: x6 :: x7 :: x8 :: x9 :: x10 :: some .null :: tl) (.null :: st)) : V K Qf T N P I R kc ks pc (x0 :: x1 :: x2 :: x3 :: x4 :: x5 :: x6 :: x7 :: x8 :: x9 :: x10 :: some .null :: tl) st := by
  subst hn
  exact fun H locs LS h1 h2 h3 => lv_aloadN K.x K.hb d (h3.2.2 11 .null rfl) (k H locs LS h1 h2 h3)
theorem v_istore_11 {x0 x1 x2 x3 x4 x5 x6 x7 x8 x9 x10 : Option Value} {o : Option Value} {tl : List (Option Value)} {a : Int32} (d : decode cc pc = .ok (.istore 11, 2)) (hp : zpv x10 = true) (hl : 11 < nL) (hn : pc + 2 = n) (k : V K Qf T N P I R kc ks n (x0 :: x1 :: x2 :: x3 :: x4 :: x5 :: x6 :: x7 :: x8 :: x9 :: x10 :: some (.int a) :: tl) st) : V K Qf T N P I R kc ks pc (x0 :: x1 :: x2 :: x3 :: x4 :: x5 :: x6 :: x7 :: x8 :: x9 :: x10 :: o :: tl) (.int a :: st) := by
  subst hn
  exact fun H locs LS h1 h2 h3 => lv_istore K.x K.hb d h3.has hl rfl (fun LS' h4 => k H locs LS' h1 h2 (zL.stored rfl (Or.inr (fun q h => by cases h; exact hp)) h4))
theorem v_astore_11 {x0 x1 x2 x3 x4 x5 x6 x7 x8 x9 x10 : Option Value} {o : Option Value} {tl : List (Option Value)} {a : Nat} (d : decode cc pc = .ok (.astore 11, 2)) (hp : zpv x10 = true) (hl : 11 < nL) (hn : pc + 2 = n) (k : V K Qf T N P I R kc ks n (x0 :: x1 :: x2 :: x3 :: x4 :: x5 :: x6 :: x7 :: x8 :: x9 :: x10 :: some (.ref a) :: tl) st) : V K Qf T N P I R kc ks pc (x0 :: x1 :: x2 :: x3 :: x4 :: x5 :: x6 :: x7 :: x8 :: x9 :: x10 :: o :: tl) (.ref a :: st) := by
  subst hn
  exact fun H locs LS h1 h2 h3 => lv_astore K.x K.hb d h3.has hl rfl (fun LS' h4 => k H locs LS' h1 h2 (zL.stored rfl (Or.inr (fun q h => by cases h; exact hp)) h4))
theorem v_astoreN_11 {x0 x1 x2 x3 x4 x5 x6 x7 x8 x9 x10 : Option Value} {o : Option Value} {tl : List (Option Value)}  (d : decode cc pc = .ok (.astore 11, 2)) (hp : zpv x10 = true) (hl : 11 < nL) (hn : pc + 2 = n) (k : V K Qf T N P I R kc ks n (x0 :: x1 :: x2 :: x3 :: x4 :: x5 :: x6 :: x7 :: x8 :: x9 :: x10 :: some (.null) :: tl) st) : V K Qf T N P I R kc ks pc (x0 :: x1 :: x2 :: x3 :: x4 :: x5 :: x6 :: x7 :: x8 :: x9 :: x10 :: o :: tl) (.null :: st) := by
  subst hn
  exact fun H locs LS h1 h2 h3 => lv_astoreN K.x K.hb d h3.has hl rfl (fun LS' h4 => k H locs LS' h1 h2 (zL.stored rfl (Or.inr (fun q h => by cases h; exact hp)) h4))
theorem v_iinc_11 {x0 x1 x2 x3 x4 x5 x6 x7 x8 x9 x10 : Option Value} {tl : List (Option Value)} {a b : Int32} {m : Int} (d : decode cc pc = .ok (.iinc 11 m, 3)) (hv : a + Int32.ofInt m = b) (hp : zpv x10 = true) (hl : 11 < nL) (hn : pc + 3 = n) (k : V K Qf T N P I R kc ks n (x0 :: x1 :: x2 :: x3 :: x4 :: x5 :: x6 :: x7 :: x8 :: x9 :: x10 :: some (.int b) :: tl) st) : V K Qf T N P I R kc ks pc (x0 :: x1 :: x2 :: x3 :: x4 :: x5 :: x6 :: x7 :: x8 :: x9 :: x10 :: some (.int a) :: tl) st := by
  subst hn
  intro H locs LS h1 h2 h3
  obtain ⟨j, hj⟩ := List.getElem?_of_mem ((zpr_mem (x0 :: x1 :: x2 :: x3 :: x4 :: x5 :: x6 :: x7 :: x8 :: x9 :: x10 :: some (.int a) :: tl) 0 11 (.int a)).mpr ⟨11, rfl, rfl⟩)
  exact lv_iinc K.x K.hb d h3.has hj hv hl rfl (fun LS' h4 => k H locs LS' h1 h2 (zL.stored rfl (Or.inr (fun q h => by cases h; exact hp)) h4))
theorem v_iload_12 {x0 x1 x2 x3 x4 x5 x6 x7 x8 x9 x10 x11 : Option Value} {tl : List (Option Value)} {a : Int32} (d : decode cc pc = .ok (.iload 12, 2)) (hn : pc + 2 = n) (k : V K Qf T N P I R kc ks n (x0 :: x1 :: x2 :: x3 :: x4 :: x5 :: x6 :: x7 :: x8 :: x9 :: x10 :: x11 :: some (.int a) :: tl) (.int a :: st)) : V K Qf T N P I R kc ks pc (x0 :: x1 :: x2 :: x3 :: x4 :: x5 :: x6 :: x7 :: x8 :: x9 :: x10 :: x11 :: some (.int a) :: tl) st := by
  subst hn
  exact fun H locs LS h1 h2 h3 => lv_iload K.x K.hb d (h3.2.2 12 (.int a) rfl) (k H locs LS h1 h2 h3)
theorem v_aload_12 {x0 x1 x2 x3 x4 x5 x6 x7 x8 x9 x10 x11 : Option Value} {tl : List (Option Value)} {a : Nat} (d : decode cc pc = .ok (.aload 12, 2)) (hn : pc + 2 = n) (k : V K Qf T N P I R kc ks n (x0 :: x1 :: x2 :: x3 :: x4 :: x5 :: x6 :: x7 :: x8 :: x9 :: x10 :: x11 :: some (.ref a) :: tl) (.ref a :: st)) : V K Qf T N P I R kc ks pc (x0 :: x1 :: x2 :: x3 :: x4 :: x5 :: x6 :: x7 :: x8 :: x9 :: x10 :: x11 :: some (.ref a) :: tl) st := by
  subst hn
  exact fun H locs LS h1 h2 h3 => lv_aload K.x K.hb d (h3.2.2 12 (.ref a) rfl) (k H locs LS h1 h2 h3)
theorem v_aloadN_12 {x0 x1 x2 x3 x4 x5 x6 x7 x8 x9 x10 x11 : Option Value} {tl : List (Option Value)} (d : decode cc pc = .ok (.aload 12, 2)) (hn : pc + 2 = n) (k : V K Qf T N P I R kc ks n (x0 :: x1 :: x2 :: x3 :: x4 :: x5 :: x6 :: x7 :: x8 :: x9 :: x10 :: x11 :: some .null :: tl) (.null :: st)) : V K Qf T N P I R kc ks pc (x0 :: x1 :: x2 :: x3 :: x4 :: x5 :: x6 :: x7 :: x8 :: x9 :: x10 :: x11 :: some .null :: tl) st := by
  subst hn
  exact fun H locs LS h1 h2 h3 => lv_aloadN K.x K.hb d (h3.2.2 12 .null rfl) (k H locs LS h1 h2 h3)
theorem v_istore_12 {x0 x1 x2 x3 x4 x5 x6 x7 x8 x9 x10 x11 : Option Value} {o : Option Value} {tl : List (Option Value)} {a : Int32} (d : decode cc pc = .ok (.istore 12, 2)) (hp : zpv x11 = true) (hl : 12 < nL) (hn : pc + 2 = n) (k : V K Qf T N P I R kc ks n (x0 :: x1 :: x2 :: x3 :: x4 :: x5 :: x6 :: x7 :: x8 :: x9 :: x10 :: x11 :: some (.int a) :: tl) st) : V K Qf T N P I R kc ks pc (x0 :: x1 :: x2 :: x3 :: x4 :: x5 :: x6 :: x7 :: x8 :: x9 :: x10 :: x11 :: o :: tl) (.int a :: st) := by
  subst hn
  exact fun H locs LS h1 h2 h3 => lv_istore K.x K.hb d h3.has hl rfl (fun LS' h4 => k H locs LS' h1 h2 (zL.stored rfl (Or.inr (fun q h => by cases h; exact hp)) h4))
theorem v_astore_12 {x0 x1 x2 x3 x4 x5 x6 x7 x8 x9 x10 x11 : Option Value} {o : Option Value} {tl : List (Option Value)} {a : Nat} (d : decode cc pc = .ok (.astore 12, 2)) (hp : zpv x11 = true) (hl : 12 < nL) (hn : pc + 2 = n) (k : V K Qf T N P I R kc ks n (x0 :: x1 :: x2 :: x3 :: x4 :: x5 :: x6 :: x7 :: x8 :: x9 :: x10 :: x11 :: some (.ref a) :: tl) st) : V K Qf T N P I R kc ks pc (x0 :: x1 :: x2 :: x3 :: x4 :: x5 :: x6 :: x7 :: x8 :: x9 :: x10 :: x11 :: o :: tl) (.ref a :: st) := by
  subst hn
  exact fun H locs LS h1 h2 h3 => lv_astore K.x K.hb d h3.has hl rfl (fun LS' h4 => k H locs LS' h1 h2 (zL.stored rfl (Or.inr (fun q h => by cases h; exact hp)) h4))
theorem v_astoreN_12 {x0 x1 x2 x3 x4 x5 x6 x7 x8 x9 x10 x11 : Option Value} {o : Option Value} {tl : List (Option Value)}  (d : decode cc pc = .ok (.astore 12, 2)) (hp : zpv x11 = true) (hl : 12 < nL) (hn : pc + 2 = n) (k : V K Qf T N P I R kc ks n (x0 :: x1 :: x2 :: x3 :: x4 :: x5 :: x6 :: x7 :: x8 :: x9 :: x10 :: x11 :: some (.null) :: tl) st) : V K Qf T N P I R kc ks pc (x0 :: x1 :: x2 :: x3 :: x4 :: x5 :: x6 :: x7 :: x8 :: x9 :: x10 :: x11 :: o :: tl) (.null :: st) := by
  subst hn
  exact fun H locs LS h1 h2 h3 => lv_astoreN K.x K.hb d h3.has hl rfl (fun LS' h4 => k H locs LS' h1 h2 (zL.stored rfl (Or.inr (fun q h => by cases h; exact hp)) h4))
theorem v_iinc_12 {x0 x1 x2 x3 x4 x5 x6 x7 x8 x9 x10 x11 : Option Value} {tl : List (Option Value)} {a b : Int32} {m : Int} (d : decode cc pc = .ok (.iinc 12 m, 3)) (hv : a + Int32.ofInt m = b) (hp : zpv x11 = true) (hl : 12 < nL) (hn : pc + 3 = n) (k : V K Qf T N P I R kc ks n (x0 :: x1 :: x2 :: x3 :: x4 :: x5 :: x6 :: x7 :: x8 :: x9 :: x10 :: x11 :: some (.int b) :: tl) st) : V K Qf T N P I R kc ks pc (x0 :: x1 :: x2 :: x3 :: x4 :: x5 :: x6 :: x7 :: x8 :: x9 :: x10 :: x11 :: some (.int a) :: tl) st := by
  subst hn
  intro H locs LS h1 h2 h3
  obtain ⟨j, hj⟩ := List.getElem?_of_mem ((zpr_mem (x0 :: x1 :: x2 :: x3 :: x4 :: x5 :: x6 :: x7 :: x8 :: x9 :: x10 :: x11 :: some (.int a) :: tl) 0 12 (.int a)).mpr ⟨12, rfl, rfl⟩)
  exact lv_iinc K.x K.hb d h3.has hj hv hl rfl (fun LS' h4 => k H locs LS' h1 h2 (zL.stored rfl (Or.inr (fun q h => by cases h; exact hp)) h4))
theorem v_iload_13 {x0 x1 x2 x3 x4 x5 x6 x7 x8 x9 x10 x11 x12 : Option Value} {tl : List (Option Value)} {a : Int32} (d : decode cc pc = .ok (.iload 13, 2)) (hn : pc + 2 = n) (k : V K Qf T N P I R kc ks n (x0 :: x1 :: x2 :: x3 :: x4 :: x5 :: x6 :: x7 :: x8 :: x9 :: x10 :: x11 :: x12 :: some (.int a) :: tl) (.int a :: st)) : V K Qf T N P I R kc ks pc (x0 :: x1 :: x2 :: x3 :: x4 :: x5 :: x6 :: x7 :: x8 :: x9 :: x10 :: x11 :: x12 :: some (.int a) :: tl) st := by
  subst hn
  exact fun H locs LS h1 h2 h3 => lv_iload K.x K.hb d (h3.2.2 13 (.int a) rfl) (k H locs LS h1 h2 h3)
theorem v_aload_13 {x0 x1 x2 x3 x4 x5 x6 x7 x8 x9 x10 x11 x12 : Option Value} {tl : List (Option Value)} {a : Nat} (d : decode cc pc = .ok (.aload 13, 2)) (hn : pc + 2 = n) (k : V K Qf T N P I R kc ks n (x0 :: x1 :: x2 :: x3 :: x4 :: x5 :: x6 :: x7 :: x8 :: x9 :: x10 :: x11 :: x12 :: some (.ref a) :: tl) (.ref a :: st)) : V K Qf T N P I R kc ks pc (x0 :: x1 :: x2 :: x3 :: x4 :: x5 :: x6 :: x7 :: x8 :: x9 :: x10 :: x11 :: x12 :: some (.ref a) :: tl) st := by
  subst hn
  exact fun H locs LS h1 h2 h3 => lv_aload K.x K.hb d (h3.2.2 13 (.ref a) rfl) (k H locs LS h1 h2 h3)
theorem v_aloadN_13 {x0 x1 x2 x3 x4 x5 x6 x7 x8 x9 x10 x11 x12 : Option Value} {tl : List (Option Value)} (d : decode cc pc = .ok (.aload 13, 2)) (hn : pc + 2 = n) (k : V K Qf T N P I R kc ks n (x0 :: x1 :: x2 :: x3 :: x4 :: x5 :: x6 :: x7 :: x8 :: x9 :: x10 :: x11 :: x12 :: some .null :: tl) (.null :: st)) : V K Qf T N P I R kc ks pc (x0 :: x1 :: x2 :: x3 :: x4 :: x5 :: x6 :: x7 :: x8 :: x9 :: x10 :: x11 :: x12 :: some .null :: tl) st := by
  subst hn
  exact fun H locs LS h1 h2 h3 => lv_aloadN K.x K.hb d (h3.2.2 13 .null rfl) (k H locs LS h1 h2 h3)
theorem v_istore_13 {x0 x1 x2 x3 x4 x5 x6 x7 x8 x9 x10 x11 x12 : Option Value} {o : Option Value} {tl : List (Option Value)} {a : Int32} (d : decode cc pc = .ok (.istore 13, 2)) (hp : zpv x12 = true) (hl : 13 < nL) (hn : pc + 2 = n) (k : V K Qf T N P I R kc ks n (x0 :: x1 :: x2 :: x3 :: x4 :: x5 :: x6 :: x7 :: x8 :: x9 :: x10 :: x11 :: x12 :: some (.int a) :: tl) st) : V K Qf T N P I R kc ks pc (x0 :: x1 :: x2 :: x3 :: x4 :: x5 :: x6 :: x7 :: x8 :: x9 :: x10 :: x11 :: x12 :: o :: tl) (.int a :: st) := by
  subst hn
  exact fun H locs LS h1 h2 h3 => lv_istore K.x K.hb d h3.has hl rfl (fun LS' h4 => k H locs LS' h1 h2 (zL.stored rfl (Or.inr (fun q h => by cases h; exact hp)) h4))
theorem v_astore_13 {x0 x1 x2 x3 x4 x5 x6 x7 x8 x9 x10 x11 x12 : Option Value} {o : Option Value} {tl : List (Option Value)} {a : Nat} (d : decode cc pc = .ok (.astore 13, 2)) (hp : zpv x12 = true) (hl : 13 < nL) (hn : pc + 2 = n) (k : V K Qf T N P I R kc ks n (x0 :: x1 :: x2 :: x3 :: x4 :: x5 :: x6 :: x7 :: x8 :: x9 :: x10 :: x11 :: x12 :: some (.ref a) :: tl) st) : V K Qf T N P I R kc ks pc (x0 :: x1 :: x2 :: x3 :: x4 :: x5 :: x6 :: x7 :: x8 :: x9 :: x10 :: x11 :: x12 :: o :: tl) (.ref a :: st) := by
  subst hn
  exact fun H locs LS h1 h2 h3 => lv_astore K.x K.hb d h3.has hl rfl (fun LS' h4 => k H locs LS' h1 h2 (zL.stored rfl (Or.inr (fun q h => by cases h; exact hp)) h4))
theorem v_astoreN_13 {x0 x1 x2 x3 x4 x5 x6 x7 x8 x9 x10 x11 x12 : Option Value} {o : Option Value} {tl : List (Option Value)}  (d : decode cc pc = .ok (.astore 13, 2)) (hp : zpv x12 = true) (hl : 13 < nL) (hn : pc + 2 = n) (k : V K Qf T N P I R kc ks n (x0 :: x1 :: x2 :: x3 :: x4 :: x5 :: x6 :: x7 :: x8 :: x9 :: x10 :: x11 :: x12 :: some (.null) :: tl) st) : V K Qf T N P I R kc ks pc (x0 :: x1 :: x2 :: x3 :: x4 :: x5 :: x6 :: x7 :: x8 :: x9 :: x10 :: x11 :: x12 :: o :: tl) (.null :: st) := by
  subst hn
  exact fun H locs LS h1 h2 h3 => lv_astoreN K.x K.hb d h3.has hl rfl (fun LS' h4 => k H locs LS' h1 h2 (zL.stored rfl (Or.inr (fun q h => by cases h; exact hp)) h4))
theorem v_iinc_13 {x0 x1 x2 x3 x4 x5 x6 x7 x8 x9 x10 x11 x12 : Option Value} {tl : List (Option Value)} {a b : Int32} {m : Int} (d : decode cc pc = .ok (.iinc 13 m, 3)) (hv : a + Int32.ofInt m = b) (hp : zpv x12 = true) (hl : 13 < nL) (hn : pc + 3 = n) (k : V K Qf T N P I R kc ks n (x0 :: x1 :: x2 :: x3 :: x4 :: x5 :: x6 :: x7 :: x8 :: x9 :: x10 :: x11 :: x12 :: some (.int b) :: tl) st) : V K Qf T N P I R kc ks pc (x0 :: x1 :: x2 :: x3 :: x4 :: x5 :: x6 :: x7 :: x8 :: x9 :: x10 :: x11 :: x12 :: some (.int a) :: tl) st := by
  subst hn
  intro H locs LS h1 h2 h3
  obtain ⟨j, hj⟩ := List.getElem?_of_mem ((zpr_mem (x0 :: x1 :: x2 :: x3 :: x4 :: x5 :: x6 :: x7 :: x8 :: x9 :: x10 :: x11 :: x12 :: some (.int a) :: tl) 0 13 (.int a)).mpr ⟨13, rfl, rfl⟩)
  exact lv_iinc K.x K.hb d h3.has hj hv hl rfl (fun LS' h4 => k H locs LS' h1 h2 (zL.stored rfl (Or.inr (fun q h => by cases h; exact hp)) h4))
theorem v_iload_14 {x0 x1 x2 x3 x4 x5 x6 x7 x8 x9 x10 x11 x12 x13 : Option Value} {tl : List (Option Value)} {a : Int32} (d : decode cc pc = .ok (.iload 14, 2)) (hn : pc + 2 = n) (k : V K Qf T N P I R kc ks n (x0 :: x1 :: x2 :: x3 :: x4 :: x5 :: x6 :: x7 :: x8 :: x9 :: x10 :: x11 :: x12 :: x13 :: some (.int a) :: tl) (.int a :: st)) : V K Qf T N P I R kc ks pc (x0 :: x1 :: x2 :: x3 :: x4 :: x5 :: x6 :: x7 :: x8 :: x9 :: x10 :: x11 :: x12 :: x13 :: some (.int a) :: tl) st := by
  subst hn
  exact fun H locs LS h1 h2 h3 => lv_iload K.x K.hb d (h3.2.2 14 (.int a) rfl) (k H locs LS h1 h2 h3)
theorem v_aload_14 {x0 x1 x2 x3 x4 x5 x6 x7 x8 x9 x10 x11 x12 x13 : Option Value} {tl : List (Option Value)} {a : Nat} (d : decode cc pc = .ok (.aload 14, 2)) (hn : pc + 2 = n) (k : V K Qf T N P I R kc ks n (x0 :: x1 :: x2 :: x3 :: x4 :: x5 :: x6 :: x7 :: x8 :: x9 :: x10 :: x11 :: x12 :: x13 :: some (.ref a) :: tl) (.ref a :: st)) : V K Qf T N P I R kc ks pc (x0 :: x1 :: x2 :: x3 :: x4 :: x5 :: x6 :: x7 :: x8 :: x9 :: x10 :: x11 :: x12 :: x13 :: some (.ref a) :: tl) st := by
  subst hn
  exact fun H locs LS h1 h2 h3 => lv_aload K.x K.hb d (h3.2.2 14 (.ref a) rfl) (k H locs LS h1 h2 h3)
theorem v_aloadN_14 {x0 x1 x2 x3 x4 x5 x6 x7 x8 x9 x10 x11 x12 x13 : Option Value} {tl : List (Option Value)} (d : decode cc pc = .ok (.aload 14, 2)) (hn : pc + 2 = n) (k : V K Qf T N P I R kc ks n (x0 :: x1 :: x2 :: x3 :: x4 :: x5 :: x6 :: x7 :: x8 :: x9 :: x10 :: x11 :: x12 :: x13 :: some .null :: tl) (.null :: st)) : V K Qf T N P I R kc ks pc (x0 :: x1 :: x2 :: x3 :: x4 :: x5 :: x6 :: x7 :: x8 :: x9 :: x10 :: x11 :: x12 :: x13 :: some .null :: tl) st := by
  subst hn
  exact fun H locs LS h1 h2 h3 => lv_aloadN K.x K.hb d (h3.2.2 14 .null rfl) (k H locs LS h1 h2 h3)
theorem v_istore_14 {x0 x1 x2 x3 x4 x5 x6 x7 x8 x9 x10 x11 x12 x13 : Option Value} {o : Option Value} {tl : List (Option Value)} {a : Int32} (d : decode cc pc = .ok (.istore 14, 2)) (hp : zpv x13 = true) (hl : 14 < nL) (hn : pc + 2 = n) (k : V K Qf T N P I R kc ks n (x0 :: x1 :: x2 :: x3 :: x4 :: x5 :: x6 :: x7 :: x8 :: x9 :: x10 :: x11 :: x12 :: x13 :: some (.int a) :: tl) st) : V K Qf T N P I R kc ks pc (x0 :: x1 :: x2 :: x3 :: x4 :: x5 :: x6 :: x7 :: x8 :: x9 :: x10 :: x11 :: x12 :: x13 :: o :: tl) (.int a :: st) := by
  subst hn
  exact fun H locs LS h1 h2 h3 => lv_istore K.x K.hb d h3.has hl rfl (fun LS' h4 => k H locs LS' h1 h2 (zL.stored rfl (Or.inr (fun q h => by cases h; exact hp)) h4))
theorem v_astore_14 {x0 x1 x2 x3 x4 x5 x6 x7 x8 x9 x10 x11 x12 x13 : Option Value} {o : Option Value} {tl : List (Option Value)} {a : Nat} (d : decode cc pc = .ok (.astore 14, 2)) (hp : zpv x13 = true) (hl : 14 < nL) (hn : pc + 2 = n) (k : V K Qf T N P I R kc ks n (x0 :: x1 :: x2 :: x3 :: x4 :: x5 :: x6 :: x7 :: x8 :: x9 :: x10 :: x11 :: x12 :: x13 :: some (.ref a) :: tl) st) : V K Qf T N P I R kc ks pc (x0 :: x1 :: x2 :: x3 :: x4 :: x5 :: x6 :: x7 :: x8 :: x9 :: x10 :: x11 :: x12 :: x13 :: o :: tl) (.ref a :: st) := by
  subst hn
  exact fun H locs LS h1 h2 h3 => lv_astore K.x K.hb d h3.has hl rfl (fun LS' h4 => k H locs LS' h1 h2 (zL.stored rfl (Or.inr (fun q h => by cases h; exact hp)) h4))
theorem v_astoreN_14 {x0 x1 x2 x3 x4 x5 x6 x7 x8 x9 x10 x11 x12 x13 : Option Value} {o : Option Value} {tl : List (Option Value)}  (d : decode cc pc = .ok (.astore 14, 2)) (hp : zpv x13 = true) (hl : 14 < nL) (hn : pc + 2 = n) (k : V K Qf T N P I R kc ks n (x0 :: x1 :: x2 :: x3 :: x4 :: x5 :: x6 :: x7 :: x8 :: x9 :: x10 :: x11 :: x12 :: x13 :: some (.null) :: tl) st) : V K Qf T N P I R kc ks pc (x0 :: x1 :: x2 :: x3 :: x4 :: x5 :: x6 :: x7 :: x8 :: x9 :: x10 :: x11 :: x12 :: x13 :: o :: tl) (.null :: st) := by
  subst hn
  exact fun H locs LS h1 h2 h3 => lv_astoreN K.x K.hb d h3.has hl rfl (fun LS' h4 => k H locs LS' h1 h2 (zL.stored rfl (Or.inr (fun q h => by cases h; exact hp)) h4))
theorem v_iinc_14 {x0 x1 x2 x3 x4 x5 x6 x7 x8 x9 x10 x11 x12 x13 : Option Value} {tl : List (Option Value)} {a b : Int32} {m : Int} (d : decode cc pc = .ok (.iinc 14 m, 3)) (hv : a + Int32.ofInt m = b) (hp : zpv x13 = true) (hl : 14 < nL) (hn : pc + 3 = n) (k : V K Qf T N P I R kc ks n (x0 :: x1 :: x2 :: x3 :: x4 :: x5 :: x6 :: x7 :: x8 :: x9 :: x10 :: x11 :: x12 :: x13 :: some (.int b) :: tl) st) : V K Qf T N P I R kc ks pc (x0 :: x1 :: x2 :: x3 :: x4 :: x5 :: x6 :: x7 :: x8 :: x9 :: x10 :: x11 :: x12 :: x13 :: some (.int a) :: tl) st := by
  subst hn
  intro H locs LS h1 h2 h3
  obtain ⟨j, hj⟩ := List.getElem?_of_mem ((zpr_mem (x0 :: x1 :: x2 :: x3 :: x4 :: x5 :: x6 :: x7 :: x8 :: x9 :: x10 :: x11 :: x12 :: x13 :: some (.int a) :: tl) 0 14 (.int a)).mpr ⟨14, rfl, rfl⟩)
  exact lv_iinc K.x K.hb d h3.has hj hv hl rfl (fun LS' h4 => k H locs LS' h1 h2 (zL.stored rfl (Or.inr (fun q h => by cases h; exact hp)) h4))
theorem v_iload_15 {x0 x1 x2 x3 x4 x5 x6 x7 x8 x9 x10 x11 x12 x13 x14 : Option Value} {tl : List (Option Value)} {a : Int32} (d : decode cc pc = .ok (.iload 15, 2)) (hn : pc + 2 = n) (k : V K Qf T N P I R kc ks n (x0 :: x1 :: x2 :: x3 :: x4 :: x5 :: x6 :: x7 :: x8 :: x9 :: x10 :: x11 :: x12 :: x13 :: x14 :: some (.int a) :: tl) (.int a :: st)) : V K Qf T N P I R kc ks pc (x0 :: x1 :: x2 :: x3 :: x4 :: x5 :: x6 :: x7 :: x8 :: x9 :: x10 :: x11 :: x12 :: x13 :: x14 :: some (.int a) :: tl) st := by
  subst hn
  exact fun H locs LS h1 h2 h3 => lv_iload K.x K.hb d (h3.2.2 15 (.int a) rfl) (k H locs LS h1 h2 h3)
theorem v_aload_15 {x0 x1 x2 x3 x4 x5 x6 x7 x8 x9 x10 x11 x12 x13 x14 : Option Value} {tl : List (Option Value)} {a : Nat} (d : decode cc pc = .ok (.aload 15, 2)) (hn : pc + 2 = n) (k : V K Qf T N P I R kc ks n (x0 :: x1 :: x2 :: x3 :: x4 :: x5 :: x6 :: x7 :: x8 :: x9 :: x10 :: x11 :: x12 :: x13 :: x14 :: some (.ref a) :: tl) (.ref a :: st)) : V K Qf T N P I R kc ks pc (x0 :: x1 :: x2 :: x3 :: x4 :: x5 :: x6 :: x7 :: x8 :: x9 :: x10 :: x11 :: x12 :: x13 :: x14 :: some (.ref a) :: tl) st := by
  subst hn
  exact fun H locs LS h1 h2 h3 => lv_aload K.x K.hb d (h3.2.2 15 (.ref a) rfl) (k H locs LS h1 h2 h3)
theorem v_aloadN_15 {x0 x1 x2 x3 x4 x5 x6 x7 x8 x9 x10 x11 x12 x13 x14 : Option Value} {tl : List (Option Value)} (d : decode cc pc = .ok (.aload 15, 2)) (hn : pc + 2 = n) (k : V K Qf T N P I R kc ks n (x0 :: x1 :: x2 :: x3 :: x4 :: x5 :: x6 :: x7 :: x8 :: x9 :: x10 :: x11 :: x12 :: x13 :: x14 :: some .null :: tl) (.null :: st)) : V K Qf T N P I R kc ks pc (x0 :: x1 :: x2 :: x3 :: x4 :: x5 :: x6 :: x7 :: x8 :: x9 :: x10 :: x11 :: x12 :: x13 :: x14 :: some .null :: tl) st := by
  subst hn
  exact fun H locs LS h1 h2 h3 => lv_aloadN K.x K.hb d (h3.2.2 15 .null rfl) (k H locs LS h1 h2 h3)
theorem v_istore_15 {x0 x1 x2 x3 x4 x5 x6 x7 x8 x9 x10 x11 x12 x13 x14 : Option Value} {o : Option Value} {tl : List (Option Value)} {a : Int32} (d : decode cc pc = .ok (.istore 15, 2)) (hp : zpv x14 = true) (hl : 15 < nL) (hn : pc + 2 = n) (k : V K Qf T N P I R kc ks n (x0 :: x1 :: x2 :: x3 :: x4 :: x5 :: x6 :: x7 :: x8 :: x9 :: x10 :: x11 :: x12 :: x13 :: x14 :: some (.int a) :: tl) st) : V K Qf T N P I R kc ks pc (x0 :: x1 :: x2 :: x3 :: x4 :: x5 :: x6 :: x7 :: x8 :: x9 :: x10 :: x11 :: x12 :: x13 :: x14 :: o :: tl) (.int a :: st) := by
  subst hn
  exact fun H locs LS h1 h2 h3 => lv_istore K.x K.hb d h3.has hl rfl (fun LS' h4 => k H locs LS' h1 h2 (zL.stored rfl (Or.inr (fun q h => by cases h; exact hp)) h4))
theorem v_astore_15 {x0 x1 x2 x3 x4 x5 x6 x7 x8 x9 x10 x11 x12 x13 x14 : Option Value} {o : Option Value} {tl : List (Option Value)} {a : Nat} (d : decode cc pc = .ok (.astore 15, 2)) (hp : zpv x14 = true) (hl : 15 < nL) (hn : pc + 2 = n) (k : V K Qf T N P I R kc ks n (x0 :: x1 :: x2 :: x3 :: x4 :: x5 :: x6 :: x7 :: x8 :: x9 :: x10 :: x11 :: x12 :: x13 :: x14 :: some (.ref a) :: tl) st) : V K Qf T N P I R kc ks pc (x0 :: x1 :: x2 :: x3 :: x4 :: x5 :: x6 :: x7 :: x8 :: x9 :: x10 :: x11 :: x12 :: x13 :: x14 :: o :: tl) (.ref a :: st) := by
  subst hn
  exact fun H locs LS h1 h2 h3 => lv_astore K.x K.hb d h3.has hl rfl (fun LS' h4 => k H locs LS' h1 h2 (zL.stored rfl (Or.inr (fun q h => by cases h; exact hp)) h4))
theorem v_astoreN_15 {x0 x1 x2 x3 x4 x5 x6 x7 x8 x9 x10 x11 x12 x13 x14 : Option Value} {o : Option Value} {tl : List (Option Value)}  (d : decode cc pc = .ok (.astore 15, 2)) (hp : zpv x14 = true) (hl : 15 < nL) (hn : pc + 2 = n) (k : V K Qf T N P I R kc ks n (x0 :: x1 :: x2 :: x3 :: x4 :: x5 :: x6 :: x7 :: x8 :: x9 :: x10 :: x11 :: x12 :: x13 :: x14 :: some (.null) :: tl) st) : V K Qf T N P I R kc ks pc (x0 :: x1 :: x2 :: x3 :: x4 :: x5 :: x6 :: x7 :: x8 :: x9 :: x10 :: x11 :: x12 :: x13 :: x14 :: o :: tl) (.null :: st) := by
  subst hn
  exact fun H locs LS h1 h2 h3 => lv_astoreN K.x K.hb d h3.has hl rfl (fun LS' h4 => k H locs LS' h1 h2 (zL.stored rfl (Or.inr (fun q h => by cases h; exact hp)) h4))
theorem v_iinc_15 {x0 x1 x2 x3 x4 x5 x6 x7 x8 x9 x10 x11 x12 x13 x14 : Option Value} {tl : List (Option Value)} {a b : Int32} {m : Int} (d : decode cc pc = .ok (.iinc 15 m, 3)) (hv : a + Int32.ofInt m = b) (hp : zpv x14 = true) (hl : 15 < nL) (hn : pc + 3 = n) (k : V K Qf T N P I R kc ks n (x0 :: x1 :: x2 :: x3 :: x4 :: x5 :: x6 :: x7 :: x8 :: x9 :: x10 :: x11 :: x12 :: x13 :: x14 :: some (.int b) :: tl) st) : V K Qf T N P I R kc ks pc (x0 :: x1 :: x2 :: x3 :: x4 :: x5 :: x6 :: x7 :: x8 :: x9 :: x10 :: x11 :: x12 :: x13 :: x14 :: some (.int a) :: tl) st := by
  subst hn
  intro H locs LS h1 h2 h3
  obtain ⟨j, hj⟩ := List.getElem?_of_mem ((zpr_mem (x0 :: x1 :: x2 :: x3 :: x4 :: x5 :: x6 :: x7 :: x8 :: x9 :: x10 :: x11 :: x12 :: x13 :: x14 :: some (.int a) :: tl) 0 15 (.int a)).mpr ⟨15, rfl, rfl⟩)
  exact lv_iinc K.x K.hb d h3.has hj hv hl rfl (fun LS' h4 => k H locs LS' h1 h2 (zL.stored rfl (Or.inr (fun q h => by cases h; exact hp)) h4))
theorem v_iload_16 {x0 x1 x2 x3 x4 x5 x6 x7 x8 x9 x10 x11 x12 x13 x14 x15 : Option Value} {tl : List (Option Value)} {a : Int32} (d : decode cc pc = .ok (.iload 16, 2)) (hn : pc + 2 = n) (k : V K Qf T N P I R kc ks n (x0 :: x1 :: x2 :: x3 :: x4 :: x5 :: x6 :: x7 :: x8 :: x9 :: x10 :: x11 :: x12 :: x13 :: x14 :: x15 :: some (.int a) :: tl) (.int a :: st)) : V K Qf T N P I R kc ks pc (x0 :: x1 :: x2 :: x3 :: x4 :: x5 :: x6 :: x7 :: x8 :: x9 :: x10 :: x11 :: x12 :: x13 :: x14 :: x15 :: some (.int a) :: tl) st := by
  subst hn
  exact fun H locs LS h1 h2 h3 => lv_iload K.x K.hb d (h3.2.2 16 (.int a) rfl) (k H locs LS h1 h2 h3)
theorem v_aload_16 {x0 x1 x2 x3 x4 x5 x6 x7 x8 x9 x10 x11 x12 x13 x14 x15 : Option Value} {tl : List (Option Value)} {a : Nat} (d : decode cc pc = .ok (.aload 16, 2)) (hn : pc + 2 = n) (k : V K Qf T N P I R kc ks n (x0 :: x1 :: x2 :: x3 :: x4 :: x5 :: x6 :: x7 :: x8 :: x9 :: x10 :: x11 :: x12 :: x13 :: x14 :: x15 :: some (.ref a) :: tl) (.ref a :: st)) : V K Qf T N P I R kc ks pc (x0 :: x1 :: x2 :: x3 :: x4 :: x5 :: x6 :: x7 :: x8 :: x9 :: x10 :: x11 :: x12 :: x13 :: x14 :: x15 :: some (.ref a) :: tl) st := by
  subst hn
  exact fun H locs LS h1 h2 h3 => lv_aload K.x K.hb d (h3.2.2 16 (.ref a) rfl) (k H locs LS h1 h2 h3)
theorem v_aloadN_16 {x0 x1 x2 x3 x4 x5 x6 x7 x8 x9 x10 x11 x12 x13 x14 x15 : Option Value} {tl : List (Option Value)} (d : decode cc pc = .ok (.aload 16, 2)) (hn : pc + 2 = n) (k : V K Qf T N P I R kc ks n (x0 :: x1 :: x2 :: x3 :: x4 :: x5 :: x6 :: x7 :: x8 :: x9 :: x10 :: x11 :: x12 :: x13 :: x14 :: x15 :: some .null :: tl) (.null :: st)) : V K Qf T N P I R kc ks pc (x0 :: x1 :: x2 :: x3 :: x4 :: x5 :: x6 :: x7 :: x8 :: x9 :: x10 :: x11 :: x12 :: x13 :: x14 :: x15 :: some .null :: tl) st := by
  subst hn
  exact fun H locs LS h1 h2 h3 => lv_aloadN K.x K.hb d (h3.2.2 16 .null rfl) (k H locs LS h1 h2 h3)
theorem v_istore_16 {x0 x1 x2 x3 x4 x5 x6 x7 x8 x9 x10 x11 x12 x13 x14 x15 : Option Value} {o : Option Value} {tl : List (Option Value)} {a : Int32} (d : decode cc pc = .ok (.istore 16, 2)) (hp : zpv x15 = true) (hl : 16 < nL) (hn : pc + 2 = n) (k : V K Qf T N P I R kc ks n (x0 :: x1 :: x2 :: x3 :: x4 :: x5 :: x6 :: x7 :: x8 :: x9 :: x10 :: x11 :: x12 :: x13 :: x14 :: x15 :: some (.int a) :: tl) st) : V K Qf T N P I R kc ks pc (x0 :: x1 :: x2 :: x3 :: x4 :: x5 :: x6 :: x7 :: x8 :: x9 :: x10 :: x11 :: x12 :: x13 :: x14 :: x15 :: o :: tl) (.int a :: st) := by
  subst hn
  exact fun H locs LS h1 h2 h3 => lv_istore K.x K.hb d h3.has hl rfl (fun LS' h4 => k H locs LS' h1 h2 (zL.stored rfl (Or.inr (fun q h => by cases h; exact hp)) h4))
theorem v_astore_16 {x0 x1 x2 x3 x4 x5 x6 x7 x8 x9 x10 x11 x12 x13 x14 x15 : Option Value} {o : Option Value} {tl : List (Option Value)} {a : Nat} (d : decode cc pc = .ok (.astore 16, 2)) (hp : zpv x15 = true) (hl : 16 < nL) (hn : pc + 2 = n) (k : V K Qf T N P I R kc ks n (x0 :: x1 :: x2 :: x3 :: x4 :: x5 :: x6 :: x7 :: x8 :: x9 :: x10 :: x11 :: x12 :: x13 :: x14 :: x15 :: some (.ref a) :: tl) st) : V K Qf T N P I R kc ks pc (x0 :: x1 :: x2 :: x3 :: x4 :: x5 :: x6 :: x7 :: x8 :: x9 :: x10 :: x11 :: x12 :: x13 :: x14 :: x15 :: o :: tl) (.ref a :: st) := by
  subst hn
  exact fun H locs LS h1 h2 h3 => lv_astore K.x K.hb d h3.has hl rfl (fun LS' h4 => k H locs LS' h1 h2 (zL.stored rfl (Or.inr (fun q h => by cases h; exact hp)) h4))
theorem v_astoreN_16 {x0 x1 x2 x3 x4 x5 x6 x7 x8 x9 x10 x11 x12 x13 x14 x15 : Option Value} {o : Option Value} {tl : List (Option Value)}  (d : decode cc pc = .ok (.astore 16, 2)) (hp : zpv x15 = true) (hl : 16 < nL) (hn : pc + 2 = n) (k : V K Qf T N P I R kc ks n (x0 :: x1 :: x2 :: x3 :: x4 :: x5 :: x6 :: x7 :: x8 :: x9 :: x10 :: x11 :: x12 :: x13 :: x14 :: x15 :: some (.null) :: tl) st) : V K Qf T N P I R kc ks pc (x0 :: x1 :: x2 :: x3 :: x4 :: x5 :: x6 :: x7 :: x8 :: x9 :: x10 :: x11 :: x12 :: x13 :: x14 :: x15 :: o :: tl) (.null :: st) := by
  subst hn
  exact fun H locs LS h1 h2 h3 => lv_astoreN K.x K.hb d h3.has hl rfl (fun LS' h4 => k H locs LS' h1 h2 (zL.stored rfl (Or.inr (fun q h => by cases h; exact hp)) h4))
theorem v_iinc_16 {x0 x1 x2 x3 x4 x5 x6 x7 x8 x9 x10 x11 x12 x13 x14 x15 : Option Value} {tl : List (Option Value)} {a b : Int32} {m : Int} (d : decode cc pc = .ok (.iinc 16 m, 3)) (hv : a + Int32.ofInt m = b) (hp : zpv x15 = true) (hl : 16 < nL) (hn : pc + 3 = n) (k : V K Qf T N P I R kc ks n (x0 :: x1 :: x2 :: x3 :: x4 :: x5 :: x6 :: x7 :: x8 :: x9 :: x10 :: x11 :: x12 :: x13 :: x14 :: x15 :: some (.int b) :: tl) st) : V K Qf T N P I R kc ks pc (x0 :: x1 :: x2 :: x3 :: x4 :: x5 :: x6 :: x7 :: x8 :: x9 :: x10 :: x11 :: x12 :: x13 :: x14 :: x15 :: some (.int a) :: tl) st := by
  subst hn
  intro H locs LS h1 h2 h3
  obtain ⟨j, hj⟩ := List.getElem?_of_mem ((zpr_mem (x0 :: x1 :: x2 :: x3 :: x4 :: x5 :: x6 :: x7 :: x8 :: x9 :: x10 :: x11 :: x12 :: x13 :: x14 :: x15 :: some (.int a) :: tl) 0 16 (.int a)).mpr ⟨16, rfl, rfl⟩)
  exact lv_iinc K.x K.hb d h3.has hj hv hl rfl (fun LS' h4 => k H locs LS' h1 h2 (zL.stored rfl (Or.inr (fun q h => by cases h; exact hp)) h4))
theorem v_iload_17 {x0 x1 x2 x3 x4 x5 x6 x7 x8 x9 x10 x11 x12 x13 x14 x15 x16 : Option Value} {tl : List (Option Value)} {a : Int32} (d : decode cc pc = .ok (.iload 17, 2)) (hn : pc + 2 = n) (k : V K Qf T N P I R kc ks n (x0 :: x1 :: x2 :: x3 :: x4 :: x5 :: x6 :: x7 :: x8 :: x9 :: x10 :: x11 :: x12 :: x13 :: x14 :: x15 :: x16 :: some (.int a) :: tl) (.int a :: st)) : V K Qf T N P I R kc ks pc (x0 :: x1 :: x2 :: x3 :: x4 :: x5 :: x6 :: x7 :: x8 :: x9 :: x10 :: x11 :: x12 :: x13 :: x14 :: x15 :: x16 :: some (.int a) :: tl) st := by
  subst hn
  exact fun H locs LS h1 h2 h3 => lv_iload K.x K.hb d (h3.2.2 17 (.int a) rfl) (k H locs LS h1 h2 h3)
theorem v_aload_17 {x0 x1 x2 x3 x4 x5 x6 x7 x8 x9 x10 x11 x12 x13 x14 x15 x16 : Option Value} {tl : List (Option Value)} {a : Nat} (d : decode cc pc = .ok (.aload 17, 2)) (hn : pc + 2 = n) (k : V K Qf T N P I R kc ks n (x0 :: x1 :: x2 :: x3 :: x4 :: x5 :: x6 :: x7 :: x8 :: x9 :: x10 :: x11 :: x12 :: x13 :: x14 :: x15 :: x16 :: some (.ref a) :: tl) (.ref a :: st)) : V K Qf T N P I R kc ks pc (x0 :: x1 :: x2 :: x3 :: x4 :: x5 :: x6 :: x7 :: x8 :: x9 :: x10 :: x11 :: x12 :: x13 :: x14 :: x15 :: x16 :: some (.ref a) :: tl) st := by
  subst hn
  exact fun H locs LS h1 h2 h3 => lv_aload K.x K.hb d (h3.2.2 17 (.ref a) rfl) (k H locs LS h1 h2 h3)
theorem v_aloadN_17 {x0 x1 x2 x3 x4 x5 x6 x7 x8 x9 x10 x11 x12 x13 x14 x15 x16 : Option Value} {tl : List (Option Value)} (d : decode cc pc = .ok (.aload 17, 2)) (hn : pc + 2 = n) (k : V K Qf T N P I R kc ks n (x0 :: x1 :: x2 :: x3 :: x4 :: x5 :: x6 :: x7 :: x8 :: x9 :: x10 :: x11 :: x12 :: x13 :: x14 :: x15 :: x16 :: some .null :: tl) (.null :: st)) : V K Qf T N P I R kc ks pc (x0 :: x1 :: x2 :: x3 :: x4 :: x5 :: x6 :: x7 :: x8 :: x9 :: x10 :: x11 :: x12 :: x13 :: x14 :: x15 :: x16 :: some .null :: tl) st := by
  subst hn
  exact fun H locs LS h1 h2 h3 => lv_aloadN K.x K.hb d (h3.2.2 17 .null rfl) (k H locs LS h1 h2 h3)
theorem v_istore_17 {x0 x1 x2 x3 x4 x5 x6 x7 x8 x9 x10 x11 x12 x13 x14 x15 x16 : Option Value} {o : Option Value} {tl : List (Option Value)} {a : Int32} (d : decode cc pc = .ok (.istore 17, 2)) (hp : zpv x16 = true) (hl : 17 < nL) (hn : pc + 2 = n) (k : V K Qf T N P I R kc ks n (x0 :: x1 :: x2 :: x3 :: x4 :: x5 :: x6 :: x7 :: x8 :: x9 :: x10 :: x11 :: x12 :: x13 :: x14 :: x15 :: x16 :: some (.int a) :: tl) st) : V K Qf T N P I R kc ks pc (x0 :: x1 :: x2 :: x3 :: x4 :: x5 :: x6 :: x7 :: x8 :: x9 :: x10 :: x11 :: x12 :: x13 :: x14 :: x15 :: x16 :: o :: tl) (.int a :: st) := by
  subst hn
  exact fun H locs LS h1 h2 h3 => lv_istore K.x K.hb d h3.has hl rfl (fun LS' h4 => k H locs LS' h1 h2 (zL.stored rfl (Or.inr (fun q h => by cases h; exact hp)) h4))
theorem v_astore_17 {x0 x1 x2 x3 x4 x5 x6 x7 x8 x9 x10 x11 x12 x13 x14 x15 x16 : Option Value} {o : Option Value} {tl : List (Option Value)} {a : Nat} (d : decode cc pc = .ok (.astore 17, 2)) (hp : zpv x16 = true) (hl : 17 < nL) (hn : pc + 2 = n) (k : V K Qf T N P I R kc ks n (x0 :: x1 :: x2 :: x3 :: x4 :: x5 :: x6 :: x7 :: x8 :: x9 :: x10 :: x11 :: x12 :: x13 :: x14 :: x15 :: x16 :: some (.ref a) :: tl) st) : V K Qf T N P I R kc ks pc (x0 :: x1 :: x2 :: x3 :: x4 :: x5 :: x6 :: x7 :: x8 :: x9 :: x10 :: x11 :: x12 :: x13 :: x14 :: x15 :: x16 :: o :: tl) (.ref a :: st) := by
  subst hn
  exact fun H locs LS h1 h2 h3 => lv_astore K.x K.hb d h3.has hl rfl (fun LS' h4 => k H locs LS' h1 h2 (zL.stored rfl (Or.inr (fun q h => by cases h; exact hp)) h4))
theorem v_astoreN_17 {x0 x1 x2 x3 x4 x5 x6 x7 x8 x9 x10 x11 x12 x13 x14 x15 x16 : Option Value} {o : Option Value} {tl : List (Option Value)}  (d : decode cc pc = .ok (.astore 17, 2)) (hp : zpv x16 = true) (hl : 17 < nL) (hn : pc + 2 = n) (k : V K Qf T N P I R kc ks n (x0 :: x1 :: x2 :: x3 :: x4 :: x5 :: x6 :: x7 :: x8 :: x9 :: x10 :: x11 :: x12 :: x13 :: x14 :: x15 :: x16 :: some (.null) :: tl) st) : V K Qf T N P I R kc ks pc (x0 :: x1 :: x2 :: x3 :: x4 :: x5 :: x6 :: x7 :: x8 :: x9 :: x10 :: x11 :: x12 :: x13 :: x14 :: x15 :: x16 :: o :: tl) (.null :: st) := by
  subst hn
  exact fun H locs LS h1 h2 h3 => lv_astoreN K.x K.hb d h3.has hl rfl (fun LS' h4 => k H locs LS' h1 h2 (zL.stored rfl (Or.inr (fun q h => by cases h; exact hp)) h4))
theorem v_iinc_17 {x0 x1 x2 x3 x4 x5 x6 x7 x8 x9 x10 x11 x12 x13 x14 x15 x16 : Option Value} {tl : List (Option Value)} {a b : Int32} {m : Int} (d : decode cc pc = .ok (.iinc 17 m, 3)) (hv : a + Int32.ofInt m = b) (hp : zpv x16 = true) (hl : 17 < nL) (hn : pc + 3 = n) (k : V K Qf T N P I R kc ks n (x0 :: x1 :: x2 :: x3 :: x4 :: x5 :: x6 :: x7 :: x8 :: x9 :: x10 :: x11 :: x12 :: x13 :: x14 :: x15 :: x16 :: some (.int b) :: tl) st) : V K Qf T N P I R kc ks pc (x0 :: x1 :: x2 :: x3 :: x4 :: x5 :: x6 :: x7 :: x8 :: x9 :: x10 :: x11 :: x12 :: x13 :: x14 :: x15 :: x16 :: some (.int a) :: tl) st := by
  subst hn
  intro H locs LS h1 h2 h3
  obtain ⟨j, hj⟩ := List.getElem?_of_mem ((zpr_mem (x0 :: x1 :: x2 :: x3 :: x4 :: x5 :: x6 :: x7 :: x8 :: x9 :: x10 :: x11 :: x12 :: x13 :: x14 :: x15 :: x16 :: some (.int a) :: tl) 0 17 (.int a)).mpr ⟨17, rfl, rfl⟩)
  exact lv_iinc K.x K.hb d h3.has hj hv hl rfl (fun LS' h4 => k H locs LS' h1 h2 (zL.stored rfl (Or.inr (fun q h => by cases h; exact hp)) h4))
theorem v_lload_1 {x0 : Option Value} {tl : List (Option Value)} {a : Int64} (d : decode cc pc = .ok (.lload_n 1, 1)) (hn : pc + 1 = n) (k : V K Qf T N P I R kc ks n (x0 :: some (.long a) :: tl) (.long a :: st)) : V K Qf T N P I R kc ks pc (x0 :: some (.long a) :: tl) st := by
  subst hn
  exact fun H locs LS h1 h2 h3 => lv_lload_n K.x K.hb d rfl (h3.2.2 1 (.long a) rfl) (k H locs LS h1 h2 h3)
end zrule
end
section
/-! rules of V for the heap's instructions -/
/-- what is known of a field as its instruction names it: its class's number, its place, final, its type -/
def zFl (own : String) (idx ci k : Nat) (fin : Bool) (ty : FieldType) : Prop := ∃ (C : String) (F : u_T) (ty0 : Nat → FieldType), vwCl[ci]? = some (C, F, zn ci) ∧ (∀ w ∈ u_ws C F (zn ci), w ∈ lw_tbl) ∧ (∀ j, j < zn ci → parseFieldDescriptor (F j).2.2.1 = some (ty0 j)) ∧ (∀ a, a < zn ci → ∀ b, b < zn ci → a ≠ b → (F a).2.1 ≠ (F b).2.1) ∧ k < zn ci ∧
  (Cond.fieldLink own idx (F k).1 (F k).2.1 (F k).2.2.1 ∈ lw_tbl ∨ ∃ host : String, Cond.fieldLinkNest own idx (F k).1 (F k).2.1 (F k).2.2.1 host ∈ lw_tbl) ∧ (F k).2.2.2 = fin ∧ parseFieldDescriptor (F k).2.2.1 = some ty ∧ (fin = true → (F k).1 = own ∧ Cond.fieldLink own idx (F k).1 (F k).2.1 (F k).2.2.1 ∈ lw_tbl)
def zFg (own : String) (idx ci k : Nat) : Prop := ∃ (C : String) (F : u_T), vwCl[ci]? = some (C, F, zn ci) ∧ (∀ w ∈ u_ws C F (zn ci), w ∈ lw_tbl) ∧ k < zn ci ∧ (Cond.fieldLink own idx (F k).1 (F k).2.1 (F k).2.2.1 ∈ lw_tbl ∨ ∃ host : String, Cond.fieldLinkNest own idx (F k).1 (F k).2.1 (F k).2.2.1 host ∈ lw_tbl)
theorem zlay_ok {C : String} {F : u_T} {n : Nat} {w : Cond} (h : w ∈ u_ws C F n) : zOk w = true := by
  obtain ⟨k, -, rfl⟩ := List.mem_map.mp h
  unfold u_lay
  split <;> rfl
section zheap
variable {E : zE} {y : MethodName} {cc : ByteArray} {nL : Nat} {ret : Option FieldType} {rm : Room} {K : zK E y cc nL ret rm} {Qf : State → Prop} {T : zT} {N : zN} {P : zP} {I : zI} {R : zR} {kc ks pc n : Nat} {ls : List (Option Value)} {st : List Value}
variable {a ci k idx : Nat} {fin : Bool} {ty : FieldType}
theorem zK.lays (K : zK E y cc nL ret rm) {C : String} {F : u_T} {n : Nat} (h : ∀ w ∈ u_ws C F n, w ∈ lw_tbl) : ∀ w ∈ u_ws C F n, w.before K.1.a K.1.s = true := fun w hw => K.wd (h w hw) (zlay_ok hw)
theorem zcell_obj {kA : Nat → ClassId} (hT : (T a).1 = 10 + ci) (hci : ci < 20) : zcell kA T N P I R a = some (.inr (ci, zF N P ci a)) := by
  unfold zcell
  rw [hT, if_neg (by omega), if_neg (by omega), if_pos (by omega), show 10 + ci - 10 = ci by omega]
theorem zcell_num {kA : Nat → ClassId} {t len : Nat} (hT : T a = (t, len)) (h0 : t ≠ 0) (h1 : t < 10) : zcell kA T N P I R a = some (.inl (kA t, len, .inl (I a))) := by
  unfold zcell
  rw [hT, if_neg h0, if_pos h1]
theorem zcell_ref {kA : Nat → ClassId} {t len : Nat} (hT : T a = (t, len)) (h1 : 30 ≤ t) : zcell kA T N P I R a = some (.inl (kA t, len, .inr (.inr (.inr (.inr (R a)))))) := by
  unfold zcell
  rw [hT]
  show (if t = 0 then none else if t < 10 then _ else if t < 30 then _ else _) = _
  rw [if_neg (by omega), if_neg (by omega), if_neg (by omega)]
theorem zcell_congr {kA : Nat → ClassId} {T' : zT} {N' : zN} {P' : zP} {I' : zI} {R' : zR} {b : Nat} (h1 : T' b = T b) (h2 : ∀ c, zF N' P' c b = zF N P c b) (h3 : I' b = I b) (h4 : R' b = R b) : zcell kA T' N' P' I' R' b = zcell kA T N P I R b := by
  unfold zcell
  rw [h1, h2, h3, h4]
theorem v_get {t : Nat} (hf : zFg y.cls idx ci k) (hci : ci < 20) (hT : (T a).1 = t) (ht : t = 10 + ci) {v : Value} (hv : (if zr ci k = true then va_rf (P ci k a) else Value.int (N ci k a)) = v) (d : decode cc pc = .ok (.getfield idx, 3)) (hn : pc + 3 = n)
    (kk : V K Qf T N P I R kc ks n ls (v :: st)) : V K Qf T N P I R kc ks pc ls (.ref a :: st) := by
  subst hn; subst ht
  intro H locs LS h1 h2 h3
  obtain ⟨ws, g1, g2, g3⟩ := id h1
  obtain ⟨C, F, f1, f2, f5, f6⟩ := hf
  obtain ⟨q, hq⟩ := g3 a _ (zcell_obj hT hci)
  have hv' : (zF N P ci a)[k]? = some v := by rw [zF_get f5, hv]
  rcases f6 with f6 | ⟨host, f6⟩
  · exact va_get K.x K.hb (K.lays f2) (fun _ h => h) K.ho K.kk g1 q hq f1 k f5 (K.wd f6 rfl) (fun _ h => h) hv' d (kk H locs LS h1 h2 h3)
  · exact va_getN K.x K.hb (K.lays f2) (fun _ h => h) K.ho K.kk g1 q hq f1 k f5 (K.wd f6 rfl) (fun _ h => h) hv' d (kk H locs LS h1 h2 h3)
theorem v_getN {t : Nat} (hf : zFg y.cls idx ci k) (hT : (T a).1 = t) (ht : t = 10 + ci) (hci : ci < 20) (hz : zr ci k = false) (d : decode cc pc = .ok (.getfield idx, 3)) (hn : pc + 3 = n)
    (kk : V K Qf T N P I R kc ks n ls (.int (N ci k a) :: st)) : V K Qf T N P I R kc ks pc ls (.ref a :: st) := v_get hf hci hT ht (by rw [hz]; rfl) d hn kk
theorem v_getP {t b : Nat} (hf : zFg y.cls idx ci k) (hb : P ci k a = some b) (hT : (T a).1 = t) (ht : t = 10 + ci) (hci : ci < 20) (hz : zr ci k = true) (d : decode cc pc = .ok (.getfield idx, 3)) (hn : pc + 3 = n)
    (kk : V K Qf T N P I R kc ks n ls (.ref b :: st)) : V K Qf T N P I R kc ks pc ls (.ref a :: st) := v_get hf hci hT ht (by rw [hz, hb]; rfl) d hn kk
theorem v_getP0 {t : Nat} (hf : zFg y.cls idx ci k) (hb : P ci k a = none) (hT : (T a).1 = t) (ht : t = 10 + ci) (hci : ci < 20) (hz : zr ci k = true) (d : decode cc pc = .ok (.getfield idx, 3)) (hn : pc + 3 = n)
    (kk : V K Qf T N P I R kc ks n ls (.null :: st)) : V K Qf T N P I R kc ks pc ls (.ref a :: st) := v_get hf hci hT ht (by rw [hz, hb]; rfl) d hn kk
theorem v_put_core (hf : zFl y.cls idx ci k fin ty) (hci : ci < 20) (hT : (T a).1 = 10 + ci) (hi : fin = true → y.name = "<init>") {v : Value} (hn1 : narrow ty v = v) (hn2 : fits ty v = true) (d : decode cc pc = .ok (.putfield idx, 3)) (hn : pc + 3 = n) {N' : zN} {P' : zP} (hs : (zF N P ci a).set k v = zF N' P' ci a) (ho : ∀ b, b ≠ a → ∀ c, zF N' P' c b = zF N P c b)
    (kk : V K Qf T N' P' I R kc ks n ls st) : V K Qf T N P I R kc ks pc ls (v :: .ref a :: st) := by
  subst hn
  intro H locs LS h1 h2 h3
  obtain ⟨ws, g1, g2, g3⟩ := id h1
  obtain ⟨C, F, ty0, f1, f2, f3, f4, f5, f6, f7, f8, f9⟩ := hf
  obtain ⟨q, hq⟩ := g3 a _ (zcell_obj hT hci)
  have fin' : ∀ (H1 : Heap) (locs1 : List Loc), va_P E.1 vwCl (ws.set q (a, .inr (ci, (zF N P ci a).set k v))) H1 → va_D (zA E) (ws.set q (a, .inr (ci, (zF N P ci a).set k v))) → va_S (zA E) K.1.s.heap H1 locs1 → W K.1.p K.1.l K.1.e K.1.R K.1.s K.1.m K.1.a K.1.b K.1.t K.1.c H1 locs1 kc ks Qf (F0 K.1.m (pc + 3) LS st) := by
    intro H1 locs1 p1 p2 p3
    rw [hs] at p1 p2
    exact kk H1 locs1 LS ⟨_, p1, p2, g3.set hq (zcell_obj hT hci) (fun b hb => zcell_congr rfl (ho b hb) rfl rfl)⟩ p3 h3
  cases hfi : fin with
  | false =>
    rcases f6 with f6 | ⟨host, f6⟩
    · exact va_put K.x K.hb (K.lays f2) (fun _ h => h) ty0 f3 f4 K.ho K.kk g1 g2 h2 q hq f1 k f5 (K.wd f6 rfl) (fun _ h => h) (f7.trans hfi) f8 hn1 hn2 (by rw [zF_len]; exact f5) d fin'
    · exact va_putN K.x K.hb (K.lays f2) (fun _ h => h) ty0 f3 f4 K.ho K.kk g1 g2 h2 q hq f1 k f5 (K.wd f6 rfl) (fun _ h => h) (f7.trans hfi) f8 hn1 hn2 (by rw [zF_len]; exact f5) d fin'
  | true => exact va_putF K.x K.hb (K.lays f2) (fun _ h => h) ty0 f3 f4 K.ho K.kk g1 g2 h2 q hq f1 k f5 (K.wd (f9 hfi).2 rfl) (fun _ h => h) (f7.trans hfi) (K.hn.trans (hi hfi)) (f9 hfi).1 f8 hn1 hn2 (by rw [zF_len]; exact f5) d fin'
theorem v_putN {t : Nat} {x : Int32} (hf : zFl y.cls idx ci k fin ty) (hT : (T a).1 = t) (ht : t = 10 + ci) (hci : ci < 20) (hz : zr ci k = false) (hi : fin = true → y.name = "<init>") (hn1 : narrow ty (.int x) = .int x) (hn2 : fits ty (.int x) = true) (d : decode cc pc = .ok (.putfield idx, 3)) (hn : pc + 3 = n)
    (kk : V K Qf T (u3 N ci k a x) P I R kc ks n ls st) : V K Qf T N P I R kc ks pc ls (.int x :: .ref a :: st) := by
  subst ht
  exact v_put_core hf hci hT hi hn1 hn2 d hn (zF_setN hz) (fun _ hb _ => zF_neN hb) kk
theorem v_putP {t b : Nat} (hf : zFl y.cls idx ci k fin ty) (hT : (T a).1 = t) (ht : t = 10 + ci) (hci : ci < 20) (hz : zr ci k = true) (hi : fin = true → y.name = "<init>") (hn1 : narrow ty (.ref b) = .ref b) (hn2 : fits ty (.ref b) = true) (d : decode cc pc = .ok (.putfield idx, 3)) (hn : pc + 3 = n)
    (kk : V K Qf T N (u3 P ci k a (some b)) I R kc ks n ls st) : V K Qf T N P I R kc ks pc ls (.ref b :: .ref a :: st) := by
  subst ht
  exact v_put_core hf hci hT hi hn1 hn2 d hn (zF_setP (x := some b) hz) (fun _ hb _ => zF_neP hb) kk
-- arrays
variable {len j : Nat} {i x : Int32}
theorem v_iald (hT : T a = (1, len)) (hi : i = nI j) (hj : j < len) (hl : len < 2 ^ 31) (d : decode cc pc = .ok (.iaload, 1)) (hn : pc + 1 = n) (kk : V K Qf T N P I R kc ks n ls (.int (I a j) :: st)) : V K Qf T N P I R kc ks pc ls (.int i :: .ref a :: st) := by
  subst hn
  intro H locs LS h1 h2 h3
  obtain ⟨ws, g1, g2, g3⟩ := id h1
  obtain ⟨q, hq⟩ := g3 a _ (zcell_num hT (by decide) (by decide))
  subst hi
  refine va_iald K.x K.hb K.kk g1 q 0 hq rfl (vp_in_nI hj hl) d ?_
  rw [nI_clamp (by omega)]
  exact kk H locs LS h1 h2 h3
theorem v_zald (hT : T a = (2, len)) (hi : i = nI j) (hj : j < len) (hl : len < 2 ^ 31) (d : decode cc pc = .ok (.baload, 1)) (hn : pc + 1 = n) (kk : V K Qf T N P I R kc ks n ls (.int (I a j) :: st)) : V K Qf T N P I R kc ks pc ls (.int i :: .ref a :: st) := by
  subst hn
  intro H locs LS h1 h2 h3
  obtain ⟨ws, g1, g2, g3⟩ := id h1
  obtain ⟨q, hq⟩ := g3 a _ (zcell_num hT (by decide) (by decide))
  subst hi
  refine va_zald K.x K.hb K.kk g1 q 1 hq rfl (vp_in_nI hj hl) d ?_
  rw [nI_clamp (by omega)]
  exact kk H locs LS h1 h2 h3
theorem v_bald (hT : T a = (3, len)) (hi : i = nI j) (hj : j < len) (hl : len < 2 ^ 31) (d : decode cc pc = .ok (.baload, 1)) (hn : pc + 1 = n) (kk : V K Qf T N P I R kc ks n ls (.int (I a j) :: st)) : V K Qf T N P I R kc ks pc ls (.int i :: .ref a :: st) := by
  subst hn
  intro H locs LS h1 h2 h3
  obtain ⟨ws, g1, g2, g3⟩ := id h1
  obtain ⟨q, hq⟩ := g3 a _ (zcell_num hT (by decide) (by decide))
  subst hi
  refine va_bald K.x K.hb K.kk g1 q 2 hq rfl (vp_in_nI hj hl) d ?_
  rw [nI_clamp (by omega)]
  exact kk H locs LS h1 h2 h3
theorem zI_set {t : Nat} {f : Nat → Int32} {ws : va_W} {q : Nat} {e0 : va_E} (g3 : zCov E T N P I R ws) (hT : T a = (t, len)) (h0 : t ≠ 0) (h1 : t < 10) (hq : ws[q]? = some (a, e0)) (I' : zI) (ha : I' a = f) (ho : ∀ b, b ≠ a → I' b = I b) : zCov E T N P I' R (ws.set q (a, .inl (E.2.1 t, len, .inl f))) :=
  g3.set hq (by rw [zcell_num hT h0 h1, ha]) (fun b hb => zcell_congr rfl (fun _ => rfl) (ho b hb) rfl)
theorem u2_at (f : Nat → Nat → Int32) (v : Int32) : u2 f a j v a = upd (f a) j v := by
  funext q
  simp [u2, upd]
theorem u2_off {α : Type} (f : Nat → Nat → α) (v : α) {b : Nat} (h : b ≠ a) : u2 f a j v b = f b := by
  funext q
  simp [u2, h]
theorem v_iast (hT : T a = (1, len)) (hi : i = nI j) (hj : j < len) (hl : len < 2 ^ 31) (d : decode cc pc = .ok (.iastore, 1)) (hn : pc + 1 = n) (kk : V K Qf T N P (u2 I a j x) R kc ks n ls st) : V K Qf T N P I R kc ks pc ls (.int x :: .int i :: .ref a :: st) := by
  subst hn
  intro H locs LS h1 h2 h3
  obtain ⟨ws, g1, g2, g3⟩ := id h1
  obtain ⟨q, hq⟩ := g3 a _ (zcell_num hT (by decide) (by decide))
  subst hi
  refine va_iast K.x K.hb K.kk g1 g2 h2 q 0 hq rfl (vp_in_nI hj hl) d fun H1 locs1 p1 p2 p3 => ?_
  rw [nI_clamp (by omega)] at p1 p2
  exact kk H1 locs1 LS ⟨_, p1, p2, zI_set g3 hT (by decide) (by decide) hq _ (u2_at I x) (fun b hb => u2_off I x hb)⟩ p3 h3
theorem v_zast {x' : Int32} (hT : T a = (2, len)) (hi : i = nI j) (hj : j < len) (hl : len < 2 ^ 31) (hx : vp_nar .boolean x = x') (d : decode cc pc = .ok (.bastore, 1)) (hn : pc + 1 = n) (kk : V K Qf T N P (u2 I a j x') R kc ks n ls st) : V K Qf T N P I R kc ks pc ls (.int x :: .int i :: .ref a :: st) := by
  subst hn
  intro H locs LS h1 h2 h3
  obtain ⟨ws, g1, g2, g3⟩ := id h1
  obtain ⟨q, hq⟩ := g3 a _ (zcell_num hT (by decide) (by decide))
  subst hi; subst hx
  refine va_zast K.x K.hb K.kk g1 g2 h2 q 1 hq rfl (vp_in_nI hj hl) d fun H1 locs1 p1 p2 p3 => ?_
  rw [nI_clamp (by omega)] at p1 p2
  exact kk H1 locs1 LS ⟨_, p1, p2, zI_set g3 hT (by decide) (by decide) hq _ (u2_at I _) (fun b hb => u2_off I _ hb)⟩ p3 h3
theorem v_bast {x' : Int32} (hT : T a = (3, len)) (hi : i = nI j) (hj : j < len) (hl : len < 2 ^ 31) (hx : vp_nar .byte x = x') (d : decode cc pc = .ok (.bastore, 1)) (hn : pc + 1 = n) (kk : V K Qf T N P (u2 I a j x') R kc ks n ls st) : V K Qf T N P I R kc ks pc ls (.int x :: .int i :: .ref a :: st) := by
  subst hn
  intro H locs LS h1 h2 h3
  obtain ⟨ws, g1, g2, g3⟩ := id h1
  obtain ⟨q, hq⟩ := g3 a _ (zcell_num hT (by decide) (by decide))
  subst hi; subst hx
  refine va_bast K.x K.hb K.kk g1 g2 h2 q 2 hq rfl (vp_in_nI hj hl) d fun H1 locs1 p1 p2 p3 => ?_
  rw [nI_clamp (by omega)] at p1 p2
  exact kk H1 locs1 LS ⟨_, p1, p2, zI_set g3 hT (by decide) (by decide) hq _ (u2_at I _) (fun b hb => u2_off I _ hb)⟩ p3 h3
/-- where an array of objects of class ci stands among the arrays' types -/
def zti (ci t0 : Nat) (C : String) : Prop := ∀ kA : Nat → ClassId, (ztys kA)[t0]? = some (kA (30 + ci), .object C)
theorem v_aald {t0 : Nat} {C : String} (ht : zti ci t0 C) (hT : T a = (30 + ci, len)) (hi : i = nI j) (hj : j < len) (hl : len < 2 ^ 31) {b : Nat} (hb : R a j = some b) (d : decode cc pc = .ok (.aaload, 1)) (hn : pc + 1 = n) (kk : V K Qf T N P I R kc ks n ls (.ref b :: st)) : V K Qf T N P I R kc ks pc ls (.int i :: .ref a :: st) := by
  subst hn
  intro H locs LS h1 h2 h3
  obtain ⟨ws, g1, g2, g3⟩ := id h1
  obtain ⟨q, hq⟩ := g3 a _ (zcell_ref hT (by omega))
  subst hi
  refine va_aldq K.x K.hb K.kk g1 q t0 hq (ht _) (vp_in_nI hj hl) d ?_
  rw [nI_clamp (by omega), hb]
  exact kk H locs LS h1 h2 h3
theorem v_aaldN {t0 : Nat} {C : String} (ht : zti ci t0 C) (hT : T a = (30 + ci, len)) (hi : i = nI j) (hj : j < len) (hl : len < 2 ^ 31) (hb : R a j = none) (d : decode cc pc = .ok (.aaload, 1)) (hn : pc + 1 = n) (kk : V K Qf T N P I R kc ks n ls (.null :: st)) : V K Qf T N P I R kc ks pc ls (.int i :: .ref a :: st) := by
  subst hn
  intro H locs LS h1 h2 h3
  obtain ⟨ws, g1, g2, g3⟩ := id h1
  obtain ⟨q, hq⟩ := g3 a _ (zcell_ref hT (by omega))
  subst hi
  refine va_aldq K.x K.hb K.kk g1 q t0 hq (ht _) (vp_in_nI hj hl) d ?_
  rw [nI_clamp (by omega), hb]
  exact kk H locs LS h1 h2 h3
theorem u2_atR (f : Nat → Nat → Option Nat) (v : Option Nat) : u2 f a j v a = va_up (f a) j v := by
  funext q
  simp [u2, va_up]
theorem v_aast {t0 : Nat} {C : String} {F : u_T} {m : Nat} (ht : zti ci t0 C) (hc : vwCl[ci]? = some (C, F, m)) (hci : ci < 20) (hT : T a = (30 + ci, len)) (hi : i = nI j) (hj : j < len) (hl : len < 2 ^ 31) {b : Nat} (hb : (T b).1 = 10 + ci) (d : decode cc pc = .ok (.aastore, 1)) (hn : pc + 1 = n) (kk : V K Qf T N P I (u2 R a j (some b)) kc ks n ls st) : V K Qf T N P I R kc ks pc ls (.ref b :: .int i :: .ref a :: st) := by
  subst hn
  intro H locs LS h1 h2 h3
  obtain ⟨ws, g1, g2, g3⟩ := id h1
  obtain ⟨q, hq⟩ := g3 a _ (zcell_ref hT (by omega))
  obtain ⟨q2, hq2⟩ := g3 b _ (zcell_obj hb hci)
  subst hi
  refine va_astq (r := (C, F, m)) K.x K.hb K.kk g1 g2 h2 q t0 q2 ci hq (ht _) hq2 hc (vp_in_nI hj hl) d fun H1 locs1 p1 p2 p3 => ?_
  rw [nI_clamp (by omega)] at p1 p2
  exact kk H1 locs1 LS ⟨_, p1, p2, g3.set hq (by rw [zcell_ref hT (by omega), u2_atR]) (fun b hb => zcell_congr rfl (fun _ => rfl) rfl (u2_off R _ hb))⟩ p3 h3
theorem v_aastN {t0 : Nat} {C : String} (ht : zti ci t0 C) (hT : T a = (30 + ci, len)) (hi : i = nI j) (hj : j < len) (hl : len < 2 ^ 31) (d : decode cc pc = .ok (.aastore, 1)) (hn : pc + 1 = n) (kk : V K Qf T N P I (u2 R a j none) kc ks n ls st) : V K Qf T N P I R kc ks pc ls (.null :: .int i :: .ref a :: st) := by
  subst hn
  intro H locs LS h1 h2 h3
  obtain ⟨ws, g1, g2, g3⟩ := id h1
  obtain ⟨q, hq⟩ := g3 a _ (zcell_ref hT (by omega))
  subst hi
  refine va_astqN K.x K.hb K.kk g1 g2 h2 q t0 hq (ht _) (vp_in_nI hj hl) d fun H1 locs1 p1 p2 p3 => ?_
  rw [nI_clamp (by omega)] at p1 p2
  exact kk H1 locs1 LS ⟨_, p1, p2, g3.set hq (by rw [zcell_ref hT (by omega), u2_atR]) (fun b hb => zcell_congr rfl (fun _ => rfl) rfl (u2_off R _ hb))⟩ p3 h3
theorem v_alenN {t : Nat} (hT : T a = (t, len)) (ht : t = 1 ∨ t = 2 ∨ t = 3) (d : decode cc pc = .ok (.arraylength, 1)) (hn : pc + 1 = n) (kk : V K Qf T N P I R kc ks n ls (.int (nI len) :: st)) : V K Qf T N P I R kc ks pc ls (.ref a :: st) := by
  subst hn
  intro H locs LS h1 h2 h3
  obtain ⟨ws, g1, g2, g3⟩ := id h1
  obtain ⟨q, hq⟩ := g3 a _ (zcell_num hT (by omega) (by omega))
  rcases ht with rfl | rfl | rfl
  · exact va_alen K.x K.hb K.kk g1 q 0 hq rfl rfl d (kk H locs LS h1 h2 h3)
  · exact va_alen K.x K.hb K.kk g1 q 1 hq rfl rfl d (kk H locs LS h1 h2 h3)
  · exact va_alen K.x K.hb K.kk g1 q 2 hq rfl rfl d (kk H locs LS h1 h2 h3)
theorem v_new {C : String} {F : u_T} {t0 : Nat → FieldType} (hc : vwCl[ci]? = some (C, F, zn ci)) (hci : ci < 20) (hws : ∀ w ∈ u_ws C F (zn ci), w ∈ lw_tbl) (hty : ∀ j, j < zn ci → parseFieldDescriptor (F j).2.2.1 = some (t0 j)) (hdv : ∀ j, j < zn ci → defaultValue (t0 j) = if zr ci j = true then .null else .int 0)
    (hl : Cond.classLink y.cls idx C ∈ lw_tbl) (hin : Cond.instantiable C (zn ci) ∈ lw_tbl) (hini : Cond.initialized C ∈ lw_tbl) (hcc : kc + 1 ≤ rm.cells) (hss : ks + zn ci ≤ rm.slots) (d : decode cc pc = .ok (.new idx, 3)) (hn : pc + 3 = n)
    (kk : ∀ q : Nat, (T q).1 = 0 → V K Qf (u1 T q (10 + ci, 0)) (uo N ci q 0) (uo P ci q none) I R (kc + 1) (ks + zn ci) n ls (.ref q :: st)) : V K Qf T N P I R kc ks pc ls st := by
  subst hn
  intro H locs LS h1 h2 h3
  obtain ⟨ws, g1, g2, g3⟩ := id h1
  refine va_new (fs := (List.range (zn ci)).map fun j => if zr ci j = true then .null else .int 0) K.x K.hb (K.lays hws) (fun _ h => h) t0 hty K.ho (K.wd hl rfl) (K.wd hin rfl) (K.wd hini rfl) K.kk g1 g2 h2 K.aa hc (fun j hj => ?_) (by rw [K.hR]; exact hcc) (by rw [K.hR]; exact hss) d fun q H1 p1 p2 p3 => ?_
  · rw [hdv j hj]
    simp [vp_V, List.getD, List.getElem?_map, List.getElem?_range hj]
  · have hq := g3.fresh p2
    refine kk q hq H1 locs LS ⟨_, p1, p2, ?_⟩ p3 h3
    have e1 : zF (uo N ci q 0) (uo P ci q none) ci q = (List.range (zn ci)).map fun j => if zr ci j = true then Value.null else .int 0 := by
      apply List.map_congr_left
      intro k _
      simp [uo, va_rf]
    exact g3.push (by rw [zcell_obj (ci := ci) (by simp [u1]) hci, e1]) (fun b hb => zcell_congr (by simp [u1, hb]) (fun c => zF_new hb) rfl rfl)
theorem v_newa {atype : ArrayType} {t : Nat} {ft : FieldType} (hat : newarray.typeOf atype = ft) (htt : (t = 1 ∧ ft = .int) ∨ (t = 2 ∧ ft = .boolean) ∨ (t = 3 ∧ ft = .byte)) (hac : Cond.arrayClass ft ∈ lw_tbl) (hi : i = nI j) (hj : j < 2 ^ 20) (hcc : kc + 1 ≤ rm.cells) (hss : ks + j ≤ rm.slots) (d : decode cc pc = .ok (.newarray atype, 2)) (hn : pc + 2 = n)
    (kk : ∀ q : Nat, (T q).1 = 0 → V K Qf (u1 T q (t, j)) N P (u1 I q (fun _ => 0)) R (kc + 1) (ks + j) n ls (.ref q :: st)) : V K Qf T N P I R kc ks pc ls (.int i :: st) := by
  subst hn; subst hi
  intro H locs LS h1 h2 h3
  obtain ⟨ws, g1, g2, g3⟩ := id h1
  have hcb : componentBytes ft ≤ 8 := by rcases htt with ⟨-, rfl⟩ | ⟨-, rfl⟩ | ⟨-, rfl⟩ <;> decide
  have hdv : defaultValue ft = .int 0 := by rcases htt with ⟨-, rfl⟩ | ⟨-, rfl⟩ | ⟨-, rfl⟩ <;> rfl
  refine va_newa (a0 := (j, .inl (fun _ => 0))) (N' := j) K.x K.hb (by rw [hat]; exact K.wd hac rfl) hat K.kk g1 g2 h2 K.aa (fun cA => by rw [hdv]; rfl) (nI_pos (by omega)) (nI_clamp (by omega)) (by
    have : j * componentBytes ft ≤ 1048576 * 8 := Nat.mul_le_mul (by omega) hcb
    omega) (by rw [K.hR]; exact hcc) (by rw [K.hR]; exact hss) d fun q cA H1 pk p1 p2 p3 => ?_
  have hq := g3.fresh p2
  have hcA : cA = E.2.1 t := by
    have e1 := (pk.2 8 (cA, ft) rfl).2
    rcases htt with ⟨rfl, rfl⟩ | ⟨rfl, rfl⟩ | ⟨rfl, rfl⟩
    · exact Option.some.inj (e1.symm.trans (K.kk.2 0 _ rfl).2)
    · exact Option.some.inj (e1.symm.trans (K.kk.2 1 _ rfl).2)
    · exact Option.some.inj (e1.symm.trans (K.kk.2 2 _ rfl).2)
  subst hcA
  have ht0 : t ≠ 0 ∧ t < 10 := by rcases htt with ⟨rfl, -⟩ | ⟨rfl, -⟩ | ⟨rfl, -⟩ <;> decide
  exact kk q hq H1 locs LS ⟨_, p1, p2, g3.push (by rw [zcell_num (t := t) (len := j) (by simp [u1]) ht0.1 ht0.2]; simp [u1]) (fun b hb => zcell_congr (by simp [u1, hb]) (fun _ => rfl) (by simp [u1, hb]) rfl)⟩ p3 h3
theorem v_newq {t0 : Nat} {C : String} (ht : zti ci t0 C) (hl : Cond.classLink y.cls idx C ∈ lw_tbl) (hao : Cond.arrayOver (.object C) ∈ lw_tbl) (hi : i = nI j) (hj : j < 2 ^ 20) (hcc : kc + 1 ≤ rm.cells) (hss : ks + j ≤ rm.slots) (d : decode cc pc = .ok (.anewarray idx, 3)) (hn : pc + 3 = n)
    (kk : ∀ q : Nat, (T q).1 = 0 → V K Qf (u1 T q (30 + ci, j)) N P I (u1 R q (fun _ => none)) (kc + 1) (ks + j) n ls (.ref q :: st)) : V K Qf T N P I R kc ks pc ls (.int i :: st) := by
  subst hn; subst hi
  intro H locs LS h1 h2 h3
  obtain ⟨ws, g1, g2, g3⟩ := id h1
  refine va_newq (N' := j) K.x K.hb K.ho (K.wd hl rfl) (va_AO.of (K.wd hao rfl)) K.kk g1 g2 h2 K.aa (nI_pos (by omega)) (nI_clamp (by omega)) (by omega) (by rw [K.hR]; exact hcc) (by rw [K.hR]; exact hss) d fun q cA H1 pk p1 p2 p3 => ?_
  have hq := g3.fresh p2
  have hcA : cA = E.2.1 (30 + ci) := by
    obtain ⟨k1, c1, -, -, -, e1⟩ := (pk.2 8 (cA, .object C) rfl).2
    obtain ⟨k2, c2, -, -, -, e2⟩ := (K.kk.2 t0 _ (ht _)).2
    exact Option.some.inj (e1.symm.trans e2)
  subst hcA
  exact kk q hq H1 locs LS ⟨_, p1, p2, g3.push (by rw [zcell_ref (t := 30 + ci) (len := j) (by simp [u1]) (by omega)]; simp [u1]) (fun b hb => zcell_congr (by simp [u1, hb]) (fun _ => rfl) rfl (by simp [u1, hb]))⟩ p3 h3
end zheap
end
section
/-! returns and calls -/
/-- what is known of a method: its code, its class, how many parameters -/
def zY (y : MethodName) (cc : ByteArray) (nL : Nat) (ret : Option FieldType) (np : Nat) : Prop := Cond.code y cc nL ret ∈ lw_tbl ∧ Cond.initialized y.cls ∈ lw_tbl ∧ (y.cls ≠ "java/lang/invoke/MethodHandle" ∧ y.cls ≠ "java/lang/invoke/VarHandle") ∧ (parseMethodDescriptor y.desc).map (fun d => d.parameters.length) = some np
/-- how a class links it -/
def zLk (own : String) (idx : Nat) (y : MethodName) : Prop := Cond.methodLink own idx y ∈ lw_tbl ∨ ∃ host : String, Cond.methodLinkNest own idx y host ∈ lw_tbl
theorem zY.len {y : MethodName} {np : Nat} (h : (parseMethodDescriptor y.desc).map (fun d => d.parameters.length) = some np) : ∀ sig, parseMethodDescriptor y.desc = some sig → np = sig.parameters.length := by
  intro sig hs
  rw [hs] at h
  exact (Option.some.inj h).symm
section zcall
variable {E : zE} {y : MethodName} {cc : ByteArray} {nL : Nat} {ret : Option FieldType} {rm : Room} {K : zK E y cc nL ret rm} {Qf : State → Prop} {T : zT} {N : zN} {P : zP} {I : zI} {R : zR} {kc ks pc n : Nat} {ls : List (Option Value)} {st : List Value}
variable {y2 : MethodName} {cc2 : ByteArray} {nL2 idx np : Nat} {ret2 : Option FieldType} {rm2 : Room} {As : List Value} {Q : Option Value → zT → zN → zP → zI → zR → Prop}
theorem v_ireturn {x : Int32} (hr : ret = some .int) (hq : Q (some (.int x)) T N P I R) (hc : kc ≤ rm.cells) (hs : ks ≤ rm.slots) (d : decode cc pc = .ok (.ireturn, 1)) : V K (zQf K Q) T N P I R kc ks pc ls [.int x] :=
  fun _ _ _ h1 h2 _ => W.widen hc hs (W.iret K.x K.hb (K.hr.trans hr) (fun t ht _ => ⟨⟨_, T, N, P, I, R, rfl, hq, by rw [ht]; exact h1⟩, h2.F ht⟩) h2.2.2 d K.hk)
theorem v_zreturn {x : Int32} {ty : FieldType} (hr : ret = some ty) (hx : narrow ty (.int x) = .int x) (hq : Q (some (.int x)) T N P I R) (hc : kc ≤ rm.cells) (hs : ks ≤ rm.slots) (d : decode cc pc = .ok (.ireturn, 1)) : V K (zQf K Q) T N P I R kc ks pc ls [.int x] :=
  fun _ _ _ h1 h2 _ => W.widen hc hs (W.zret K.x K.hb (K.hr.trans hr) hx (fun t ht _ => ⟨⟨_, T, N, P, I, R, rfl, hq, by rw [ht]; exact h1⟩, h2.F ht⟩) h2.2.2 d K.hk)
theorem v_return (hr : ret = none) (hq : Q none T N P I R) (hc : kc ≤ rm.cells) (hs : ks ≤ rm.slots) (d : decode cc pc = .ok (.return_, 1)) : V K (zQf K Q) T N P I R kc ks pc ls [] :=
  fun _ _ _ h1 h2 _ => W.widen hc hs (W.vret K.x K.hb (K.hr.trans hr) (fun t ht _ => ⟨⟨_, T, N, P, I, R, rfl, hq, by rw [ht]; exact h1⟩, h2.F ht⟩) h2.2.2 d K.hk)
theorem v_areturn {v : Value} {rt : FieldType} (hr : ret = some rt) (hrt : (∃ c, rt = .object c) ∨ ∃ t, rt = .array t) (hv : v = .null ∨ ∃ a, v = .ref a) (hq : Q (some v) T N P I R) (hc : kc ≤ rm.cells) (hs : ks ≤ rm.slots) (d : decode cc pc = .ok (.areturn, 1)) : V K (zQf K Q) T N P I R kc ks pc ls [v] :=
  fun _ _ _ h1 h2 _ => W.widen hc hs (W.aret K.x K.hb (K.hr.trans hr) hrt hv (fun t ht _ => ⟨⟨_, T, N, P, I, R, rfl, hq, by rw [ht]; exact h1⟩, h2.F ht⟩) h2.2.2 d K.hk)
theorem v_lreturn {x : Int64} (hr : ret = some .long) (hq : Q (some (.long x)) T N P I R) (hc : kc ≤ rm.cells) (hs : ks ≤ rm.slots) (d : decode cc pc = .ok (.lreturn, 1)) : V K (zQf K Q) T N P I R kc ks pc ls [.long x] :=
  fun _ _ _ h1 h2 _ => W.widen hc hs (W.lret K.x K.hb (K.hr.trans hr) (fun t ht _ => ⟨⟨_, T, N, P, I, R, rfl, hq, by rw [ht]; exact h1⟩, h2.F ht⟩) h2.2.2 d K.hk)
/-- fewer cells said -/
theorem v_widen {k1 s1 : Nat} (h1 : kc ≤ k1) (h2 : ks ≤ s1) (k : V K Qf T N P I R k1 s1 pc ls st) : V K Qf T N P I R kc ks pc ls st := fun H locs LS g1 g2 g3 => W.widen h1 h2 (k H locs LS g1 g2 g3)
theorem zblind : FrameBlind (va_Pc As (fun U => zH E T N P I R U.heap ∧ zW E U)) := fun a U g mk h => ⟨h.1, h.2.1, by
  obtain ⟨h1, h2, h3, h4, h5, h6⟩ := h.2.2
  refine ⟨va_K.moved (u := U) (U := U.calling g mk a) (Vm.Alike.refl U.vm) h1, fun A w hw ho => ?_, h3, vk_R.same rfl h4, vk_S.moved (Vm.Alike.refl U.vm) h5, va_Z.moved (Vm.Alike.refl U.vm) h6⟩
  have := h2 A w hw ho
  exact zsame (u := U) (U := U.calling g mk a) ho rfl this⟩
/-- behind a call -/
theorem z_cont {p : Program} {l : Launch} {e : Env} {R0 : Room} {s : State} {m : MethodId} {args : Array Value} {below : List Frame} {meth : Method} {c : Code} {H H0 : Heap} {locs : List Loc} {cells slots mc ms : Nat} {LS : Array Slot} {st0 rest : List Value} {a : Array Value}
    (hr : va_Run p l e R0 s m args below meth c H locs cells slots mc ms (F0 m pc LS st0) rest (zQ E Q a) (zA E)) (hS : va_S (zA E) H0 H locs)
    (kk : ∀ (v : Option Value) (T : zT) (N : zN) (P : zP) (I : zI) (R : zR), Q v T N P I R → ∀ (H1 : Heap) (locs1 : List Loc), zH E T N P I R H1 → va_S (zA E) H0 H1 locs1 → W p l e R0 s m args below meth c H1 locs1 (cells + mc) (slots + ms) Qf (F0 m (pc + 3) LS (v.toList ++ rest))) : W p l e R0 s m args below meth c H locs cells slots Qf (F0 m pc LS st0) := by
  intro U hU X
  obtain ⟨v, st₀, t, T', L, h0, X', hL, e1, e2, ⟨⟨r, T, N, P, I, R, hv, hp, hb⟩, hz, hk⟩, st⟩ := hr U hU X
  cases hv
  rw [h0] at hz hk
  obtain ⟨t2, a1, b1⟩ := kk v T N P I R hp T'.heap (locs ++ L) (by rw [e1]; exact hb)
    ⟨Nat.le_trans hS.1 (by rw [e1]; exact hz), fun q h1 h2 => by rw [e1, hk q (Nat.lt_of_lt_of_le h1 hS.1) h2]; exact hS.2.1 q h1 h2, fun q hq => by
      rcases List.mem_append.mp hq with h | h
      · exact hS.2.2 q h
      · exact hL q h⟩ T' rfl X'
  exact ⟨t2, st t2 a1, b1⟩
theorem zK.callB (K : zK E y cc nL ret rm) (hy : zY y2 cc2 nL2 ret2 np) (hl : Cond.methodLink y.cls idx y2 ∈ lw_tbl) (hfr : rm2.frames + 1 ≤ rm.frames) (hlo : 8 + (nL2 + 11) + rm2.locals ≤ rm.locals) : CallB K.1.R K.1.s K.1.a y.cls idx y2 cc2 nL2 ret2 [Cond.code y2 cc2 nL2 ret2] rm2 rm2.cells rm2.slots np := by
  obtain ⟨g1, g2, g3, g4⟩ := hy
  refine ⟨rfl, rfl, by rw [K.hR]; exact hfr, by rw [K.hR]; exact hlo, fun w hw a' U hW => ?_, List.mem_cons_self, K.wd g1 rfl, K.wd g2 rfl, g3, zY.len g4, K.wd hl rfl⟩
  rw [List.mem_singleton] at hw
  subst hw
  exact word_at hW (Or.inl rfl) (K.wd g1 rfl)
theorem zK.callN (K : zK E y cc nL ret rm) {host : String} (hy : zY y2 cc2 nL2 ret2 np) (hl : Cond.methodLinkNest y.cls idx y2 host ∈ lw_tbl) (hfr : rm2.frames + 1 ≤ rm.frames) (hlo : 8 + (nL2 + 11) + rm2.locals ≤ rm.locals) : va_CN K.1.R K.1.s K.1.a y.cls idx y2 host cc2 nL2 ret2 [Cond.code y2 cc2 nL2 ret2] rm2 rm2.cells rm2.slots np := by
  obtain ⟨g1, g2, g3, g4⟩ := hy
  refine ⟨⟨rfl, rfl, by rw [K.hR]; exact hfr, by rw [K.hR]; exact hlo, fun w hw a' U hW => ?_, List.mem_cons_self⟩, K.wd g1 rfl, K.wd g2 rfl, g3, zY.len g4, K.wd hl rfl⟩
  rw [List.mem_singleton] at hw
  subst hw
  exact word_at hW (Or.inl rfl) (K.wd g1 rfl)
theorem zK.fix (K : zK E y cc nL ret rm) : CallFix K.1.p K.1.m K.1.c cc nL K.1.s K.1.a [] y.cls := ⟨K.x, K.hb, K.hm, K.ho, fun _ h => by cases h⟩
theorem zK.pre (K : zK E y cc nL ret rm) {H : Heap} {locs : List Loc} (h1 : zH E T N P I R H) (h2 : va_S (zA E) K.1.s.heap H locs) (U : State) (hU : U.heap = H) (hW : K.1.s.WarmedH U.vm) : va_Pc As (fun U => zH E T N P I R U.heap ∧ zW E U) As.toArray U :=
  ⟨rfl, by rw [hU]; exact h1, K.hw.move hW (by rw [hU]; exact h2)⟩
theorem v_callS (hC : zC E y2 cc2 nL2 ret2 rm2 As T N P I R Q) (hy : zY y2 cc2 nL2 ret2 np) (hs : Cond.static y2 ∈ lw_tbl) (hl : zLk y.cls idx y2) (hfr : rm2.frames + 1 ≤ rm.frames) (hlo : 8 + (nL2 + 11) + rm2.locals ≤ rm.locals) (hcc : kc + rm2.cells ≤ rm.cells) (hss : ks + rm2.slots ≤ rm.slots)
    (hnp : As.length = np) {st0 : List Value} (hst : st0 = As.reverse ++ st) (hcat : (st.map fun v => v.category).sum ≤ 8) (d : decode cc pc = .ok (.invokestatic idx, 3)) (hn : pc + 3 = n)
    (kk : ∀ (v : Option Value) (T : zT) (N : zN) (P : zP) (I : zI) (R : zR), Q v T N P I R → V K Qf T N P I R (kc + rm2.cells) (ks + rm2.slots) n ls (v.toList ++ st)) : V K Qf T N P I R kc ks pc ls st0 := by
  subst hn
  intro H locs LS h1 h2 h3
  have hf : kc + rm2.cells ≤ K.1.R.cells ∧ ks + rm2.slots ≤ K.1.R.slots := by rw [K.hR]; exact ⟨hcc, hss⟩
  rcases hl with hl | ⟨host, hl⟩
  · exact z_cont (va_runS K.fix (hC K.1.l) ⟨K.callB hy hl hfr hlo, K.wd hs rfl⟩ ⟨zblind, K.pre h1 h2⟩ rfl hnp h3.1 hst (lv_room hcat) d hf) h2 (fun v T N P I R hq H1 locs1 g1 g2 => kk v T N P I R hq H1 locs1 LS g1 g2 h3)
  · exact z_cont (va_runSN K.fix (hC K.1.l) ⟨K.callN hy hl hfr hlo, K.wd hs rfl, trivial⟩ ⟨zblind, K.pre h1 h2⟩ rfl hnp h3.1 hst (lv_room hcat) d hf) h2 (fun v T N P I R hq H1 locs1 g1 g2 => kk v T N P I R hq H1 locs1 LS g1 g2 h3)
theorem v_callV {ci a : Nat} {F : u_T} (hC : zC E y2 cc2 nL2 ret2 rm2 (.ref a :: As) T N P I R Q) (hy : zY y2 cc2 nL2 ret2 np) (hin : Cond.instanceMethod y2 ∈ lw_tbl) (hse : Cond.selects y2.cls y2 y2 ∈ lw_tbl) (hl : zLk y.cls idx y2) (hT : (T a).1 = 10 + ci) (hci : ci < 20) (hcl : vwCl[ci]? = some (y2.cls, F, zn ci)) (hfr : rm2.frames + 1 ≤ rm.frames) (hlo : 8 + (nL2 + 11) + rm2.locals ≤ rm.locals) (hcc : kc + rm2.cells ≤ rm.cells) (hss : ks + rm2.slots ≤ rm.slots)
    (hnp : As.length = np) {st0 : List Value} (hst : st0 = As.reverse ++ .ref a :: st) (hcat : (st.map fun v => v.category).sum ≤ 8) (d : decode cc pc = .ok (.invokevirtual idx, 3)) (hn : pc + 3 = n)
    (kk : ∀ (v : Option Value) (T : zT) (N : zN) (P : zP) (I : zI) (R : zR), Q v T N P I R → V K Qf T N P I R (kc + rm2.cells) (ks + rm2.slots) n ls (v.toList ++ st)) : V K Qf T N P I R kc ks pc ls st0 := by
  subst hn
  intro H locs LS h1 h2 h3
  obtain ⟨ws, g1, g2, g3⟩ := id h1
  obtain ⟨q, hq⟩ := g3 a _ (zcell_obj hT hci)
  have hrc := va_recv K.kk g1 hcl hq
  have hf : kc + rm2.cells ≤ K.1.R.cells ∧ ks + rm2.slots ≤ K.1.R.slots := by rw [K.hR]; exact ⟨hcc, hss⟩
  rcases hl with hl | ⟨host, hl⟩
  · exact z_cont (va_runV K.fix (hC K.1.l) ⟨K.callB hy hl hfr hlo, K.wd hin rfl, K.wd hse rfl⟩ ⟨zblind, hrc, K.pre h1 h2⟩ rfl hnp h3.1 hst (lv_room hcat) d hf) h2 (fun v T N P I R hq H1 locs1 g1 g2 => kk v T N P I R hq H1 locs1 LS g1 g2 h3)
  · exact z_cont (va_runVN K.fix (hC K.1.l) ⟨K.callN hy hl hfr hlo, K.wd hin rfl, K.wd hse rfl⟩ ⟨zblind, hrc, K.pre h1 h2⟩ rfl hnp h3.1 hst (lv_room hcat) d hf) h2 (fun v T N P I R hq H1 locs1 g1 g2 => kk v T N P I R hq H1 locs1 LS g1 g2 h3)
theorem v_callI {a : Nat} (hC : zC E y2 cc2 nL2 none rm2 (.ref a :: As) T N P I R Q) (hy : zY y2 cc2 nL2 none np) (hin : Cond.instanceMethod y2 ∈ lw_tbl) (hnm : y2.name = "<init>") (hl : zLk y.cls idx y2) (hfr : rm2.frames + 1 ≤ rm.frames) (hlo : 8 + (nL2 + 11) + rm2.locals ≤ rm.locals) (hcc : kc + rm2.cells ≤ rm.cells) (hss : ks + rm2.slots ≤ rm.slots)
    (hnp : As.length = np) {st0 : List Value} (hst : st0 = As.reverse ++ .ref a :: st) (hcat : (st.map fun v => v.category).sum ≤ 8) (d : decode cc pc = .ok (.invokespecial idx, 3)) (hn : pc + 3 = n)
    (kk : ∀ (v : Option Value) (T : zT) (N : zN) (P : zP) (I : zI) (R : zR), Q v T N P I R → V K Qf T N P I R (kc + rm2.cells) (ks + rm2.slots) n ls (v.toList ++ st)) : V K Qf T N P I R kc ks pc ls st0 := by
  subst hn
  intro H locs LS h1 h2 h3
  have hf : kc + rm2.cells ≤ K.1.R.cells ∧ ks + rm2.slots ≤ K.1.R.slots := by rw [K.hR]; exact ⟨hcc, hss⟩
  rcases hl with hl | ⟨host, hl⟩
  · exact z_cont (va_runI K.fix (hC K.1.l) ⟨K.callB hy hl hfr hlo, hnm, K.wd hin rfl⟩ ⟨zblind, K.pre h1 h2⟩ rfl hnp h3.1 hst (lv_room hcat) d hf) h2 (fun v T N P I R hq H1 locs1 g1 g2 => kk v T N P I R hq H1 locs1 LS g1 g2 h3)
  · exact z_cont (va_runIN K.fix (hC K.1.l) ⟨K.callN hy hl hfr hlo, hnm, K.wd hin rfl⟩ ⟨zblind, K.pre h1 h2⟩ rfl hnp h3.1 hst (lv_room hcat) d hf) h2 (fun v T N P I R hq H1 locs1 g1 g2 => kk v T N P I R hq H1 locs1 LS g1 g2 h3)
theorem v_objInit {a : Nat} (hl : Cond.methodLink y.cls idx objectInit ∈ lw_tbl) (hin : Cond.instanceMethod objectInit ∈ lw_tbl) (hc : Cond.code objectInit ⟨#[0xb1]⟩ 1 none ∈ lw_tbl) (hfr : 1 ≤ rm.frames) (hlo : (st.map fun v => v.category).sum + 12 ≤ rm.locals) (d : decode cc pc = .ok (.invokespecial idx, 3)) (hn : pc + 3 = n) (kk : V K Qf T N P I R kc ks n ls st) : V K Qf T N P I R kc ks pc ls (.ref a :: st) := by
  subst hn
  intro H locs LS h1 h2 h3
  exact W.objInit K.x K.hb K.ho (K.wd hl rfl) (K.wd hin rfl) (K.wd hc rfl) rfl (h3.1.trans K.hm.symm) rfl d (by rw [K.hR]; exact hfr) (by rw [K.hR]; show 2 * 0 + _ + 12 ≤ _; omega) (kk H locs LS h1 h2 h3)
theorem v_min {a b : Int32} (hl : Cond.methodLink y.cls idx Lib.Math.min.name ∈ lw_tbl) (hst : Cond.static Lib.Math.min.name ∈ lw_tbl) (hini : Cond.initialized "java/lang/Math" ∈ lw_tbl) (hc : Cond.code Lib.Math.min.name Lib.Math.min.code 2 (some .int) ∈ lw_tbl) (hfr : 1 ≤ rm.frames) (hlo : (st.map fun v => v.category).sum + 13 ≤ rm.locals) (hkc : kc ≤ rm.cells) (hks : ks ≤ rm.slots) (d : decode cc pc = .ok (.invokestatic idx, 3)) (hn : pc + 3 = n)
    (kk : V K Qf T N P I R kc ks n ls (.int (if b < a then b else a) :: st)) : V K Qf T N P I R kc ks pc ls (.int b :: .int a :: st) := by
  subst hn
  intro H locs LS h1 h2 h3
  exact va_mmin K.x K.hb (K.hm.trans h3.1.symm) K.ho (K.wd hl rfl) (K.wd hst rfl) (K.wd hini rfl) (K.wd hc rfl) (by rw [K.hR]; exact hfr) (by rw [K.hR]; exact hlo) (by rw [K.hR]; exact hkc) (by rw [K.hR]; exact hks) d (kk H locs LS h1 h2 h3)
theorem v_max {a b : Int32} (hl : Cond.methodLink y.cls idx Lib.Math.max.name ∈ lw_tbl) (hst : Cond.static Lib.Math.max.name ∈ lw_tbl) (hini : Cond.initialized "java/lang/Math" ∈ lw_tbl) (hc : Cond.code Lib.Math.max.name Lib.Math.max.code 2 (some .int) ∈ lw_tbl) (hfr : 1 ≤ rm.frames) (hlo : (st.map fun v => v.category).sum + 13 ≤ rm.locals) (hkc : kc ≤ rm.cells) (hks : ks ≤ rm.slots) (d : decode cc pc = .ok (.invokestatic idx, 3)) (hn : pc + 3 = n)
    (kk : V K Qf T N P I R kc ks n ls (.int (if a < b then b else a) :: st)) : V K Qf T N P I R kc ks pc ls (.int b :: .int a :: st) := by
  subst hn
  intro H locs LS h1 h2 h3
  exact va_mmax K.x K.hb (K.hm.trans h3.1.symm) K.ho (K.wd hl rfl) (K.wd hst rfl) (K.wd hini rfl) (K.wd hc rfl) (by rw [K.hR]; exact hfr) (by rw [K.hR]; exact hlo) (by rw [K.hR]; exact hkc) (by rw [K.hR]; exact hks) d (kk H locs LS h1 h2 h3)
/-- a contract of a method that only answers -/
def zp (r : Int32) (T : zT) (N : zN) (P : zP) (I : zI) (R : zR) : Option Value → zT → zN → zP → zI → zR → Prop := fun v T' N' P' I' R' => v = some (.int r) ∧ T' = T ∧ N' = N ∧ P' = P ∧ I' = I ∧ R' = R
theorem zp.use {r : Int32} {T : zT} {N : zN} {P : zP} {I : zI} {R : zR} {X : Option Value → zT → zN → zP → zI → zR → Prop} (h : X (some (.int r)) T N P I R) : ∀ (v : Option Value) (T' : zT) (N' : zN) (P' : zP) (I' : zI) (R' : zR), zp r T N P I R v T' N' P' I' R' → X v T' N' P' I' R' := by
  rintro v T' N' P' I' R' ⟨rfl, rfl, rfl, rfl, rfl, rfl⟩
  exact h
theorem zp.rf {r : Int32} {T : zT} {N : zN} {P : zP} {I : zI} {R : zR} : zp r T N P I R (some (.int r)) T N P I R := ⟨rfl, rfl, rfl, rfl, rfl, rfl⟩
end zcall
end
section
set_option maxRecDepth 100000 in
theorem cl_0 : ∀ w ∈ u_ws RX0 TX0 (zn 0), w ∈ lw_tbl := by decide +kernel
theorem dv_0 : ∀ j, j < zn 0 → defaultValue (tyX0 j) = if zr 0 j = true then .null else .int 0 := by decide +kernel
set_option maxRecDepth 100000 in
theorem cl_1 : ∀ w ∈ u_ws RX1 TX1 (zn 1), w ∈ lw_tbl := by decide +kernel
theorem dv_1 : ∀ j, j < zn 1 → defaultValue (tyX1 j) = if zr 1 j = true then .null else .int 0 := by decide +kernel
set_option maxRecDepth 100000 in
theorem cl_2 : ∀ w ∈ u_ws RX2 TX2 (zn 2), w ∈ lw_tbl := by decide +kernel
theorem dv_2 : ∀ j, j < zn 2 → defaultValue (tyX2 j) = if zr 2 j = true then .null else .int 0 := by decide +kernel
set_option maxRecDepth 100000 in
theorem cl_3 : ∀ w ∈ u_ws RX3 TX3 (zn 3), w ∈ lw_tbl := by decide +kernel
theorem dv_3 : ∀ j, j < zn 3 → defaultValue (tyX3 j) = if zr 3 j = true then .null else .int 0 := by decide +kernel
set_option maxRecDepth 100000 in
theorem cl_4 : ∀ w ∈ u_ws RX4 TX4 (zn 4), w ∈ lw_tbl := by decide +kernel
theorem dv_4 : ∀ j, j < zn 4 → defaultValue (tyX4 j) = if zr 4 j = true then .null else .int 0 := by decide +kernel
set_option maxRecDepth 100000 in
theorem cl_5 : ∀ w ∈ u_ws RX5 TX5 (zn 5), w ∈ lw_tbl := by decide +kernel
theorem dv_5 : ∀ j, j < zn 5 → defaultValue (tyX5 j) = if zr 5 j = true then .null else .int 0 := by decide +kernel
set_option maxRecDepth 100000 in
theorem cl_6 : ∀ w ∈ u_ws RX6 TX6 (zn 6), w ∈ lw_tbl := by decide +kernel
theorem dv_6 : ∀ j, j < zn 6 → defaultValue (tyX6 j) = if zr 6 j = true then .null else .int 0 := by decide +kernel
set_option maxRecDepth 100000 in
theorem cl_7 : ∀ w ∈ u_ws RX7 TX7 (zn 7), w ∈ lw_tbl := by decide +kernel
theorem dv_7 : ∀ j, j < zn 7 → defaultValue (tyX7 j) = if zr 7 j = true then .null else .int 0 := by decide +kernel
set_option maxRecDepth 100000 in
theorem cl_8 : ∀ w ∈ u_ws RX8 TX8 (zn 8), w ∈ lw_tbl := by decide +kernel
theorem dv_8 : ∀ j, j < zn 8 → defaultValue (tyX8 j) = if zr 8 j = true then .null else .int 0 := by decide +kernel
set_option maxRecDepth 100000 in
theorem cl_9 : ∀ w ∈ u_ws RX9 TX9 (zn 9), w ∈ lw_tbl := by decide +kernel
theorem dv_9 : ∀ j, j < zn 9 → defaultValue (tyX9 j) = if zr 9 j = true then .null else .int 0 := by decide +kernel
set_option maxRecDepth 100000 in
theorem cl_10 : ∀ w ∈ u_ws RX10 TX10 (zn 10), w ∈ lw_tbl := by decide +kernel
theorem dv_10 : ∀ j, j < zn 10 → defaultValue (tyX10 j) = if zr 10 j = true then .null else .int 0 := by decide +kernel
set_option maxRecDepth 100000 in
theorem cl_11 : ∀ w ∈ u_ws RX11 TX11 (zn 11), w ∈ lw_tbl := by decide +kernel
theorem dv_11 : ∀ j, j < zn 11 → defaultValue (tyX11 j) = if zr 11 j = true then .null else .int 0 := by decide +kernel
theorem lk_10_1 : Cond.methodLink RX10 1 objectInit ∈ lw_tbl := in_t1 26 rfl
theorem kl_10_7 : Cond.classLink RX10 7 RX7 ∈ lw_tbl := in_t1 29 rfl
theorem lk_10_9 : zLk RX10 9 yX7_init := Or.inr ⟨"WalkTeller", in_t1 31 rfl⟩
theorem fw_10_10 : zFl RX10 10 10 0 true (.object "WalkTeller$Town") := ⟨RX10, TX10, tyX10, rfl, cl_10, tyX10_ok, nmX10, by decide, Or.inl (in_t1 144 rfl), rfl, by decide +kernel, fun _ => ⟨rfl, in_t1 144 rfl⟩⟩
theorem fl_10_10 : zFg RX10 10 10 0 := ⟨RX10, TX10, rfl, cl_10, by decide, Or.inl (in_t1 144 rfl)⟩
theorem kl_10_16 : Cond.classLink RX10 16 RX6 ∈ lw_tbl := in_t1 58 rfl
theorem lk_10_18 : zLk RX10 18 yX6_init := Or.inr ⟨"WalkTeller", in_t1 60 rfl⟩
theorem fw_10_19 : zFl RX10 19 10 1 true (.object "WalkTeller$Tape") := ⟨RX10, TX10, tyX10, rfl, cl_10, tyX10_ok, nmX10, by decide, Or.inl (in_t1 145 rfl), rfl, by decide +kernel, fun _ => ⟨rfl, in_t1 145 rfl⟩⟩
theorem fl_10_19 : zFg RX10 19 10 1 := ⟨RX10, TX10, rfl, cl_10, by decide, Or.inl (in_t1 145 rfl)⟩
theorem kl_10_23 : Cond.classLink RX10 23 RX0 ∈ lw_tbl := in_t1 74 rfl
theorem fw_10_25 : zFl RX10 25 10 2 true (.array (.object "WalkTeller$Edition")) := ⟨RX10, TX10, tyX10, rfl, cl_10, tyX10_ok, nmX10, by decide, Or.inl (in_t1 146 rfl), rfl, by decide +kernel, fun _ => ⟨rfl, in_t1 146 rfl⟩⟩
theorem fl_10_25 : zFg RX10 25 10 2 := ⟨RX10, TX10, rfl, cl_10, by decide, Or.inl (in_t1 146 rfl)⟩
theorem kl_10_29 : Cond.classLink RX10 29 RX8 ∈ lw_tbl := in_t1 76 rfl
theorem fw_10_31 : zFl RX10 31 10 3 true (.array (.object "WalkTeller$Walker")) := ⟨RX10, TX10, tyX10, rfl, cl_10, tyX10_ok, nmX10, by decide, Or.inl (in_t1 147 rfl), rfl, by decide +kernel, fun _ => ⟨rfl, in_t1 147 rfl⟩⟩
theorem fl_10_31 : zFg RX10 31 10 3 := ⟨RX10, TX10, rfl, cl_10, by decide, Or.inl (in_t1 147 rfl)⟩
theorem kl_10_35 : Cond.classLink RX10 35 RX5 ∈ lw_tbl := in_t1 78 rfl
theorem fw_10_37 : zFl RX10 37 10 4 true (.array (.object "WalkTeller$Sheet")) := ⟨RX10, TX10, tyX10, rfl, cl_10, tyX10_ok, nmX10, by decide, Or.inl (in_t1 148 rfl), rfl, by decide +kernel, fun _ => ⟨rfl, in_t1 148 rfl⟩⟩
theorem fl_10_37 : zFg RX10 37 10 4 := ⟨RX10, TX10, rfl, cl_10, by decide, Or.inl (in_t1 148 rfl)⟩
theorem kl_10_41 : Cond.classLink RX10 41 RX4 ∈ lw_tbl := in_t1 80 rfl
theorem lk_10_43 : zLk RX10 43 yX4_init := Or.inr ⟨"WalkTeller", in_t1 82 rfl⟩
theorem fw_10_44 : zFl RX10 44 10 5 true (.object "WalkTeller$Search") := ⟨RX10, TX10, tyX10, rfl, cl_10, tyX10_ok, nmX10, by decide, Or.inl (in_t1 149 rfl), rfl, by decide +kernel, fun _ => ⟨rfl, in_t1 149 rfl⟩⟩
theorem fl_10_44 : zFg RX10 44 10 5 := ⟨RX10, TX10, rfl, cl_10, by decide, Or.inl (in_t1 149 rfl)⟩
theorem fw_10_48 : zFl RX10 48 10 6 false .int := ⟨RX10, TX10, tyX10, rfl, cl_10, tyX10_ok, nmX10, by decide, Or.inl (in_t1 150 rfl), rfl, by decide +kernel, fun h => by cases h⟩
theorem fl_10_48 : zFg RX10 48 10 6 := ⟨RX10, TX10, rfl, cl_10, by decide, Or.inl (in_t1 150 rfl)⟩
theorem fw_10_52 : zFl RX10 52 10 7 false .int := ⟨RX10, TX10, tyX10, rfl, cl_10, tyX10_ok, nmX10, by decide, Or.inl (in_t1 151 rfl), rfl, by decide +kernel, fun h => by cases h⟩
theorem fl_10_52 : zFg RX10 52 10 7 := ⟨RX10, TX10, rfl, cl_10, by decide, Or.inl (in_t1 151 rfl)⟩
theorem fw_10_55 : zFl RX10 55 10 8 false .int := ⟨RX10, TX10, tyX10, rfl, cl_10, tyX10_ok, nmX10, by decide, Or.inl (in_t1 152 rfl), rfl, by decide +kernel, fun h => by cases h⟩
theorem fl_10_55 : zFg RX10 55 10 8 := ⟨RX10, TX10, rfl, cl_10, by decide, Or.inl (in_t1 152 rfl)⟩
theorem fw_10_58 : zFl RX10 58 10 9 false .int := ⟨RX10, TX10, tyX10, rfl, cl_10, tyX10_ok, nmX10, by decide, Or.inl (in_t1 153 rfl), rfl, by decide +kernel, fun h => by cases h⟩
theorem fl_10_58 : zFg RX10 58 10 9 := ⟨RX10, TX10, rfl, cl_10, by decide, Or.inl (in_t1 153 rfl)⟩
theorem lk_10_61 : zLk RX10 61 yX10_isWithin := Or.inl (in_t1 179 rfl)
theorem kc_10_65 : Cond.constant RX10 65 (-1000001) ∈ lw_tbl := in_t1 182 rfl
theorem lk_10_66 : zLk RX10 66 yX10_finding := Or.inl (in_t1 183 rfl)
theorem fw_10_70 : zFl RX10 70 7 3 false .int := ⟨RX7, TX7, tyX7, rfl, cl_7, tyX7_ok, nmX7, by decide, Or.inr ⟨"WalkTeller", in_t1 42 rfl⟩, rfl, by decide +kernel, fun h => by cases h⟩
theorem fl_10_70 : zFg RX10 70 7 3 := ⟨RX7, TX7, rfl, cl_7, by decide, Or.inr ⟨"WalkTeller", in_t1 42 rfl⟩⟩
theorem kc_10_73 : Cond.constant RX10 73 (-1000002) ∈ lw_tbl := in_t1 187 rfl
theorem lk_10_74 : zLk RX10 74 yX7_addCorner := Or.inl (in_t1 188 rfl)
theorem lk_10_78 : zLk RX10 78 yX7_hasCorner := Or.inl (in_t1 196 rfl)
theorem fw_10_82 : zFl RX10 82 7 4 false .int := ⟨RX7, TX7, tyX7, rfl, cl_7, tyX7_ok, nmX7, by decide, Or.inr ⟨"WalkTeller", in_t1 45 rfl⟩, rfl, by decide +kernel, fun h => by cases h⟩
theorem fl_10_82 : zFg RX10 82 7 4 := ⟨RX7, TX7, rfl, cl_7, by decide, Or.inr ⟨"WalkTeller", in_t1 45 rfl⟩⟩
theorem kl_10_85 : Cond.classLink RX10 85 RX9 ∈ lw_tbl := in_t1 201 rfl
theorem lk_10_87 : zLk RX10 87 yX9_init := Or.inl (in_t1 203 rfl)
theorem lk_10_90 : zLk RX10 90 yX7_addWay := Or.inl (in_t1 228 rfl)
theorem lk_10_94 : zLk RX10 94 yX7_findWay := Or.inl (in_t1 236 rfl)
theorem fw_10_98 : zFl RX10 98 9 4 false .int := ⟨RX9, TX9, tyX9, rfl, cl_9, tyX9_ok, nmX9, by decide, Or.inr ⟨"WalkTeller", in_t1 216 rfl⟩, rfl, by decide +kernel, fun h => by cases h⟩
theorem fl_10_98 : zFg RX10 98 9 4 := ⟨RX9, TX9, rfl, cl_9, by decide, Or.inr ⟨"WalkTeller", in_t1 216 rfl⟩⟩
theorem lk_10_101 : zLk RX10 101 yX10_isDay := Or.inl (in_t2 4 rfl)
theorem lk_10_104 : zLk RX10 104 yX4_distance := Or.inl (in_t2 7 rfl)
theorem lk_10_108 : zLk RX10 108 yX10_timeOrNone := Or.inl (in_t2 56 rfl)
theorem fw_10_111 : zFl RX10 111 6 1 false .int := ⟨RX6, TX6, tyX6, rfl, cl_6, tyX6_ok, nmX6, by decide, Or.inr ⟨"WalkTeller", in_t1 67 rfl⟩, rfl, by decide +kernel, fun h => by cases h⟩
theorem fl_10_111 : zFg RX10 111 6 1 := ⟨RX6, TX6, rfl, cl_6, by decide, Or.inr ⟨"WalkTeller", in_t1 67 rfl⟩⟩
theorem lk_10_114 : zLk RX10 114 yX6_append := Or.inl (in_t2 66 rfl)
theorem kl_10_118 : Cond.classLink RX10 118 RX3 ∈ lw_tbl := in_t2 74 rfl
theorem lk_10_120 : zLk RX10 120 yX3_init := Or.inl (in_t2 76 rfl)
theorem lk_10_123 : zLk RX10 123 yX3_readEdition := Or.inl (in_t2 91 rfl)
theorem kc_10_127 : Cond.constant RX10 127 (-1000100) ∈ lw_tbl := in_t2 206 rfl
theorem fw_10_128 : zFl RX10 128 3 2 false .int := ⟨RX3, TX3, tyX3, rfl, cl_3, tyX3_ok, nmX3, by decide, Or.inr ⟨"WalkTeller", in_t2 83 rfl⟩, rfl, by decide +kernel, fun h => by cases h⟩
theorem fl_10_128 : zFg RX10 128 3 2 := ⟨RX3, TX3, rfl, cl_3, by decide, Or.inr ⟨"WalkTeller", in_t2 83 rfl⟩⟩
theorem lk_10_131 : zLk RX10 131 yX10_findPiece := Or.inl (in_t2 211 rfl)
theorem lk_10_135 : zLk RX10 135 yX2_isOfKind := Or.inl (in_t2 224 rfl)
theorem kc_10_140 : Cond.constant RX10 140 (-1000003) ∈ lw_tbl := in_t2 228 rfl
theorem fl_10_141 : zFg RX10 141 2 0 := ⟨RX2, TX2, rfl, cl_2, by decide, Or.inr ⟨"WalkTeller", in_t2 180 rfl⟩⟩
theorem fl_10_144 : zFg RX10 144 2 1 := ⟨RX2, TX2, rfl, cl_2, by decide, Or.inr ⟨"WalkTeller", in_t2 182 rfl⟩⟩
theorem fl_10_147 : zFg RX10 147 2 2 := ⟨RX2, TX2, rfl, cl_2, by decide, Or.inr ⟨"WalkTeller", in_t2 186 rfl⟩⟩
theorem fl_10_148 : zFg RX10 148 2 3 := ⟨RX2, TX2, rfl, cl_2, by decide, Or.inr ⟨"WalkTeller", in_t2 188 rfl⟩⟩
theorem fl_10_151 : zFg RX10 151 2 4 := ⟨RX2, TX2, rfl, cl_2, by decide, Or.inr ⟨"WalkTeller", in_t2 190 rfl⟩⟩
theorem lk_10_154 : zLk RX10 154 yX10_searchAnew := Or.inl (in_t2 237 rfl)
theorem lk_10_158 : zLk RX10 158 yX4_countMoments := Or.inl (in_t3 45 rfl)
theorem lk_10_162 : zLk RX10 162 yX4_countDeadEnds := Or.inl (in_t3 55 rfl)
theorem lk_10_165 : zLk RX10 165 yX4_countTwoVoices := Or.inl (in_t3 59 rfl)
theorem lk_10_168 : zLk RX10 168 yX4_heardInSome := Or.inl (in_t3 68 rfl)
theorem lk_10_171 : zLk RX10 171 yX4_timeFrom := Or.inl (in_t3 76 rfl)
theorem kc_10_174 : Cond.constant RX10 174 (1000000000) ∈ lw_tbl := in_t2 60 rfl
theorem kc_10_175 : Cond.constant RX10 175 (-1000004) ∈ lw_tbl := in_t2 61 rfl
theorem lk_10_176 : zLk RX10 176 yX4_cornerOnQuickest := Or.inl (in_t3 81 rfl)
theorem lk_10_179 : zLk RX10 179 yX10_findEdition := Or.inl (in_t2 215 rfl)
theorem kc_10_183 : Cond.constant RX10 183 (-1000005) ∈ lw_tbl := in_t3 98 rfl
theorem lk_10_184 : zLk RX10 184 yX8_init := Or.inl (in_t3 100 rfl)
theorem lk_10_187 : zLk RX10 187 yX8_arrive := Or.inl (in_t3 139 rfl)
theorem lk_10_190 : zLk RX10 190 yX8_listen := Or.inl (in_t3 162 rfl)
theorem lk_10_193 : zLk RX10 193 yX10_findWalker := Or.inl (in_t3 167 rfl)
theorem lk_10_197 : zLk RX10 197 yX8_isOver := Or.inl (in_t3 171 rfl)
theorem fw_10_201 : zFl RX10 201 8 3 false .int := ⟨RX8, TX8, tyX8, rfl, cl_8, tyX8_ok, nmX8, by decide, Or.inr ⟨"WalkTeller", in_t3 111 rfl⟩, rfl, by decide +kernel, fun h => by cases h⟩
theorem fl_10_201 : zFg RX10 201 8 3 := ⟨RX8, TX8, rfl, cl_8, by decide, Or.inr ⟨"WalkTeller", in_t3 111 rfl⟩⟩
theorem lk_10_202 : zLk RX10 202 yX9_leadsFrom := Or.inl (in_t3 172 rfl)
theorem lk_10_205 : zLk RX10 205 yX9_isShut := Or.inl (in_t3 176 rfl)
theorem fl_10_208 : zFg RX10 208 8 2 := ⟨RX8, TX8, rfl, cl_8, by decide, Or.inr ⟨"WalkTeller", in_t3 109 rfl⟩⟩
theorem lk_10_212 : zLk RX10 212 yX9_isFor := Or.inl (in_t3 177 rfl)
theorem fw_10_216 : zFl RX10 216 8 5 false .int := ⟨RX8, TX8, tyX8, rfl, cl_8, tyX8_ok, nmX8, by decide, Or.inr ⟨"WalkTeller", in_t3 115 rfl⟩, rfl, by decide +kernel, fun h => by cases h⟩
theorem fl_10_216 : zFg RX10 216 8 5 := ⟨RX8, TX8, rfl, cl_8, by decide, Or.inr ⟨"WalkTeller", in_t3 115 rfl⟩⟩
theorem fl_10_219 : zFg RX10 219 9 2 := ⟨RX9, TX9, rfl, cl_9, by decide, Or.inr ⟨"WalkTeller", in_t1 213 rfl⟩⟩
theorem lk_10_220 : zLk RX10 220 yX9_otherEnd := Or.inl (in_t3 178 rfl)
theorem fw_10_223 : zFl RX10 223 8 4 false .int := ⟨RX8, TX8, tyX8, rfl, cl_8, tyX8_ok, nmX8, by decide, Or.inr ⟨"WalkTeller", in_t3 113 rfl⟩, rfl, by decide +kernel, fun h => by cases h⟩
theorem fl_10_223 : zFg RX10 223 8 4 := ⟨RX8, TX8, rfl, cl_8, by decide, Or.inr ⟨"WalkTeller", in_t3 113 rfl⟩⟩
theorem fl_10_226 : zFg RX10 226 8 1 := ⟨RX8, TX8, rfl, cl_8, by decide, Or.inr ⟨"WalkTeller", in_t3 107 rfl⟩⟩
theorem fw_10_229 : zFl RX10 229 8 6 false .int := ⟨RX8, TX8, tyX8, rfl, cl_8, tyX8_ok, nmX8, by decide, Or.inr ⟨"WalkTeller", in_t3 117 rfl⟩, rfl, by decide +kernel, fun h => by cases h⟩
theorem fl_10_229 : zFg RX10 229 8 6 := ⟨RX8, TX8, rfl, cl_8, by decide, Or.inr ⟨"WalkTeller", in_t3 117 rfl⟩⟩
theorem lk_10_232 : zLk RX10 232 yX10_searchFrom := Or.inl (in_t3 190 rfl)
theorem lk_10_236 : zLk RX10 236 yX10_bestNextCorner := Or.inl (in_t3 194 rfl)
theorem fl_10_240 : zFg RX10 240 8 0 := ⟨RX8, TX8, rfl, cl_8, by decide, Or.inr ⟨"WalkTeller", in_t3 105 rfl⟩⟩
theorem lk_10_244 : zLk RX10 244 yX0_allPieces := Or.inl (in_t3 211 rfl)
theorem lk_10_247 : zLk RX10 247 yX10_isDoubt := Or.inl (in_t3 219 rfl)
theorem lk_10_250 : zLk RX10 250 yX8_takeReading := Or.inl (in_t3 222 rfl)
theorem lk_10_254 : zLk RX10 254 yX10_isSheet := Or.inl (in_t4 12 rfl)
theorem lk_10_257 : zLk RX10 257 yX10_isSheetBits := Or.inl (in_t4 15 rfl)
theorem kc_10_260 : Cond.constant RX10 260 (-1000007) ∈ lw_tbl := in_t4 18 rfl
theorem lk_10_261 : zLk RX10 261 yX5_init := Or.inl (in_t4 20 rfl)
theorem kc_10_264 : Cond.constant RX10 264 (-1000006) ∈ lw_tbl := in_t4 40 rfl
theorem fl_10_265 : zFg RX10 265 5 1 := ⟨RX5, TX5, rfl, cl_5, by decide, Or.inr ⟨"WalkTeller", in_t4 30 rfl⟩⟩
theorem lk_10_269 : zLk RX10 269 yX5_lowestBits := Or.inl (in_t4 41 rfl)
theorem fl_10_272 : zFg RX10 272 5 0 := ⟨RX5, TX5, rfl, cl_5, by decide, Or.inr ⟨"WalkTeller", in_t4 28 rfl⟩⟩
theorem lk_10_275 : zLk RX10 275 yX5_hasRange := Or.inl (in_t4 49 rfl)
theorem lk_10_279 : Cond.methodLink RX10 279 arraycopyName ∈ lw_tbl := in_t4 53 rfl
theorem lk_10_285 : zLk RX10 285 yX0_findPiece := Or.inl (in_t2 219 rfl)
theorem lk_10_288 : zLk RX10 288 yX4_explore := Or.inl (in_t3 1 rfl)
theorem lk_10_292 : zLk RX10 292 yX4_timeBy := Or.inl (in_t3 198 rfl)
theorem lk_10_296 : zLk RX10 296 yX10_countWalking := Or.inl (in_t3 199 rfl)
theorem lk_11_1 : Cond.methodLink RX11 1 objectInit ∈ lw_tbl := in_t4 69 rfl
theorem fw_11_9 : zFl RX11 9 11 1 true (.array .int) := ⟨RX11, TX11, tyX11, rfl, cl_11, tyX11_ok, nmX11, by decide, Or.inl (in_t4 72 rfl), rfl, by decide +kernel, fun _ => ⟨rfl, in_t4 72 rfl⟩⟩
theorem fl_11_9 : zFg RX11 9 11 1 := ⟨RX11, TX11, rfl, cl_11, by decide, Or.inl (in_t4 72 rfl)⟩
theorem fw_11_13 : zFl RX11 13 11 2 true (.array .int) := ⟨RX11, TX11, tyX11, rfl, cl_11, tyX11_ok, nmX11, by decide, Or.inl (in_t4 73 rfl), rfl, by decide +kernel, fun _ => ⟨rfl, in_t4 73 rfl⟩⟩
theorem fl_11_13 : zFg RX11 13 11 2 := ⟨RX11, TX11, rfl, cl_11, by decide, Or.inl (in_t4 73 rfl)⟩
theorem fw_11_16 : zFl RX11 16 11 4 true (.array .int) := ⟨RX11, TX11, tyX11, rfl, cl_11, tyX11_ok, nmX11, by decide, Or.inl (in_t4 75 rfl), rfl, by decide +kernel, fun _ => ⟨rfl, in_t4 75 rfl⟩⟩
theorem fl_11_16 : zFg RX11 16 11 4 := ⟨RX11, TX11, rfl, cl_11, by decide, Or.inl (in_t4 75 rfl)⟩
theorem fw_11_19 : zFl RX11 19 11 5 true (.array .int) := ⟨RX11, TX11, tyX11, rfl, cl_11, tyX11_ok, nmX11, by decide, Or.inl (in_t4 76 rfl), rfl, by decide +kernel, fun _ => ⟨rfl, in_t4 76 rfl⟩⟩
theorem fl_11_19 : zFg RX11 19 11 5 := ⟨RX11, TX11, rfl, cl_11, by decide, Or.inl (in_t4 76 rfl)⟩
theorem fw_11_22 : zFl RX11 22 11 6 true (.array .int) := ⟨RX11, TX11, tyX11, rfl, cl_11, tyX11_ok, nmX11, by decide, Or.inl (in_t4 77 rfl), rfl, by decide +kernel, fun _ => ⟨rfl, in_t4 77 rfl⟩⟩
theorem fl_11_22 : zFg RX11 22 11 6 := ⟨RX11, TX11, rfl, cl_11, by decide, Or.inl (in_t4 77 rfl)⟩
theorem fw_11_25 : zFl RX11 25 11 7 true (.array .boolean) := ⟨RX11, TX11, tyX11, rfl, cl_11, tyX11_ok, nmX11, by decide, Or.inl (in_t4 78 rfl), rfl, by decide +kernel, fun _ => ⟨rfl, in_t4 78 rfl⟩⟩
theorem fl_11_25 : zFg RX11 25 11 7 := ⟨RX11, TX11, rfl, cl_11, by decide, Or.inl (in_t4 78 rfl)⟩
theorem fw_11_29 : zFl RX11 29 11 8 true (.array .int) := ⟨RX11, TX11, tyX11, rfl, cl_11, tyX11_ok, nmX11, by decide, Or.inl (in_t4 79 rfl), rfl, by decide +kernel, fun _ => ⟨rfl, in_t4 79 rfl⟩⟩
theorem fl_11_29 : zFg RX11 29 11 8 := ⟨RX11, TX11, rfl, cl_11, by decide, Or.inl (in_t4 79 rfl)⟩
theorem fw_11_32 : zFl RX11 32 11 10 true (.array .int) := ⟨RX11, TX11, tyX11, rfl, cl_11, tyX11_ok, nmX11, by decide, Or.inl (in_t4 81 rfl), rfl, by decide +kernel, fun _ => ⟨rfl, in_t4 81 rfl⟩⟩
theorem fl_11_32 : zFg RX11 32 11 10 := ⟨RX11, TX11, rfl, cl_11, by decide, Or.inl (in_t4 81 rfl)⟩
theorem fw_11_35 : zFl RX11 35 11 11 true (.array .int) := ⟨RX11, TX11, tyX11, rfl, cl_11, tyX11_ok, nmX11, by decide, Or.inl (in_t4 82 rfl), rfl, by decide +kernel, fun _ => ⟨rfl, in_t4 82 rfl⟩⟩
theorem fl_11_35 : zFg RX11 35 11 11 := ⟨RX11, TX11, rfl, cl_11, by decide, Or.inl (in_t4 82 rfl)⟩
theorem fw_11_38 : zFl RX11 38 11 12 true (.array .int) := ⟨RX11, TX11, tyX11, rfl, cl_11, tyX11_ok, nmX11, by decide, Or.inl (in_t4 83 rfl), rfl, by decide +kernel, fun _ => ⟨rfl, in_t4 83 rfl⟩⟩
theorem fl_11_38 : zFg RX11 38 11 12 := ⟨RX11, TX11, rfl, cl_11, by decide, Or.inl (in_t4 83 rfl)⟩
theorem fw_11_41 : zFl RX11 41 11 13 true (.array .int) := ⟨RX11, TX11, tyX11, rfl, cl_11, tyX11_ok, nmX11, by decide, Or.inl (in_t4 84 rfl), rfl, by decide +kernel, fun _ => ⟨rfl, in_t4 84 rfl⟩⟩
theorem fl_11_41 : zFg RX11 41 11 13 := ⟨RX11, TX11, rfl, cl_11, by decide, Or.inl (in_t4 84 rfl)⟩
theorem fw_11_44 : zFl RX11 44 11 14 true (.array .int) := ⟨RX11, TX11, tyX11, rfl, cl_11, tyX11_ok, nmX11, by decide, Or.inl (in_t4 85 rfl), rfl, by decide +kernel, fun _ => ⟨rfl, in_t4 85 rfl⟩⟩
theorem fl_11_44 : zFg RX11 44 11 14 := ⟨RX11, TX11, rfl, cl_11, by decide, Or.inl (in_t4 85 rfl)⟩
theorem fw_11_47 : zFl RX11 47 11 15 true (.array .int) := ⟨RX11, TX11, tyX11, rfl, cl_11, tyX11_ok, nmX11, by decide, Or.inl (in_t4 86 rfl), rfl, by decide +kernel, fun _ => ⟨rfl, in_t4 86 rfl⟩⟩
theorem fl_11_47 : zFg RX11 47 11 15 := ⟨RX11, TX11, rfl, cl_11, by decide, Or.inl (in_t4 86 rfl)⟩
theorem fw_11_50 : zFl RX11 50 11 16 true (.array .int) := ⟨RX11, TX11, tyX11, rfl, cl_11, tyX11_ok, nmX11, by decide, Or.inl (in_t4 87 rfl), rfl, by decide +kernel, fun _ => ⟨rfl, in_t4 87 rfl⟩⟩
theorem fl_11_50 : zFg RX11 50 11 16 := ⟨RX11, TX11, rfl, cl_11, by decide, Or.inl (in_t4 87 rfl)⟩
theorem fw_11_53 : zFl RX11 53 11 19 true (.array .int) := ⟨RX11, TX11, tyX11, rfl, cl_11, tyX11_ok, nmX11, by decide, Or.inl (in_t4 90 rfl), rfl, by decide +kernel, fun _ => ⟨rfl, in_t4 90 rfl⟩⟩
theorem fl_11_53 : zFg RX11 53 11 19 := ⟨RX11, TX11, rfl, cl_11, by decide, Or.inl (in_t4 90 rfl)⟩
theorem fw_11_56 : zFl RX11 56 11 20 true (.array .int) := ⟨RX11, TX11, tyX11, rfl, cl_11, tyX11_ok, nmX11, by decide, Or.inl (in_t4 91 rfl), rfl, by decide +kernel, fun _ => ⟨rfl, in_t4 91 rfl⟩⟩
theorem fl_11_56 : zFg RX11 56 11 20 := ⟨RX11, TX11, rfl, cl_11, by decide, Or.inl (in_t4 91 rfl)⟩
theorem fw_11_59 : zFl RX11 59 11 21 true (.array .int) := ⟨RX11, TX11, tyX11, rfl, cl_11, tyX11_ok, nmX11, by decide, Or.inl (in_t4 92 rfl), rfl, by decide +kernel, fun _ => ⟨rfl, in_t4 92 rfl⟩⟩
theorem fl_11_59 : zFg RX11 59 11 21 := ⟨RX11, TX11, rfl, cl_11, by decide, Or.inl (in_t4 92 rfl)⟩
theorem fw_11_62 : zFl RX11 62 11 22 true (.array .int) := ⟨RX11, TX11, tyX11, rfl, cl_11, tyX11_ok, nmX11, by decide, Or.inl (in_t4 93 rfl), rfl, by decide +kernel, fun _ => ⟨rfl, in_t4 93 rfl⟩⟩
theorem fl_11_62 : zFg RX11 62 11 22 := ⟨RX11, TX11, rfl, cl_11, by decide, Or.inl (in_t4 93 rfl)⟩
theorem fw_11_65 : zFl RX11 65 11 23 true (.array .boolean) := ⟨RX11, TX11, tyX11, rfl, cl_11, tyX11_ok, nmX11, by decide, Or.inl (in_t4 94 rfl), rfl, by decide +kernel, fun _ => ⟨rfl, in_t4 94 rfl⟩⟩
theorem fl_11_65 : zFg RX11 65 11 23 := ⟨RX11, TX11, rfl, cl_11, by decide, Or.inl (in_t4 94 rfl)⟩
theorem fw_11_68 : zFl RX11 68 11 24 true (.array .int) := ⟨RX11, TX11, tyX11, rfl, cl_11, tyX11_ok, nmX11, by decide, Or.inl (in_t4 95 rfl), rfl, by decide +kernel, fun _ => ⟨rfl, in_t4 95 rfl⟩⟩
theorem fl_11_68 : zFg RX11 68 11 24 := ⟨RX11, TX11, rfl, cl_11, by decide, Or.inl (in_t4 95 rfl)⟩
theorem fw_11_71 : zFl RX11 71 11 25 true (.array .int) := ⟨RX11, TX11, tyX11, rfl, cl_11, tyX11_ok, nmX11, by decide, Or.inl (in_t4 96 rfl), rfl, by decide +kernel, fun _ => ⟨rfl, in_t4 96 rfl⟩⟩
theorem fl_11_71 : zFg RX11 71 11 25 := ⟨RX11, TX11, rfl, cl_11, by decide, Or.inl (in_t4 96 rfl)⟩
theorem fw_11_74 : zFl RX11 74 11 26 true (.array .int) := ⟨RX11, TX11, tyX11, rfl, cl_11, tyX11_ok, nmX11, by decide, Or.inl (in_t4 97 rfl), rfl, by decide +kernel, fun _ => ⟨rfl, in_t4 97 rfl⟩⟩
theorem fl_11_74 : zFg RX11 74 11 26 := ⟨RX11, TX11, rfl, cl_11, by decide, Or.inl (in_t4 97 rfl)⟩
theorem fw_11_77 : zFl RX11 77 11 28 true (.array .int) := ⟨RX11, TX11, tyX11, rfl, cl_11, tyX11_ok, nmX11, by decide, Or.inl (in_t4 99 rfl), rfl, by decide +kernel, fun _ => ⟨rfl, in_t4 99 rfl⟩⟩
theorem fl_11_77 : zFg RX11 77 11 28 := ⟨RX11, TX11, rfl, cl_11, by decide, Or.inl (in_t4 99 rfl)⟩
theorem fw_11_80 : zFl RX11 80 11 29 true (.array .int) := ⟨RX11, TX11, tyX11, rfl, cl_11, tyX11_ok, nmX11, by decide, Or.inl (in_t4 100 rfl), rfl, by decide +kernel, fun _ => ⟨rfl, in_t4 100 rfl⟩⟩
theorem fl_11_80 : zFg RX11 80 11 29 := ⟨RX11, TX11, rfl, cl_11, by decide, Or.inl (in_t4 100 rfl)⟩
theorem fw_11_83 : zFl RX11 83 11 30 true (.array .int) := ⟨RX11, TX11, tyX11, rfl, cl_11, tyX11_ok, nmX11, by decide, Or.inl (in_t4 101 rfl), rfl, by decide +kernel, fun _ => ⟨rfl, in_t4 101 rfl⟩⟩
theorem fl_11_83 : zFg RX11 83 11 30 := ⟨RX11, TX11, rfl, cl_11, by decide, Or.inl (in_t4 101 rfl)⟩
theorem fw_11_86 : zFl RX11 86 11 34 true (.array .int) := ⟨RX11, TX11, tyX11, rfl, cl_11, tyX11_ok, nmX11, by decide, Or.inl (in_t4 105 rfl), rfl, by decide +kernel, fun _ => ⟨rfl, in_t4 105 rfl⟩⟩
theorem fl_11_86 : zFg RX11 86 11 34 := ⟨RX11, TX11, rfl, cl_11, by decide, Or.inl (in_t4 105 rfl)⟩
theorem fw_11_89 : zFl RX11 89 11 35 true (.array .int) := ⟨RX11, TX11, tyX11, rfl, cl_11, tyX11_ok, nmX11, by decide, Or.inl (in_t4 106 rfl), rfl, by decide +kernel, fun _ => ⟨rfl, in_t4 106 rfl⟩⟩
theorem fl_11_89 : zFg RX11 89 11 35 := ⟨RX11, TX11, rfl, cl_11, by decide, Or.inl (in_t4 106 rfl)⟩
theorem fw_11_92 : zFl RX11 92 11 36 true (.array .int) := ⟨RX11, TX11, tyX11, rfl, cl_11, tyX11_ok, nmX11, by decide, Or.inl (in_t4 107 rfl), rfl, by decide +kernel, fun _ => ⟨rfl, in_t4 107 rfl⟩⟩
theorem fl_11_92 : zFg RX11 92 11 36 := ⟨RX11, TX11, rfl, cl_11, by decide, Or.inl (in_t4 107 rfl)⟩
theorem fw_11_95 : zFl RX11 95 11 37 true (.array .int) := ⟨RX11, TX11, tyX11, rfl, cl_11, tyX11_ok, nmX11, by decide, Or.inl (in_t4 108 rfl), rfl, by decide +kernel, fun _ => ⟨rfl, in_t4 108 rfl⟩⟩
theorem fl_11_95 : zFg RX11 95 11 37 := ⟨RX11, TX11, rfl, cl_11, by decide, Or.inl (in_t4 108 rfl)⟩
theorem fw_11_98 : zFl RX11 98 11 38 true (.array .int) := ⟨RX11, TX11, tyX11, rfl, cl_11, tyX11_ok, nmX11, by decide, Or.inl (in_t4 109 rfl), rfl, by decide +kernel, fun _ => ⟨rfl, in_t4 109 rfl⟩⟩
theorem fl_11_98 : zFg RX11 98 11 38 := ⟨RX11, TX11, rfl, cl_11, by decide, Or.inl (in_t4 109 rfl)⟩
theorem kc_11_101 : Cond.constant RX11 101 (32768) ∈ lw_tbl := in_t4 70 rfl
theorem fw_11_102 : zFl RX11 102 11 39 true (.array .int) := ⟨RX11, TX11, tyX11, rfl, cl_11, tyX11_ok, nmX11, by decide, Or.inl (in_t4 110 rfl), rfl, by decide +kernel, fun _ => ⟨rfl, in_t4 110 rfl⟩⟩
theorem fl_11_102 : zFg RX11 102 11 39 := ⟨RX11, TX11, rfl, cl_11, by decide, Or.inl (in_t4 110 rfl)⟩
theorem fw_11_105 : zFl RX11 105 11 40 true (.array .boolean) := ⟨RX11, TX11, tyX11, rfl, cl_11, tyX11_ok, nmX11, by decide, Or.inl (in_t4 111 rfl), rfl, by decide +kernel, fun _ => ⟨rfl, in_t4 111 rfl⟩⟩
theorem fl_11_105 : zFg RX11 105 11 40 := ⟨RX11, TX11, rfl, cl_11, by decide, Or.inl (in_t4 111 rfl)⟩
theorem fw_11_108 : zFl RX11 108 11 41 true (.array .int) := ⟨RX11, TX11, tyX11, rfl, cl_11, tyX11_ok, nmX11, by decide, Or.inl (in_t4 112 rfl), rfl, by decide +kernel, fun _ => ⟨rfl, in_t4 112 rfl⟩⟩
theorem fl_11_108 : zFg RX11 108 11 41 := ⟨RX11, TX11, rfl, cl_11, by decide, Or.inl (in_t4 112 rfl)⟩
theorem fw_11_111 : zFl RX11 111 11 43 true (.array .int) := ⟨RX11, TX11, tyX11, rfl, cl_11, tyX11_ok, nmX11, by decide, Or.inl (in_t4 114 rfl), rfl, by decide +kernel, fun _ => ⟨rfl, in_t4 114 rfl⟩⟩
theorem fl_11_111 : zFg RX11 111 11 43 := ⟨RX11, TX11, rfl, cl_11, by decide, Or.inl (in_t4 114 rfl)⟩
theorem fw_11_114 : zFl RX11 114 11 31 false .int := ⟨RX11, TX11, tyX11, rfl, cl_11, tyX11_ok, nmX11, by decide, Or.inl (in_t4 102 rfl), rfl, by decide +kernel, fun h => by cases h⟩
theorem fl_11_114 : zFg RX11 114 11 31 := ⟨RX11, TX11, rfl, cl_11, by decide, Or.inl (in_t4 102 rfl)⟩
theorem fw_11_118 : zFl RX11 118 11 0 false .int := ⟨RX11, TX11, tyX11, rfl, cl_11, tyX11_ok, nmX11, by decide, Or.inl (in_t4 71 rfl), rfl, by decide +kernel, fun h => by cases h⟩
theorem fl_11_118 : zFg RX11 118 11 0 := ⟨RX11, TX11, rfl, cl_11, by decide, Or.inl (in_t4 71 rfl)⟩
theorem lk_11_121 : zLk RX11 121 yX11_within := Or.inl (in_t4 209 rfl)
theorem fw_11_125 : zFl RX11 125 11 3 false .int := ⟨RX11, TX11, tyX11, rfl, cl_11, tyX11_ok, nmX11, by decide, Or.inl (in_t4 74 rfl), rfl, by decide +kernel, fun h => by cases h⟩
theorem fl_11_125 : zFg RX11 125 11 3 := ⟨RX11, TX11, rfl, cl_11, by decide, Or.inl (in_t4 74 rfl)⟩
theorem fw_11_128 : zFl RX11 128 11 18 false .int := ⟨RX11, TX11, tyX11, rfl, cl_11, tyX11_ok, nmX11, by decide, Or.inl (in_t4 89 rfl), rfl, by decide +kernel, fun h => by cases h⟩
theorem fl_11_128 : zFg RX11 128 11 18 := ⟨RX11, TX11, rfl, cl_11, by decide, Or.inl (in_t4 89 rfl)⟩
theorem kc_11_131 : Cond.constant RX11 131 (-1000001) ∈ lw_tbl := in_t4 212 rfl
theorem lk_11_132 : zLk RX11 132 yX11_finding := Or.inl (in_t4 213 rfl)
theorem kc_11_136 : Cond.constant RX11 136 (-1000002) ∈ lw_tbl := in_t4 217 rfl
theorem lk_11_137 : zLk RX11 137 yX11_isCorner := Or.inl (in_t4 222 rfl)
theorem lk_11_141 : zLk RX11 141 yX11_isWay := Or.inl (in_t4 230 rfl)
theorem lk_11_144 : zLk RX11 144 yX11_isDay := Or.inl (in_t4 238 rfl)
theorem kc_11_147 : Cond.constant RX11 147 (100000000) ∈ lw_tbl := in_t5 1 rfl
theorem lk_11_148 : zLk RX11 148 yX11_isOpen := Or.inl (in_t5 2 rfl)
theorem lk_11_152 : Cond.methodLink RX11 152 Lib.Math.min.name ∈ lw_tbl := in_t5 6 rfl
theorem kc_11_158 : Cond.constant RX11 158 (-1000004) ∈ lw_tbl := in_t5 7 rfl
theorem fw_11_159 : zFl RX11 159 11 17 false .int := ⟨RX11, TX11, tyX11, rfl, cl_11, tyX11_ok, nmX11, by decide, Or.inl (in_t4 88 rfl), rfl, by decide +kernel, fun h => by cases h⟩
theorem fl_11_159 : zFg RX11 159 11 17 := ⟨RX11, TX11, rfl, cl_11, by decide, Or.inl (in_t4 88 rfl)⟩
theorem kc_11_162 : Cond.constantLong RX11 162 (255) ∈ lw_tbl := in_t5 12 rfl
theorem fw_11_164 : zFl RX11 164 11 32 false .int := ⟨RX11, TX11, tyX11, rfl, cl_11, tyX11_ok, nmX11, by decide, Or.inl (in_t4 103 rfl), rfl, by decide +kernel, fun h => by cases h⟩
theorem fl_11_164 : zFg RX11 164 11 32 := ⟨RX11, TX11, rfl, cl_11, by decide, Or.inl (in_t4 103 rfl)⟩
theorem fw_11_167 : zFl RX11 167 11 33 false .int := ⟨RX11, TX11, tyX11, rfl, cl_11, tyX11_ok, nmX11, by decide, Or.inl (in_t4 104 rfl), rfl, by decide +kernel, fun h => by cases h⟩
theorem fl_11_167 : zFg RX11 167 11 33 := ⟨RX11, TX11, rfl, cl_11, by decide, Or.inl (in_t4 104 rfl)⟩
theorem lk_11_170 : zLk RX11 170 yX11_byteAt := Or.inl (in_t5 25 rfl)
theorem lk_11_173 : zLk RX11 173 yX11_kindBy := Or.inl (in_t5 29 rfl)
theorem lk_11_176 : zLk RX11 176 yX11_readsDays := Or.inl (in_t5 32 rfl)
theorem lk_11_180 : zLk RX11 180 yX11_readsPiece := Or.inl (in_t5 21 rfl)
theorem kc_11_183 : Cond.constant RX11 183 (-1000100) ∈ lw_tbl := in_t5 36 rfl
theorem fw_11_184 : zFl RX11 184 11 9 false .int := ⟨RX11, TX11, tyX11, rfl, cl_11, tyX11_ok, nmX11, by decide, Or.inl (in_t4 80 rfl), rfl, by decide +kernel, fun h => by cases h⟩
theorem fl_11_184 : zFg RX11 184 11 9 := ⟨RX11, TX11, rfl, cl_11, by decide, Or.inl (in_t4 80 rfl)⟩
theorem lk_11_187 : zLk RX11 187 yX11_newEdition := Or.inl (in_t5 17 rfl)
theorem lk_11_191 : zLk RX11 191 yX11_isEdition := Or.inl (in_t5 45 rfl)
theorem lk_11_194 : zLk RX11 194 yX11_isPiece := Or.inl (in_t5 41 rfl)
theorem kc_11_198 : Cond.constant RX11 198 (-1000003) ∈ lw_tbl := in_t5 49 rfl
theorem lk_11_199 : zLk RX11 199 yX11_canTell := Or.inl (in_t5 77 rfl)
theorem lk_11_203 : zLk RX11 203 yX11_isOver := Or.inl (in_t5 69 rfl)
theorem lk_11_206 : zLk RX11 206 yX11_nextPiece := Or.inl (in_t5 73 rfl)
theorem lk_11_210 : zLk RX11 210 yX11_momentOf := Or.inl (in_t5 62 rfl)
theorem lk_11_213 : zLk RX11 213 yX11_comesNearer := Or.inl (in_t5 89 rfl)
theorem fw_11_217 : zFl RX11 217 11 42 false .int := ⟨RX11, TX11, tyX11, rfl, cl_11, tyX11_ok, nmX11, by decide, Or.inl (in_t4 113 rfl), rfl, by decide +kernel, fun h => by cases h⟩
theorem fl_11_217 : zFg RX11 217 11 42 := ⟨RX11, TX11, rfl, cl_11, by decide, Or.inl (in_t4 113 rfl)⟩
theorem lk_11_220 : zLk RX11 220 yX11_meets := Or.inl (in_t5 65 rfl)
theorem lk_11_224 : zLk RX11 224 yX11_findMoments := Or.inl (in_t5 58 rfl)
theorem lk_11_228 : zLk RX11 228 yX11_allHeard := Or.inl (in_t5 81 rfl)
theorem lk_11_231 : zLk RX11 231 yX11_findTimes := Or.inl (in_t5 85 rfl)
theorem lk_11_235 : zLk RX11 235 yX11_manyCan := Or.inl (in_t5 93 rfl)
theorem lk_11_238 : zLk RX11 238 yX11_canAsk := Or.inl (in_t5 101 rfl)
theorem lk_11_241 : zLk RX11 241 yX11_goesTo := Or.inl (in_t5 109 rfl)
theorem fw_11_245 : zFl RX11 245 11 27 false .int := ⟨RX11, TX11, tyX11, rfl, cl_11, tyX11_ok, nmX11, by decide, Or.inl (in_t4 98 rfl), rfl, by decide +kernel, fun h => by cases h⟩
theorem fl_11_245 : zFg RX11 245 11 27 := ⟨RX11, TX11, rfl, cl_11, by decide, Or.inl (in_t4 98 rfl)⟩
theorem kc_11_248 : Cond.constant RX11 248 (-1000005) ∈ lw_tbl := in_t5 117 rfl
theorem lk_11_249 : zLk RX11 249 yX11_listens := Or.inl (in_t5 118 rfl)
theorem lk_11_252 : zLk RX11 252 yX11_isWalker := Or.inl (in_t5 130 rfl)
theorem lk_11_255 : zLk RX11 255 yX11_isDone := Or.inl (in_t5 134 rfl)
theorem lk_11_258 : zLk RX11 258 yX11_comes := Or.inl (in_t5 138 rfl)
theorem lk_11_261 : zLk RX11 261 yX11_wayTo := Or.inl (in_t5 150 rfl)
theorem lk_11_264 : zLk RX11 264 yX11_othersAt := Or.inl (in_t5 154 rfl)
theorem lk_11_267 : zLk RX11 267 yJ9_abs_067f4 := Or.inl (in_t5 178 rfl)
theorem lk_11_271 : zLk RX11 271 yX11_isPossible := Or.inl (in_t5 174 rfl)
theorem lk_11_275 : zLk RX11 275 yX11_reads := Or.inl (in_t5 170 rfl)
theorem lk_11_279 : zLk RX11 279 yX11_isSheet := Or.inl (in_t5 185 rfl)
theorem kc_11_282 : Cond.constant RX11 282 (-1000007) ∈ lw_tbl := in_t5 188 rfl
theorem kc_11_283 : Cond.constant RX11 283 (-1000006) ∈ lw_tbl := in_t5 193 rfl
theorem lk_0_3 : Cond.methodLink RX0 3 objectInit ∈ lw_tbl := in_t1 105 rfl
theorem kl_0_9 : Cond.classLink RX0 9 RX2 ∈ lw_tbl := in_t1 106 rfl
theorem fw_0_11 : zFl RX0 11 0 0 true (.array (.object "WalkTeller$Piece")) := ⟨RX0, TX0, tyX0, rfl, cl_0, tyX0_ok, nmX0, by decide, Or.inl (in_t1 108 rfl), rfl, by decide +kernel, fun _ => ⟨rfl, in_t1 108 rfl⟩⟩
theorem fl_0_11 : zFg RX0 11 0 0 := ⟨RX0, TX0, rfl, cl_0, by decide, Or.inl (in_t1 108 rfl)⟩
theorem fw_0_17 : zFl RX0 17 0 1 false .int := ⟨RX0, TX0, tyX0, rfl, cl_0, tyX0_ok, nmX0, by decide, Or.inl (in_t1 109 rfl), rfl, by decide +kernel, fun h => by cases h⟩
theorem fl_0_17 : zFg RX0 17 0 1 := ⟨RX0, TX0, rfl, cl_0, by decide, Or.inl (in_t1 109 rfl)⟩
theorem fw_0_21 : zFl RX0 21 0 2 false .int := ⟨RX0, TX0, tyX0, rfl, cl_0, tyX0_ok, nmX0, by decide, Or.inl (in_t1 111 rfl), rfl, by decide +kernel, fun h => by cases h⟩
theorem fl_0_21 : zFg RX0 21 0 2 := ⟨RX0, TX0, rfl, cl_0, by decide, Or.inl (in_t1 111 rfl)⟩
theorem fl_0_24 : zFg RX0 24 2 0 := ⟨RX2, TX2, rfl, cl_2, by decide, Or.inr ⟨"WalkTeller", in_t2 179 rfl⟩⟩
theorem lk_0_27 : zLk RX0 27 yX10_isWithin := Or.inr ⟨"WalkTeller", in_t2 223 rfl⟩
theorem lk_0_31 : zLk RX0 31 yX10_has := Or.inr ⟨"WalkTeller", in_t3 26 rfl⟩
theorem lk_0_35 : zLk RX0 35 yX2_fits := Or.inl (in_t3 27 rfl)
theorem lk_0_38 : zLk RX0 38 yX0_nextPiece := Or.inl (in_t3 67 rfl)
theorem lk_1_3 : Cond.methodLink RX1 3 objectInit ∈ lw_tbl := in_t1 91 rfl
theorem fw_1_9 : zFl RX1 9 1 0 true (.array .int) := ⟨RX1, TX1, tyX1, rfl, cl_1, tyX1_ok, nmX1, by decide, Or.inl (in_t1 92 rfl), rfl, by decide +kernel, fun _ => ⟨rfl, in_t1 92 rfl⟩⟩
theorem fl_1_9 : zFg RX1 9 1 0 := ⟨RX1, TX1, rfl, cl_1, by decide, Or.inl (in_t1 92 rfl)⟩
theorem fw_1_15 : zFl RX1 15 1 1 true (.array .int) := ⟨RX1, TX1, tyX1, rfl, cl_1, tyX1_ok, nmX1, by decide, Or.inl (in_t1 93 rfl), rfl, by decide +kernel, fun _ => ⟨rfl, in_t1 93 rfl⟩⟩
theorem fl_1_15 : zFg RX1 15 1 1 := ⟨RX1, TX1, rfl, cl_1, by decide, Or.inl (in_t1 93 rfl)⟩
theorem kc_1_18 : Cond.constant RX1 18 (1000000000) ∈ lw_tbl := in_t2 15 rfl
theorem lk_1_19 : zLk RX1 19 yJ7_fill_53178 := Or.inl (in_t2 16 rfl)
theorem fw_1_25 : zFl RX1 25 7 4 false .int := ⟨RX7, TX7, tyX7, rfl, cl_7, tyX7_ok, nmX7, by decide, Or.inr ⟨"WalkTeller", in_t1 44 rfl⟩, rfl, by decide +kernel, fun h => by cases h⟩
theorem fl_1_25 : zFg RX1 25 7 4 := ⟨RX7, TX7, rfl, cl_7, by decide, Or.inr ⟨"WalkTeller", in_t1 44 rfl⟩⟩
theorem fl_1_31 : zFg RX1 31 7 2 := ⟨RX7, TX7, rfl, cl_7, by decide, Or.inr ⟨"WalkTeller", in_t1 40 rfl⟩⟩
theorem lk_1_35 : zLk RX1 35 yX9_isOpen := Or.inl (in_t2 19 rfl)
theorem fl_1_41 : zFg RX1 41 9 0 := ⟨RX9, TX9, rfl, cl_9, by decide, Or.inr ⟨"WalkTeller", in_t1 208 rfl⟩⟩
theorem fl_1_44 : zFg RX1 44 9 1 := ⟨RX9, TX9, rfl, cl_9, by decide, Or.inr ⟨"WalkTeller", in_t1 210 rfl⟩⟩
theorem fl_1_47 : zFg RX1 47 9 2 := ⟨RX9, TX9, rfl, cl_9, by decide, Or.inr ⟨"WalkTeller", in_t1 212 rfl⟩⟩
theorem lk_1_50 : zLk RX1 50 yX1_join := Or.inl (in_t2 34 rfl)
theorem lk_1_54 : Cond.methodLink RX1 54 Lib.Math.min.name ∈ lw_tbl := in_t2 38 rfl
theorem lk_1_60 : zLk RX1 60 yX10_has := Or.inr ⟨"WalkTeller", in_t2 47 rfl⟩
theorem lk_1_64 : zLk RX1 64 yX1_lessenOne := Or.inl (in_t2 48 rfl)
theorem lk_1_68 : zLk RX1 68 yX1_step := Or.inl (in_t2 52 rfl)
theorem lk_2_3 : Cond.methodLink RX2 3 objectInit ∈ lw_tbl := in_t2 177 rfl
theorem fw_2_9 : zFl RX2 9 2 0 true .int := ⟨RX2, TX2, tyX2, rfl, cl_2, tyX2_ok, nmX2, by decide, Or.inl (in_t2 178 rfl), rfl, by decide +kernel, fun _ => ⟨rfl, in_t2 178 rfl⟩⟩
theorem fl_2_9 : zFg RX2 9 2 0 := ⟨RX2, TX2, rfl, cl_2, by decide, Or.inl (in_t2 178 rfl)⟩
theorem fw_2_15 : zFl RX2 15 2 1 true .int := ⟨RX2, TX2, tyX2, rfl, cl_2, tyX2_ok, nmX2, by decide, Or.inl (in_t2 181 rfl), rfl, by decide +kernel, fun _ => ⟨rfl, in_t2 181 rfl⟩⟩
theorem fl_2_15 : zFg RX2 15 2 1 := ⟨RX2, TX2, rfl, cl_2, by decide, Or.inl (in_t2 181 rfl)⟩
theorem fw_2_18 : zFl RX2 18 2 2 true .int := ⟨RX2, TX2, tyX2, rfl, cl_2, tyX2_ok, nmX2, by decide, Or.inl (in_t2 183 rfl), rfl, by decide +kernel, fun _ => ⟨rfl, in_t2 183 rfl⟩⟩
theorem fl_2_18 : zFg RX2 18 2 2 := ⟨RX2, TX2, rfl, cl_2, by decide, Or.inl (in_t2 183 rfl)⟩
theorem fw_2_21 : zFl RX2 21 2 3 true .int := ⟨RX2, TX2, tyX2, rfl, cl_2, tyX2_ok, nmX2, by decide, Or.inl (in_t2 187 rfl), rfl, by decide +kernel, fun _ => ⟨rfl, in_t2 187 rfl⟩⟩
theorem fl_2_21 : zFg RX2 21 2 3 := ⟨RX2, TX2, rfl, cl_2, by decide, Or.inl (in_t2 187 rfl)⟩
theorem fw_2_24 : zFl RX2 24 2 4 true .int := ⟨RX2, TX2, tyX2, rfl, cl_2, tyX2_ok, nmX2, by decide, Or.inl (in_t2 189 rfl), rfl, by decide +kernel, fun _ => ⟨rfl, in_t2 189 rfl⟩⟩
theorem fl_2_24 : zFg RX2 24 2 4 := ⟨RX2, TX2, rfl, cl_2, by decide, Or.inl (in_t2 189 rfl)⟩
theorem lk_3_3 : Cond.methodLink RX3 3 objectInit ∈ lw_tbl := in_t2 79 rfl
theorem fw_3_9 : zFl RX3 9 3 2 false .int := ⟨RX3, TX3, tyX3, rfl, cl_3, tyX3_ok, nmX3, by decide, Or.inl (in_t2 82 rfl), rfl, by decide +kernel, fun h => by cases h⟩
theorem fl_3_9 : zFg RX3 9 3 2 := ⟨RX3, TX3, rfl, cl_3, by decide, Or.inl (in_t2 82 rfl)⟩
theorem fw_3_15 : zFl RX3 15 3 0 true (.object "WalkTeller$Tape") := ⟨RX3, TX3, tyX3, rfl, cl_3, tyX3_ok, nmX3, by decide, Or.inl (in_t2 80 rfl), rfl, by decide +kernel, fun _ => ⟨rfl, in_t2 80 rfl⟩⟩
theorem fl_3_15 : zFg RX3 15 3 0 := ⟨RX3, TX3, rfl, cl_3, by decide, Or.inl (in_t2 80 rfl)⟩
theorem fw_3_19 : zFl RX3 19 3 1 true .int := ⟨RX3, TX3, tyX3, rfl, cl_3, tyX3_ok, nmX3, by decide, Or.inl (in_t2 81 rfl), rfl, by decide +kernel, fun _ => ⟨rfl, in_t2 81 rfl⟩⟩
theorem fl_3_19 : zFg RX3 19 3 1 := ⟨RX3, TX3, rfl, cl_3, by decide, Or.inl (in_t2 81 rfl)⟩
theorem kl_3_22 : Cond.classLink RX3 22 RX0 ∈ lw_tbl := in_t2 95 rfl
theorem lk_3_24 : zLk RX3 24 yX0_init := Or.inr ⟨"WalkTeller", in_t2 96 rfl⟩
theorem lk_3_25 : zLk RX3 25 yX3_readPiece := Or.inl (in_t2 97 rfl)
theorem lk_3_29 : zLk RX3 29 yX0_addPiece := Or.inl (in_t2 202 rfl)
theorem fw_3_33 : zFl RX3 33 6 1 false .int := ⟨RX6, TX6, tyX6, rfl, cl_6, tyX6_ok, nmX6, by decide, Or.inr ⟨"WalkTeller", in_t1 66 rfl⟩, rfl, by decide +kernel, fun h => by cases h⟩
theorem fl_3_33 : zFg RX3 33 6 1 := ⟨RX6, TX6, rfl, cl_6, by decide, Or.inr ⟨"WalkTeller", in_t1 66 rfl⟩⟩
theorem lk_3_38 : zLk RX3 38 yX3_takeOneOf := Or.inl (in_t2 101 rfl)
theorem lk_3_42 : zLk RX3 42 yX3_takeKind := Or.inl (in_t2 111 rfl)
theorem lk_3_46 : zLk RX3 46 yX3_takeRising := Or.inl (in_t2 164 rfl)
theorem lk_3_49 : zLk RX3 49 yX3_takeSign := Or.inl (in_t2 168 rfl)
theorem kl_3_53 : Cond.classLink RX3 53 RX2 ∈ lw_tbl := in_t2 172 rfl
theorem lk_3_55 : zLk RX3 55 yX2_init := Or.inl (in_t2 174 rfl)
theorem lk_3_58 : zLk RX3 58 yX6_byteAt := Or.inl (in_t2 105 rfl)
theorem lk_3_64 : zLk RX3 64 yJ0_length_8abf5 := Or.inl (in_t2 116 rfl)
theorem lk_3_68 : zLk RX3 68 yJ0_charAt_5068e := Or.inl (in_t2 126 rfl)
theorem lk_3_72 : zLk RX3 72 yX10_isWithin := Or.inr ⟨"WalkTeller", in_t2 110 rfl⟩
theorem lk_4_3 : Cond.methodLink RX4 3 objectInit ∈ lw_tbl := in_t1 85 rfl
theorem kl_4_9 : Cond.classLink RX4 9 RX1 ∈ lw_tbl := in_t1 86 rfl
theorem lk_4_11 : zLk RX4 11 yX1_init := Or.inr ⟨"WalkTeller", in_t1 88 rfl⟩
theorem fw_4_12 : zFl RX4 12 4 0 true (.object "WalkTeller$Net") := ⟨RX4, TX4, tyX4, rfl, cl_4, tyX4_ok, nmX4, by decide, Or.inl (in_t1 119 rfl), rfl, by decide +kernel, fun _ => ⟨rfl, in_t1 119 rfl⟩⟩
theorem fl_4_12 : zFg RX4 12 4 0 := ⟨RX4, TX4, rfl, cl_4, by decide, Or.inl (in_t1 119 rfl)⟩
theorem fw_4_18 : zFl RX4 18 4 1 true (.array .int) := ⟨RX4, TX4, tyX4, rfl, cl_4, tyX4_ok, nmX4, by decide, Or.inl (in_t1 120 rfl), rfl, by decide +kernel, fun _ => ⟨rfl, in_t1 120 rfl⟩⟩
theorem fl_4_18 : zFg RX4 18 4 1 := ⟨RX4, TX4, rfl, cl_4, by decide, Or.inl (in_t1 120 rfl)⟩
theorem fw_4_22 : zFl RX4 22 4 2 false (.array .int) := ⟨RX4, TX4, tyX4, rfl, cl_4, tyX4_ok, nmX4, by decide, Or.inl (in_t1 121 rfl), rfl, by decide +kernel, fun h => by cases h⟩
theorem fl_4_22 : zFg RX4 22 4 2 := ⟨RX4, TX4, rfl, cl_4, by decide, Or.inl (in_t1 121 rfl)⟩
theorem fw_4_25 : zFl RX4 25 4 3 false (.array .int) := ⟨RX4, TX4, tyX4, rfl, cl_4, tyX4_ok, nmX4, by decide, Or.inl (in_t1 122 rfl), rfl, by decide +kernel, fun h => by cases h⟩
theorem fl_4_25 : zFg RX4 25 4 3 := ⟨RX4, TX4, rfl, cl_4, by decide, Or.inl (in_t1 122 rfl)⟩
theorem kl_4_28 : Cond.classLink RX4 28 RX0 ∈ lw_tbl := in_t1 100 rfl
theorem lk_4_30 : zLk RX4 30 yX0_init := Or.inr ⟨"WalkTeller", in_t1 102 rfl⟩
theorem fw_4_31 : zFl RX4 31 4 4 false (.object "WalkTeller$Edition") := ⟨RX4, TX4, tyX4, rfl, cl_4, tyX4_ok, nmX4, by decide, Or.inl (in_t1 123 rfl), rfl, by decide +kernel, fun h => by cases h⟩
theorem fl_4_31 : zFg RX4 31 4 4 := ⟨RX4, TX4, rfl, cl_4, by decide, Or.inl (in_t1 123 rfl)⟩
theorem fw_4_35 : zFl RX4 35 4 5 false .int := ⟨RX4, TX4, tyX4, rfl, cl_4, tyX4_ok, nmX4, by decide, Or.inl (in_t1 124 rfl), rfl, by decide +kernel, fun h => by cases h⟩
theorem fl_4_35 : zFg RX4 35 4 5 := ⟨RX4, TX4, rfl, cl_4, by decide, Or.inl (in_t1 124 rfl)⟩
theorem fw_4_39 : zFl RX4 39 4 6 false .int := ⟨RX4, TX4, tyX4, rfl, cl_4, tyX4_ok, nmX4, by decide, Or.inl (in_t1 125 rfl), rfl, by decide +kernel, fun h => by cases h⟩
theorem fl_4_39 : zFg RX4 39 4 6 := ⟨RX4, TX4, rfl, cl_4, by decide, Or.inl (in_t1 125 rfl)⟩
theorem fw_4_42 : zFl RX4 42 4 7 false .int := ⟨RX4, TX4, tyX4, rfl, cl_4, tyX4_ok, nmX4, by decide, Or.inl (in_t1 126 rfl), rfl, by decide +kernel, fun h => by cases h⟩
theorem fl_4_42 : zFg RX4 42 4 7 := ⟨RX4, TX4, rfl, cl_4, by decide, Or.inl (in_t1 126 rfl)⟩
theorem lk_4_45 : zLk RX4 45 yX1_lay := Or.inl (in_t2 11 rfl)
theorem kc_4_49 : Cond.constant RX4 49 (1000000000) ∈ lw_tbl := in_t2 41 rfl
theorem lk_4_50 : zLk RX4 50 yJ7_fill_53178 := Or.inl (in_t2 42 rfl)
theorem lk_4_56 : zLk RX4 56 yX1_lessen := Or.inl (in_t2 43 rfl)
theorem fw_4_60 : zFl RX4 60 0 1 false .int := ⟨RX0, TX0, tyX0, rfl, cl_0, tyX0_ok, nmX0, by decide, Or.inr ⟨"WalkTeller", in_t1 110 rfl⟩, rfl, by decide +kernel, fun h => by cases h⟩
theorem fl_4_60 : zFg RX4 60 0 1 := ⟨RX0, TX0, rfl, cl_0, by decide, Or.inr ⟨"WalkTeller", in_t1 110 rfl⟩⟩
theorem lk_4_63 : zLk RX4 63 yX4_clearReached := Or.inl (in_t3 5 rfl)
theorem lk_4_66 : zLk RX4 66 yX4_reachFrom := Or.inl (in_t3 9 rfl)
theorem lk_4_70 : zLk RX4 70 yX4_timeSet := Or.inl (in_t3 31 rfl)
theorem lk_4_73 : zLk RX4 73 yX0_isOver := Or.inl (in_t3 13 rfl)
theorem lk_4_77 : zLk RX4 77 yX10_has := Or.inr ⟨"WalkTeller", in_t3 17 rfl⟩
theorem lk_4_81 : zLk RX4 81 yX4_reachNext := Or.inl (in_t3 18 rfl)
theorem lk_4_85 : zLk RX4 85 yX0_nextPiece := Or.inl (in_t3 22 rfl)
theorem fl_4_89 : zFg RX4 89 1 1 := ⟨RX1, TX1, rfl, cl_1, by decide, Or.inr ⟨"WalkTeller", in_t1 94 rfl⟩⟩
theorem lk_4_92 : zLk RX4 92 yX4_timeToldHere := Or.inl (in_t3 35 rfl)
theorem lk_4_96 : zLk RX4 96 yX0_findPiece := Or.inl (in_t3 39 rfl)
theorem fl_4_100 : zFg RX4 100 2 2 := ⟨RX2, TX2, rfl, cl_2, by decide, Or.inr ⟨"WalkTeller", in_t2 185 rfl⟩⟩
theorem lk_4_105 : zLk RX4 105 yX4_timeFrom := Or.inl (in_t3 40 rfl)
theorem lk_4_108 : Cond.methodLink RX4 108 Lib.Math.min.name ∈ lw_tbl := in_t3 44 rfl
theorem lk_4_113 : zLk RX4 113 yX1_step := Or.inl (in_t3 93 rfl)
theorem lk_4_116 : zLk RX4 116 yJ6_bitCount_0f7a4 := Or.inl (in_t3 49 rfl)
theorem lk_4_122 : zLk RX4 122 yX0_hasTwoVoices := Or.inl (in_t3 63 rfl)
theorem lk_4_126 : zLk RX4 126 yX4_quickestStep := Or.inl (in_t3 85 rfl)
theorem lk_4_129 : zLk RX4 129 yX4_timeBy := Or.inl (in_t3 89 rfl)
theorem lk_5_1 : Cond.methodLink RX5 1 objectInit ∈ lw_tbl := in_t4 23 rfl
theorem fw_5_7 : zFl RX5 7 5 0 true .int := ⟨RX5, TX5, tyX5, rfl, cl_5, tyX5_ok, nmX5, by decide, Or.inl (in_t4 27 rfl), rfl, by decide +kernel, fun _ => ⟨rfl, in_t4 27 rfl⟩⟩
theorem fl_5_7 : zFg RX5 7 5 0 := ⟨RX5, TX5, rfl, cl_5, by decide, Or.inl (in_t4 27 rfl)⟩
theorem lk_5_13 : Cond.methodLink RX5 13 Lib.Math.max.name ∈ lw_tbl := in_t4 24 rfl
theorem fw_5_19 : zFl RX5 19 5 1 true (.array .int) := ⟨RX5, TX5, tyX5, rfl, cl_5, tyX5_ok, nmX5, by decide, Or.inl (in_t4 29 rfl), rfl, by decide +kernel, fun _ => ⟨rfl, in_t4 29 rfl⟩⟩
theorem fl_5_19 : zFg RX5 19 5 1 := ⟨RX5, TX5, rfl, cl_5, by decide, Or.inl (in_t4 29 rfl)⟩
theorem lk_6_3 : Cond.methodLink RX6 3 objectInit ∈ lw_tbl := in_t1 63 rfl
theorem fw_6_9 : zFl RX6 9 6 0 true (.array .byte) := ⟨RX6, TX6, tyX6, rfl, cl_6, tyX6_ok, nmX6, by decide, Or.inl (in_t1 64 rfl), rfl, by decide +kernel, fun _ => ⟨rfl, in_t1 64 rfl⟩⟩
theorem fl_6_9 : zFg RX6 9 6 0 := ⟨RX6, TX6, rfl, cl_6, by decide, Or.inl (in_t1 64 rfl)⟩
theorem fw_6_15 : zFl RX6 15 6 1 false .int := ⟨RX6, TX6, tyX6, rfl, cl_6, tyX6_ok, nmX6, by decide, Or.inl (in_t1 65 rfl), rfl, by decide +kernel, fun h => by cases h⟩
theorem fl_6_15 : zFg RX6 15 6 1 := ⟨RX6, TX6, rfl, cl_6, by decide, Or.inl (in_t1 65 rfl)⟩
theorem lk_6_19 : zLk RX6 19 yX10_isWithin := Or.inr ⟨"WalkTeller", in_t2 109 rfl⟩
theorem lk_7_3 : Cond.methodLink RX7 3 objectInit ∈ lw_tbl := in_t1 34 rfl
theorem fw_7_9 : zFl RX7 9 7 0 true (.array .int) := ⟨RX7, TX7, tyX7, rfl, cl_7, tyX7_ok, nmX7, by decide, Or.inl (in_t1 37 rfl), rfl, by decide +kernel, fun _ => ⟨rfl, in_t1 37 rfl⟩⟩
theorem fl_7_9 : zFg RX7 9 7 0 := ⟨RX7, TX7, rfl, cl_7, by decide, Or.inl (in_t1 37 rfl)⟩
theorem fw_7_15 : zFl RX7 15 7 1 true (.array .int) := ⟨RX7, TX7, tyX7, rfl, cl_7, tyX7_ok, nmX7, by decide, Or.inl (in_t1 38 rfl), rfl, by decide +kernel, fun _ => ⟨rfl, in_t1 38 rfl⟩⟩
theorem fl_7_15 : zFg RX7 15 7 1 := ⟨RX7, TX7, rfl, cl_7, by decide, Or.inl (in_t1 38 rfl)⟩
theorem kl_7_18 : Cond.classLink RX7 18 RX9 ∈ lw_tbl := in_t1 35 rfl
theorem fw_7_20 : zFl RX7 20 7 2 true (.array (.object "WalkTeller$Way")) := ⟨RX7, TX7, tyX7, rfl, cl_7, tyX7_ok, nmX7, by decide, Or.inl (in_t1 39 rfl), rfl, by decide +kernel, fun _ => ⟨rfl, in_t1 39 rfl⟩⟩
theorem fl_7_20 : zFg RX7 20 7 2 := ⟨RX7, TX7, rfl, cl_7, by decide, Or.inl (in_t1 39 rfl)⟩
theorem fw_7_24 : zFl RX7 24 7 3 false .int := ⟨RX7, TX7, tyX7, rfl, cl_7, tyX7_ok, nmX7, by decide, Or.inl (in_t1 41 rfl), rfl, by decide +kernel, fun h => by cases h⟩
theorem fl_7_24 : zFg RX7 24 7 3 := ⟨RX7, TX7, rfl, cl_7, by decide, Or.inl (in_t1 41 rfl)⟩
theorem fw_7_28 : zFl RX7 28 7 4 false .int := ⟨RX7, TX7, tyX7, rfl, cl_7, tyX7_ok, nmX7, by decide, Or.inl (in_t1 43 rfl), rfl, by decide +kernel, fun h => by cases h⟩
theorem fl_7_28 : zFg RX7 28 7 4 := ⟨RX7, TX7, rfl, cl_7, by decide, Or.inl (in_t1 43 rfl)⟩
theorem lk_7_31 : zLk RX7 31 yX10_isWithin := Or.inr ⟨"WalkTeller", in_t1 200 rfl⟩
theorem lk_7_35 : zLk RX7 35 yX9_isOpen := Or.inl (in_t4 4 rfl)
theorem lk_7_39 : zLk RX7 39 yX9_leadsFrom := Or.inl (in_t4 5 rfl)
theorem lk_7_43 : zLk RX7 43 yX9_otherEnd := Or.inl (in_t4 6 rfl)
theorem lk_8_3 : Cond.methodLink RX8 3 objectInit ∈ lw_tbl := in_t3 103 rfl
theorem fw_8_9 : zFl RX8 9 8 3 false .int := ⟨RX8, TX8, tyX8, rfl, cl_8, tyX8_ok, nmX8, by decide, Or.inl (in_t3 110 rfl), rfl, by decide +kernel, fun h => by cases h⟩
theorem fl_8_9 : zFg RX8 9 8 3 := ⟨RX8, TX8, rfl, cl_8, by decide, Or.inl (in_t3 110 rfl)⟩
theorem fw_8_15 : zFl RX8 15 8 4 false .int := ⟨RX8, TX8, tyX8, rfl, cl_8, tyX8_ok, nmX8, by decide, Or.inl (in_t3 112 rfl), rfl, by decide +kernel, fun h => by cases h⟩
theorem fl_8_15 : zFg RX8 15 8 4 := ⟨RX8, TX8, rfl, cl_8, by decide, Or.inl (in_t3 112 rfl)⟩
theorem fw_8_18 : zFl RX8 18 8 5 false .int := ⟨RX8, TX8, tyX8, rfl, cl_8, tyX8_ok, nmX8, by decide, Or.inl (in_t3 114 rfl), rfl, by decide +kernel, fun h => by cases h⟩
theorem fl_8_18 : zFg RX8 18 8 5 := ⟨RX8, TX8, rfl, cl_8, by decide, Or.inl (in_t3 114 rfl)⟩
theorem fw_8_21 : zFl RX8 21 8 6 false .int := ⟨RX8, TX8, tyX8, rfl, cl_8, tyX8_ok, nmX8, by decide, Or.inl (in_t3 116 rfl), rfl, by decide +kernel, fun h => by cases h⟩
theorem fl_8_21 : zFg RX8 21 8 6 := ⟨RX8, TX8, rfl, cl_8, by decide, Or.inl (in_t3 116 rfl)⟩
theorem fw_8_24 : zFl RX8 24 8 7 false .int := ⟨RX8, TX8, tyX8, rfl, cl_8, tyX8_ok, nmX8, by decide, Or.inl (in_t3 118 rfl), rfl, by decide +kernel, fun h => by cases h⟩
theorem fl_8_24 : zFg RX8 24 8 7 := ⟨RX8, TX8, rfl, cl_8, by decide, Or.inl (in_t3 118 rfl)⟩
theorem fw_8_27 : zFl RX8 27 8 8 false .int := ⟨RX8, TX8, tyX8, rfl, cl_8, tyX8_ok, nmX8, by decide, Or.inl (in_t3 119 rfl), rfl, by decide +kernel, fun h => by cases h⟩
theorem fl_8_27 : zFg RX8 27 8 8 := ⟨RX8, TX8, rfl, cl_8, by decide, Or.inl (in_t3 119 rfl)⟩
theorem fw_8_30 : zFl RX8 30 8 0 true (.object "WalkTeller$Edition") := ⟨RX8, TX8, tyX8, rfl, cl_8, tyX8_ok, nmX8, by decide, Or.inl (in_t3 104 rfl), rfl, by decide +kernel, fun _ => ⟨rfl, in_t3 104 rfl⟩⟩
theorem fl_8_30 : zFg RX8 30 8 0 := ⟨RX8, TX8, rfl, cl_8, by decide, Or.inl (in_t3 104 rfl)⟩
theorem fw_8_34 : zFl RX8 34 8 1 true .int := ⟨RX8, TX8, tyX8, rfl, cl_8, tyX8_ok, nmX8, by decide, Or.inl (in_t3 106 rfl), rfl, by decide +kernel, fun _ => ⟨rfl, in_t3 106 rfl⟩⟩
theorem fl_8_34 : zFg RX8 34 8 1 := ⟨RX8, TX8, rfl, cl_8, by decide, Or.inl (in_t3 106 rfl)⟩
theorem fw_8_37 : zFl RX8 37 8 2 true .boolean := ⟨RX8, TX8, tyX8, rfl, cl_8, tyX8_ok, nmX8, by decide, Or.inl (in_t3 108 rfl), rfl, by decide +kernel, fun _ => ⟨rfl, in_t3 108 rfl⟩⟩
theorem fl_8_37 : zFg RX8 37 8 2 := ⟨RX8, TX8, rfl, cl_8, by decide, Or.inl (in_t3 108 rfl)⟩
theorem lk_8_41 : zLk RX8 41 yX0_isOver := Or.inl (in_t3 155 rfl)
theorem lk_8_47 : zLk RX8 47 yX8_isOver := Or.inl (in_t3 151 rfl)
theorem lk_8_50 : zLk RX8 50 yX0_nextPiece := Or.inl (in_t3 156 rfl)
theorem lk_8_54 : zLk RX8 54 yX0_findPiece := Or.inl (in_t3 157 rfl)
theorem fl_8_58 : zFg RX8 58 2 2 := ⟨RX2, TX2, rfl, cl_2, by decide, Or.inr ⟨"WalkTeller", in_t2 184 rfl⟩⟩
theorem lk_8_63 : zLk RX8 63 yX8_forgetSightings := Or.inl (in_t3 143 rfl)
theorem lk_8_66 : zLk RX8 66 yX8_listen := Or.inl (in_t3 147 rfl)
theorem lk_8_70 : zLk RX8 70 yX7_possibleCorners := Or.inl (in_t3 226 rfl)
theorem lk_8_76 : zLk RX8 76 yX10_has := Or.inr ⟨"WalkTeller", in_t3 230 rfl⟩
theorem lk_8_80 : zLk RX8 80 yJ6_bitCount_0f7a4 := Or.inl (in_t3 231 rfl)
theorem lk_8_85 : zLk RX8 85 yJ6_numberOfTrailingZeros_0f7a4 := Or.inl (in_t3 232 rfl)
theorem lk_8_88 : zLk RX8 88 yX8_sight := Or.inl (in_t3 236 rfl)
theorem lk_8_92 : zLk RX8 92 yX7_isJoined := Or.inl (in_t4 0 rfl)
theorem lk_8_96 : zLk RX8 96 yX8_arrive := Or.inl (in_t4 7 rfl)
theorem lk_9_1 : Cond.methodLink RX9 1 objectInit ∈ lw_tbl := in_t1 206 rfl
theorem fw_9_7 : zFl RX9 7 9 4 false .int := ⟨RX9, TX9, tyX9, rfl, cl_9, tyX9_ok, nmX9, by decide, Or.inl (in_t1 215 rfl), rfl, by decide +kernel, fun h => by cases h⟩
theorem fl_9_7 : zFg RX9 7 9 4 := ⟨RX9, TX9, rfl, cl_9, by decide, Or.inl (in_t1 215 rfl)⟩
theorem fw_9_13 : zFl RX9 13 9 0 true .int := ⟨RX9, TX9, tyX9, rfl, cl_9, tyX9_ok, nmX9, by decide, Or.inl (in_t1 207 rfl), rfl, by decide +kernel, fun _ => ⟨rfl, in_t1 207 rfl⟩⟩
theorem fl_9_13 : zFg RX9 13 9 0 := ⟨RX9, TX9, rfl, cl_9, by decide, Or.inl (in_t1 207 rfl)⟩
theorem fw_9_16 : zFl RX9 16 9 1 true .int := ⟨RX9, TX9, tyX9, rfl, cl_9, tyX9_ok, nmX9, by decide, Or.inl (in_t1 209 rfl), rfl, by decide +kernel, fun _ => ⟨rfl, in_t1 209 rfl⟩⟩
theorem fl_9_16 : zFg RX9 16 9 1 := ⟨RX9, TX9, rfl, cl_9, by decide, Or.inl (in_t1 209 rfl)⟩
theorem fw_9_19 : zFl RX9 19 9 2 true .int := ⟨RX9, TX9, tyX9, rfl, cl_9, tyX9_ok, nmX9, by decide, Or.inl (in_t1 211 rfl), rfl, by decide +kernel, fun _ => ⟨rfl, in_t1 211 rfl⟩⟩
theorem fl_9_19 : zFg RX9 19 9 2 := ⟨RX9, TX9, rfl, cl_9, by decide, Or.inl (in_t1 211 rfl)⟩
theorem fw_9_22 : zFl RX9 22 9 3 true .boolean := ⟨RX9, TX9, tyX9, rfl, cl_9, tyX9_ok, nmX9, by decide, Or.inl (in_t1 214 rfl), rfl, by decide +kernel, fun _ => ⟨rfl, in_t1 214 rfl⟩⟩
theorem fl_9_22 : zFg RX9 22 9 3 := ⟨RX9, TX9, rfl, cl_9, by decide, Or.inl (in_t1 214 rfl)⟩
theorem lk_9_26 : zLk RX9 26 yX10_has := Or.inr ⟨"WalkTeller", in_t2 27 rfl⟩
theorem lk_9_32 : zLk RX9 32 yX9_isShut := Or.inl (in_t2 23 rfl)
theorem lk_9_36 : zLk RX9 36 yX9_isFor := Or.inl (in_t2 30 rfl)
theorem kl_L_7 : Cond.classLink R_law 7 RX10 ∈ lw_tbl := in_t1 21 rfl
theorem lk_L_9 : zLk R_law 9 yX10_init := Or.inl (in_t1 23 rfl)
theorem kl_L_10 : Cond.classLink R_law 10 RX11 ∈ lw_tbl := in_t4 64 rfl
theorem lk_L_12 : zLk R_law 12 yX11_init := Or.inl (in_t4 66 rfl)
theorem lk_L_13 : zLk R_law 13 yX10_corner := Or.inl (in_t1 175 rfl)
theorem lk_L_17 : zLk R_law 17 yX11_corner := Or.inl (in_t4 205 rfl)
theorem lk_L_18 : zLk R_law 18 yX10_way := Or.inl (in_t1 192 rfl)
theorem lk_L_22 : zLk R_law 22 yX11_way := Or.inl (in_t4 218 rfl)
theorem lk_L_23 : zLk R_law 23 yX10_shut := Or.inl (in_t1 232 rfl)
theorem lk_L_26 : zLk R_law 26 yX11_shut := Or.inl (in_t4 226 rfl)
theorem lk_L_27 : zLk R_law 27 yX10_far := Or.inl (in_t2 0 rfl)
theorem lk_L_30 : zLk R_law 30 yX11_far := Or.inl (in_t4 234 rfl)
theorem kc_L_31 : Cond.constantLong R_law 31 (4294967295) ∈ lw_tbl := in_t5 206 rfl
theorem lk_L_33 : zLk R_law 33 yX10_feed := Or.inl (in_t2 62 rfl)
theorem lk_L_37 : zLk R_law 37 yX11_feed := Or.inl (in_t5 8 rfl)
theorem lk_L_38 : zLk R_law 38 yX10_story := Or.inl (in_t2 70 rfl)
theorem lk_L_42 : zLk R_law 42 yX11_story := Or.inl (in_t5 13 rfl)
theorem lk_L_43 : zLk R_law 43 yX10_as := Or.inl (in_t2 207 rfl)
theorem lk_L_47 : zLk R_law 47 yX11_as := Or.inl (in_t5 37 rfl)
theorem lk_L_48 : zLk R_law 48 yX10_of := Or.inl (in_t2 229 rfl)
theorem lk_L_51 : zLk R_law 51 yX11_of := Or.inl (in_t5 50 rfl)
theorem lk_L_52 : zLk R_law 52 yX10_check := Or.inl (in_t2 233 rfl)
theorem lk_L_56 : zLk R_law 56 yX11_check := Or.inl (in_t5 54 rfl)
theorem lk_L_57 : zLk R_law 57 yX10_quickest := Or.inl (in_t3 72 rfl)
theorem lk_L_60 : zLk R_law 60 yX11_quickest := Or.inl (in_t5 97 rfl)
theorem lk_L_61 : zLk R_law 61 yX10_route := Or.inl (in_t3 77 rfl)
theorem lk_L_64 : zLk R_law 64 yX11_route := Or.inl (in_t5 105 rfl)
theorem lk_L_65 : zLk R_law 65 yX10_walker := Or.inl (in_t3 94 rfl)
theorem lk_L_69 : zLk R_law 69 yX11_walker := Or.inl (in_t5 113 rfl)
theorem lk_L_70 : zLk R_law 70 yX10_today := Or.inl (in_t3 158 rfl)
theorem lk_L_74 : zLk R_law 74 yX11_today := Or.inl (in_t5 122 rfl)
theorem lk_L_75 : zLk R_law 75 yX10_go := Or.inl (in_t3 163 rfl)
theorem lk_L_78 : zLk R_law 78 yX11_go := Or.inl (in_t5 126 rfl)
theorem lk_L_79 : zLk R_law 79 yX10_about := Or.inl (in_t3 182 rfl)
theorem lk_L_82 : zLk R_law 82 yX11_about := Or.inl (in_t5 142 rfl)
theorem lk_L_83 : zLk R_law 83 yX10_offer := Or.inl (in_t3 186 rfl)
theorem lk_L_86 : zLk R_law 86 yX11_offer := Or.inl (in_t5 146 rfl)
theorem lk_L_87 : zLk R_law 87 yX10_rest := Or.inl (in_t3 203 rfl)
theorem lk_L_90 : zLk R_law 90 yX11_rest := Or.inl (in_t5 158 rfl)
theorem lk_L_91 : zLk R_law 91 yX10_lost := Or.inl (in_t3 207 rfl)
theorem lk_L_94 : zLk R_law 94 yX11_lost := Or.inl (in_t5 162 rfl)
theorem lk_L_95 : zLk R_law 95 yX10_seen := Or.inl (in_t3 215 rfl)
theorem lk_L_99 : zLk R_law 99 yX11_seen := Or.inl (in_t5 166 rfl)
theorem lk_L_100 : zLk R_law 100 yX10_sheet := Or.inl (in_t4 8 rfl)
theorem lk_L_103 : zLk R_law 103 yX11_sheet := Or.inl (in_t5 181 rfl)
theorem lk_L_104 : zLk R_law 104 yX10_write := Or.inl (in_t4 36 rfl)
theorem lk_L_107 : zLk R_law 107 yX11_write := Or.inl (in_t5 189 rfl)
theorem lk_L_108 : zLk R_law 108 yX10_copy := Or.inl (in_t4 45 rfl)
theorem lk_L_112 : zLk R_law 112 yX11_copy := Or.inl (in_t5 194 rfl)
theorem lk_L_113 : zLk R_law 113 yX10_trace := Or.inl (in_t4 56 rfl)
theorem lk_L_116 : zLk R_law 116 yX11_trace := Or.inl (in_t5 198 rfl)
theorem lk_L_117 : zLk R_law 117 yX10_told := Or.inl (in_t4 60 rfl)
theorem lk_L_120 : zLk R_law 120 yX11_told := Or.inl (in_t5 202 rfl)
theorem yy_X10_init : zY yX10_init cX10_init 1 none 0 := ⟨in_t1 25 rfl, in_t1 1 rfl, ⟨by decide +kernel, by decide +kernel⟩, by decide +kernel⟩
theorem im_X10_init : Cond.instanceMethod yX10_init ∈ lw_tbl := in_t1 24 rfl
theorem yy_X7_init : zY yX7_init cX7_init 1 none 0 := ⟨in_t1 33 rfl, in_t1 2 rfl, ⟨by decide +kernel, by decide +kernel⟩, by decide +kernel⟩
theorem im_X7_init : Cond.instanceMethod yX7_init ∈ lw_tbl := in_t1 32 rfl
theorem yy_X6_init : zY yX6_init cX6_init 1 none 0 := ⟨in_t1 62 rfl, in_t1 3 rfl, ⟨by decide +kernel, by decide +kernel⟩, by decide +kernel⟩
theorem im_X6_init : Cond.instanceMethod yX6_init ∈ lw_tbl := in_t1 61 rfl
theorem yy_X4_init : zY yX4_init cX4_init 1 none 0 := ⟨in_t1 84 rfl, in_t1 4 rfl, ⟨by decide +kernel, by decide +kernel⟩, by decide +kernel⟩
theorem im_X4_init : Cond.instanceMethod yX4_init ∈ lw_tbl := in_t1 83 rfl
theorem yy_X1_init : zY yX1_init cX1_init 1 none 0 := ⟨in_t1 90 rfl, in_t1 5 rfl, ⟨by decide +kernel, by decide +kernel⟩, by decide +kernel⟩
theorem im_X1_init : Cond.instanceMethod yX1_init ∈ lw_tbl := in_t1 89 rfl
theorem yy_X0_init : zY yX0_init cX0_init 1 none 0 := ⟨in_t1 104 rfl, in_t1 6 rfl, ⟨by decide +kernel, by decide +kernel⟩, by decide +kernel⟩
theorem im_X0_init : Cond.instanceMethod yX0_init ∈ lw_tbl := in_t1 103 rfl
theorem yy_X10_corner : zY yX10_corner cX10_corner 3 (some .int) 2 := ⟨in_t1 178 rfl, in_t1 1 rfl, ⟨by decide +kernel, by decide +kernel⟩, by decide +kernel⟩
theorem im_X10_corner : Cond.instanceMethod yX10_corner ∈ lw_tbl := in_t1 176 rfl
theorem se_X10_corner : Cond.selects yX10_corner.cls yX10_corner yX10_corner ∈ lw_tbl := in_t1 177 rfl
theorem yy_X10_isWithin : zY yX10_isWithin cX10_isWithin 3 (some .boolean) 3 := ⟨in_t1 181 rfl, in_t1 1 rfl, ⟨by decide +kernel, by decide +kernel⟩, by decide +kernel⟩
theorem st_X10_isWithin : Cond.static yX10_isWithin ∈ lw_tbl := in_t1 180 rfl
theorem yy_X10_finding : zY yX10_finding cX10_finding 2 (some .int) 1 := ⟨in_t1 186 rfl, in_t1 1 rfl, ⟨by decide +kernel, by decide +kernel⟩, by decide +kernel⟩
theorem im_X10_finding : Cond.instanceMethod yX10_finding ∈ lw_tbl := in_t1 185 rfl
theorem se_X10_finding : Cond.selects yX10_finding.cls yX10_finding yX10_finding ∈ lw_tbl := in_s 0 rfl
theorem yy_X7_addCorner : zY yX7_addCorner cX7_addCorner 3 (some .int) 2 := ⟨in_t1 191 rfl, in_t1 2 rfl, ⟨by decide +kernel, by decide +kernel⟩, by decide +kernel⟩
theorem im_X7_addCorner : Cond.instanceMethod yX7_addCorner ∈ lw_tbl := in_t1 189 rfl
theorem se_X7_addCorner : Cond.selects yX7_addCorner.cls yX7_addCorner yX7_addCorner ∈ lw_tbl := in_t1 190 rfl
theorem yy_X10_way : zY yX10_way cX10_way 5 (some .int) 4 := ⟨in_t1 195 rfl, in_t1 1 rfl, ⟨by decide +kernel, by decide +kernel⟩, by decide +kernel⟩
theorem im_X10_way : Cond.instanceMethod yX10_way ∈ lw_tbl := in_t1 193 rfl
theorem se_X10_way : Cond.selects yX10_way.cls yX10_way yX10_way ∈ lw_tbl := in_t1 194 rfl
theorem yy_X7_hasCorner : zY yX7_hasCorner cX7_hasCorner 2 (some .boolean) 1 := ⟨in_t1 199 rfl, in_t1 2 rfl, ⟨by decide +kernel, by decide +kernel⟩, by decide +kernel⟩
theorem im_X7_hasCorner : Cond.instanceMethod yX7_hasCorner ∈ lw_tbl := in_t1 197 rfl
theorem se_X7_hasCorner : Cond.selects yX7_hasCorner.cls yX7_hasCorner yX7_hasCorner ∈ lw_tbl := in_t1 198 rfl
theorem yy_X9_init : zY yX9_init cX9_init 5 none 4 := ⟨in_t1 205 rfl, in_t1 8 rfl, ⟨by decide +kernel, by decide +kernel⟩, by decide +kernel⟩
theorem im_X9_init : Cond.instanceMethod yX9_init ∈ lw_tbl := in_t1 204 rfl
theorem yy_X7_addWay : zY yX7_addWay cX7_addWay 2 (some .int) 1 := ⟨in_t1 231 rfl, in_t1 2 rfl, ⟨by decide +kernel, by decide +kernel⟩, by decide +kernel⟩
theorem im_X7_addWay : Cond.instanceMethod yX7_addWay ∈ lw_tbl := in_t1 229 rfl
theorem se_X7_addWay : Cond.selects yX7_addWay.cls yX7_addWay yX7_addWay ∈ lw_tbl := in_t1 230 rfl
theorem yy_X10_shut : zY yX10_shut cX10_shut 5 (some .int) 2 := ⟨in_t1 235 rfl, in_t1 1 rfl, ⟨by decide +kernel, by decide +kernel⟩, by decide +kernel⟩
theorem im_X10_shut : Cond.instanceMethod yX10_shut ∈ lw_tbl := in_t1 233 rfl
theorem se_X10_shut : Cond.selects yX10_shut.cls yX10_shut yX10_shut ∈ lw_tbl := in_t1 234 rfl
theorem yy_X7_findWay : zY yX7_findWay cX7_findWay 2 (some (.object "WalkTeller$Way")) 1 := ⟨in_t1 239 rfl, in_t1 2 rfl, ⟨by decide +kernel, by decide +kernel⟩, by decide +kernel⟩
theorem im_X7_findWay : Cond.instanceMethod yX7_findWay ∈ lw_tbl := in_t1 237 rfl
theorem se_X7_findWay : Cond.selects yX7_findWay.cls yX7_findWay yX7_findWay ∈ lw_tbl := in_t1 238 rfl
theorem yy_X10_far : zY yX10_far cX10_far 5 (some .int) 4 := ⟨in_t2 3 rfl, in_t1 1 rfl, ⟨by decide +kernel, by decide +kernel⟩, by decide +kernel⟩
theorem im_X10_far : Cond.instanceMethod yX10_far ∈ lw_tbl := in_t2 1 rfl
theorem se_X10_far : Cond.selects yX10_far.cls yX10_far yX10_far ∈ lw_tbl := in_t2 2 rfl
theorem yy_X10_isDay : zY yX10_isDay cX10_isDay 1 (some .boolean) 1 := ⟨in_t2 6 rfl, in_t1 1 rfl, ⟨by decide +kernel, by decide +kernel⟩, by decide +kernel⟩
theorem st_X10_isDay : Cond.static yX10_isDay ∈ lw_tbl := in_t2 5 rfl
theorem yy_X4_distance : zY yX4_distance cX4_distance 6 (some .int) 5 := ⟨in_t2 10 rfl, in_t1 4 rfl, ⟨by decide +kernel, by decide +kernel⟩, by decide +kernel⟩
theorem im_X4_distance : Cond.instanceMethod yX4_distance ∈ lw_tbl := in_t2 8 rfl
theorem se_X4_distance : Cond.selects yX4_distance.cls yX4_distance yX4_distance ∈ lw_tbl := in_t2 9 rfl
theorem yy_X1_lay : zY yX1_lay cX1_lay 6 none 3 := ⟨in_t2 14 rfl, in_t1 5 rfl, ⟨by decide +kernel, by decide +kernel⟩, by decide +kernel⟩
theorem im_X1_lay : Cond.instanceMethod yX1_lay ∈ lw_tbl := in_t2 12 rfl
theorem se_X1_lay : Cond.selects yX1_lay.cls yX1_lay yX1_lay ∈ lw_tbl := in_t2 13 rfl
theorem yy_J7_fill_53178 : zY yJ7_fill_53178 cJ7_fill_53178 4 none 2 := ⟨in_t2 18 rfl, in_t1 9 rfl, ⟨by decide +kernel, by decide +kernel⟩, by decide +kernel⟩
theorem st_J7_fill_53178 : Cond.static yJ7_fill_53178 ∈ lw_tbl := in_t2 17 rfl
theorem yy_X9_isOpen : zY yX9_isOpen cX9_isOpen 3 (some .boolean) 2 := ⟨in_t2 22 rfl, in_t1 8 rfl, ⟨by decide +kernel, by decide +kernel⟩, by decide +kernel⟩
theorem im_X9_isOpen : Cond.instanceMethod yX9_isOpen ∈ lw_tbl := in_t2 20 rfl
theorem se_X9_isOpen : Cond.selects yX9_isOpen.cls yX9_isOpen yX9_isOpen ∈ lw_tbl := in_t2 21 rfl
theorem yy_X9_isShut : zY yX9_isShut cX9_isShut 2 (some .boolean) 1 := ⟨in_t2 26 rfl, in_t1 8 rfl, ⟨by decide +kernel, by decide +kernel⟩, by decide +kernel⟩
theorem im_X9_isShut : Cond.instanceMethod yX9_isShut ∈ lw_tbl := in_t2 24 rfl
theorem se_X9_isShut : Cond.selects yX9_isShut.cls yX9_isShut yX9_isShut ∈ lw_tbl := in_t2 25 rfl
theorem yy_X10_has : zY yX10_has cX10_has 2 (some .boolean) 2 := ⟨in_t2 29 rfl, in_t1 1 rfl, ⟨by decide +kernel, by decide +kernel⟩, by decide +kernel⟩
theorem st_X10_has : Cond.static yX10_has ∈ lw_tbl := in_t2 28 rfl
theorem yy_X9_isFor : zY yX9_isFor cX9_isFor 2 (some .boolean) 1 := ⟨in_t2 33 rfl, in_t1 8 rfl, ⟨by decide +kernel, by decide +kernel⟩, by decide +kernel⟩
theorem im_X9_isFor : Cond.instanceMethod yX9_isFor ∈ lw_tbl := in_t2 31 rfl
theorem se_X9_isFor : Cond.selects yX9_isFor.cls yX9_isFor yX9_isFor ∈ lw_tbl := in_t2 32 rfl
theorem yy_X1_join : zY yX1_join cX1_join 5 none 3 := ⟨in_t2 37 rfl, in_t1 5 rfl, ⟨by decide +kernel, by decide +kernel⟩, by decide +kernel⟩
theorem im_X1_join : Cond.instanceMethod yX1_join ∈ lw_tbl := in_t2 36 rfl
theorem se_X1_join : Cond.selects yX1_join.cls yX1_join yX1_join ∈ lw_tbl := in_s 1 rfl
theorem yy_X1_lessen : zY yX1_lessen cX1_lessen 7 none 3 := ⟨in_t2 46 rfl, in_t1 5 rfl, ⟨by decide +kernel, by decide +kernel⟩, by decide +kernel⟩
theorem im_X1_lessen : Cond.instanceMethod yX1_lessen ∈ lw_tbl := in_t2 44 rfl
theorem se_X1_lessen : Cond.selects yX1_lessen.cls yX1_lessen yX1_lessen ∈ lw_tbl := in_t2 45 rfl
theorem yy_X1_lessenOne : zY yX1_lessenOne cX1_lessenOne 6 (some .boolean) 3 := ⟨in_t2 51 rfl, in_t1 5 rfl, ⟨by decide +kernel, by decide +kernel⟩, by decide +kernel⟩
theorem im_X1_lessenOne : Cond.instanceMethod yX1_lessenOne ∈ lw_tbl := in_t2 50 rfl
theorem se_X1_lessenOne : Cond.selects yX1_lessenOne.cls yX1_lessenOne yX1_lessenOne ∈ lw_tbl := in_s 2 rfl
theorem yy_X1_step : zY yX1_step cX1_step 3 (some .int) 2 := ⟨in_t2 55 rfl, in_t1 5 rfl, ⟨by decide +kernel, by decide +kernel⟩, by decide +kernel⟩
theorem im_X1_step : Cond.instanceMethod yX1_step ∈ lw_tbl := in_t2 53 rfl
theorem se_X1_step : Cond.selects yX1_step.cls yX1_step yX1_step ∈ lw_tbl := in_t2 54 rfl
theorem yy_X10_timeOrNone : zY yX10_timeOrNone cX10_timeOrNone 2 (some .int) 1 := ⟨in_t2 59 rfl, in_t1 1 rfl, ⟨by decide +kernel, by decide +kernel⟩, by decide +kernel⟩
theorem im_X10_timeOrNone : Cond.instanceMethod yX10_timeOrNone ∈ lw_tbl := in_t2 58 rfl
theorem se_X10_timeOrNone : Cond.selects yX10_timeOrNone.cls yX10_timeOrNone yX10_timeOrNone ∈ lw_tbl := in_s 3 rfl
theorem yy_X10_feed : zY yX10_feed cX10_feed 4 (some .int) 2 := ⟨in_t2 65 rfl, in_t1 1 rfl, ⟨by decide +kernel, by decide +kernel⟩, by decide +kernel⟩
theorem im_X10_feed : Cond.instanceMethod yX10_feed ∈ lw_tbl := in_t2 63 rfl
theorem se_X10_feed : Cond.selects yX10_feed.cls yX10_feed yX10_feed ∈ lw_tbl := in_t2 64 rfl
theorem yy_X6_append : zY yX6_append cX6_append 5 none 2 := ⟨in_t2 69 rfl, in_t1 3 rfl, ⟨by decide +kernel, by decide +kernel⟩, by decide +kernel⟩
theorem im_X6_append : Cond.instanceMethod yX6_append ∈ lw_tbl := in_t2 67 rfl
theorem se_X6_append : Cond.selects yX6_append.cls yX6_append yX6_append ∈ lw_tbl := in_t2 68 rfl
theorem yy_X10_story : zY yX10_story cX10_story 3 (some .int) 0 := ⟨in_t2 73 rfl, in_t1 1 rfl, ⟨by decide +kernel, by decide +kernel⟩, by decide +kernel⟩
theorem im_X10_story : Cond.instanceMethod yX10_story ∈ lw_tbl := in_t2 71 rfl
theorem se_X10_story : Cond.selects yX10_story.cls yX10_story yX10_story ∈ lw_tbl := in_t2 72 rfl
theorem yy_X3_init : zY yX3_init cX3_init 3 none 2 := ⟨in_t2 78 rfl, in_t1 11 rfl, ⟨by decide +kernel, by decide +kernel⟩, by decide +kernel⟩
theorem im_X3_init : Cond.instanceMethod yX3_init ∈ lw_tbl := in_t2 77 rfl
theorem yy_X3_readEdition : zY yX3_readEdition cX3_readEdition 4 (some (.object "WalkTeller$Edition")) 0 := ⟨in_t2 94 rfl, in_t1 11 rfl, ⟨by decide +kernel, by decide +kernel⟩, by decide +kernel⟩
theorem im_X3_readEdition : Cond.instanceMethod yX3_readEdition ∈ lw_tbl := in_t2 92 rfl
theorem se_X3_readEdition : Cond.selects yX3_readEdition.cls yX3_readEdition yX3_readEdition ∈ lw_tbl := in_t2 93 rfl
theorem yy_X3_readPiece : zY yX3_readPiece cX3_readPiece 6 (some (.object "WalkTeller$Piece")) 0 := ⟨in_t2 100 rfl, in_t1 11 rfl, ⟨by decide +kernel, by decide +kernel⟩, by decide +kernel⟩
theorem im_X3_readPiece : Cond.instanceMethod yX3_readPiece ∈ lw_tbl := in_t2 99 rfl
theorem se_X3_readPiece : Cond.selects yX3_readPiece.cls yX3_readPiece yX3_readPiece ∈ lw_tbl := in_s 4 rfl
theorem yy_X3_takeOneOf : zY yX3_takeOneOf cX3_takeOneOf 4 (some .int) 2 := ⟨in_t2 104 rfl, in_t1 11 rfl, ⟨by decide +kernel, by decide +kernel⟩, by decide +kernel⟩
theorem im_X3_takeOneOf : Cond.instanceMethod yX3_takeOneOf ∈ lw_tbl := in_t2 103 rfl
theorem se_X3_takeOneOf : Cond.selects yX3_takeOneOf.cls yX3_takeOneOf yX3_takeOneOf ∈ lw_tbl := in_s 5 rfl
theorem yy_X6_byteAt : zY yX6_byteAt cX6_byteAt 2 (some .int) 1 := ⟨in_t2 108 rfl, in_t1 3 rfl, ⟨by decide +kernel, by decide +kernel⟩, by decide +kernel⟩
theorem im_X6_byteAt : Cond.instanceMethod yX6_byteAt ∈ lw_tbl := in_t2 106 rfl
theorem se_X6_byteAt : Cond.selects yX6_byteAt.cls yX6_byteAt yX6_byteAt ∈ lw_tbl := in_t2 107 rfl
theorem yy_X3_takeKind : zY yX3_takeKind cX3_takeKind 3 (some .int) 0 := ⟨in_t2 114 rfl, in_t1 11 rfl, ⟨by decide +kernel, by decide +kernel⟩, by decide +kernel⟩
theorem im_X3_takeKind : Cond.instanceMethod yX3_takeKind ∈ lw_tbl := in_t2 113 rfl
theorem se_X3_takeKind : Cond.selects yX3_takeKind.cls yX3_takeKind yX3_takeKind ∈ lw_tbl := in_s 6 rfl
theorem yy_J0_length_8abf5 : zY yJ0_length_8abf5 cJ0_length_8abf5 1 (some .int) 0 := ⟨in_t2 119 rfl, in_t1 12 rfl, ⟨by decide +kernel, by decide +kernel⟩, by decide +kernel⟩
theorem im_J0_length_8abf5 : Cond.instanceMethod yJ0_length_8abf5 ∈ lw_tbl := in_t2 117 rfl
theorem se_J0_length_8abf5 : Cond.selects yJ0_length_8abf5.cls yJ0_length_8abf5 yJ0_length_8abf5 ∈ lw_tbl := in_t2 118 rfl
theorem yy_J0_coder_7d493 : zY yJ0_coder_7d493 cJ0_coder_7d493 1 (some .byte) 0 := ⟨in_t2 123 rfl, in_t1 12 rfl, ⟨by decide +kernel, by decide +kernel⟩, by decide +kernel⟩
theorem im_J0_coder_7d493 : Cond.instanceMethod yJ0_coder_7d493 ∈ lw_tbl := in_t2 121 rfl
theorem se_J0_coder_7d493 : Cond.selects yJ0_coder_7d493.cls yJ0_coder_7d493 yJ0_coder_7d493 ∈ lw_tbl := in_t2 122 rfl
theorem yy_J0_charAt_5068e : zY yJ0_charAt_5068e cJ0_charAt_5068e 2 (some .char) 1 := ⟨in_t2 129 rfl, in_t1 12 rfl, ⟨by decide +kernel, by decide +kernel⟩, by decide +kernel⟩
theorem im_J0_charAt_5068e : Cond.instanceMethod yJ0_charAt_5068e ∈ lw_tbl := in_t2 127 rfl
theorem se_J0_charAt_5068e : Cond.selects yJ0_charAt_5068e.cls yJ0_charAt_5068e yJ0_charAt_5068e ∈ lw_tbl := in_t2 128 rfl
theorem yy_J0_isLatin1_aae02 : zY yJ0_isLatin1_aae02 cJ0_isLatin1_aae02 1 (some .boolean) 0 := ⟨in_t2 133 rfl, in_t1 12 rfl, ⟨by decide +kernel, by decide +kernel⟩, by decide +kernel⟩
theorem im_J0_isLatin1_aae02 : Cond.instanceMethod yJ0_isLatin1_aae02 ∈ lw_tbl := in_t2 131 rfl
theorem se_J0_isLatin1_aae02 : Cond.selects yJ0_isLatin1_aae02.cls yJ0_isLatin1_aae02 yJ0_isLatin1_aae02 ∈ lw_tbl := in_t2 132 rfl
theorem yy_J1_charAt_3b067 : zY yJ1_charAt_3b067 cJ1_charAt_3b067 2 (some .char) 2 := ⟨in_t2 136 rfl, in_t1 13 rfl, ⟨by decide +kernel, by decide +kernel⟩, by decide +kernel⟩
theorem st_J1_charAt_3b067 : Cond.static yJ1_charAt_3b067 ∈ lw_tbl := in_t2 135 rfl
theorem yy_J0_checkIndex_df160 : zY yJ0_checkIndex_df160 cJ0_checkIndex_df160 2 none 2 := ⟨in_t2 139 rfl, in_t1 12 rfl, ⟨by decide +kernel, by decide +kernel⟩, by decide +kernel⟩
theorem st_J0_checkIndex_df160 : Cond.static yJ0_checkIndex_df160 ∈ lw_tbl := in_t2 138 rfl
theorem yy_J3_checkIndex_8e157 : zY yJ3_checkIndex_8e157 cJ3_checkIndex_8e157 3 (some .int) 3 := ⟨in_t2 144 rfl, in_t1 14 rfl, ⟨by decide +kernel, by decide +kernel⟩, by decide +kernel⟩
theorem st_J3_checkIndex_8e157 : Cond.static yJ3_checkIndex_8e157 ∈ lw_tbl := in_t2 143 rfl
theorem yy_J2_charAt_3b067 : zY yJ2_charAt_3b067 cJ2_charAt_3b067 2 (some .char) 2 := ⟨in_t2 147 rfl, in_t1 15 rfl, ⟨by decide +kernel, by decide +kernel⟩, by decide +kernel⟩
theorem st_J2_charAt_3b067 : Cond.static yJ2_charAt_3b067 ∈ lw_tbl := in_t2 146 rfl
theorem yy_J2_checkIndex_2214a : zY yJ2_checkIndex_2214a cJ2_checkIndex_2214a 2 none 2 := ⟨in_t2 150 rfl, in_t1 15 rfl, ⟨by decide +kernel, by decide +kernel⟩, by decide +kernel⟩
theorem st_J2_checkIndex_2214a : Cond.static yJ2_checkIndex_2214a ∈ lw_tbl := in_t2 149 rfl
theorem yy_J2_length_9d52b : zY yJ2_length_9d52b cJ2_length_9d52b 1 (some .int) 1 := ⟨in_t2 153 rfl, in_t1 15 rfl, ⟨by decide +kernel, by decide +kernel⟩, by decide +kernel⟩
theorem st_J2_length_9d52b : Cond.static yJ2_length_9d52b ∈ lw_tbl := in_t2 152 rfl
theorem yy_J2_getChar_3b067 : zY yJ2_getChar_3b067 cJ2_getChar_3b067 2 (some .char) 2 := ⟨in_t2 157 rfl, in_t1 15 rfl, ⟨by decide +kernel, by decide +kernel⟩, by decide +kernel⟩
theorem st_J2_getChar_3b067 : Cond.static yJ2_getChar_3b067 ∈ lw_tbl := in_t2 156 rfl
theorem yy_X3_takeRising : zY yX3_takeRising cX3_takeRising 7 (some .int) 2 := ⟨in_t2 167 rfl, in_t1 11 rfl, ⟨by decide +kernel, by decide +kernel⟩, by decide +kernel⟩
theorem im_X3_takeRising : Cond.instanceMethod yX3_takeRising ∈ lw_tbl := in_t2 166 rfl
theorem se_X3_takeRising : Cond.selects yX3_takeRising.cls yX3_takeRising yX3_takeRising ∈ lw_tbl := in_s 7 rfl
theorem yy_X3_takeSign : zY yX3_takeSign cX3_takeSign 2 (some .boolean) 1 := ⟨in_t2 171 rfl, in_t1 11 rfl, ⟨by decide +kernel, by decide +kernel⟩, by decide +kernel⟩
theorem im_X3_takeSign : Cond.instanceMethod yX3_takeSign ∈ lw_tbl := in_t2 170 rfl
theorem se_X3_takeSign : Cond.selects yX3_takeSign.cls yX3_takeSign yX3_takeSign ∈ lw_tbl := in_s 8 rfl
theorem yy_X2_init : zY yX2_init cX2_init 6 none 5 := ⟨in_t2 176 rfl, in_t1 16 rfl, ⟨by decide +kernel, by decide +kernel⟩, by decide +kernel⟩
theorem im_X2_init : Cond.instanceMethod yX2_init ∈ lw_tbl := in_t2 175 rfl
theorem yy_X0_addPiece : zY yX0_addPiece cX0_addPiece 2 none 1 := ⟨in_t2 205 rfl, in_t1 6 rfl, ⟨by decide +kernel, by decide +kernel⟩, by decide +kernel⟩
theorem im_X0_addPiece : Cond.instanceMethod yX0_addPiece ∈ lw_tbl := in_t2 203 rfl
theorem se_X0_addPiece : Cond.selects yX0_addPiece.cls yX0_addPiece yX0_addPiece ∈ lw_tbl := in_t2 204 rfl
theorem yy_X10_as : zY yX10_as cX10_as 5 (some .int) 3 := ⟨in_t2 210 rfl, in_t1 1 rfl, ⟨by decide +kernel, by decide +kernel⟩, by decide +kernel⟩
theorem im_X10_as : Cond.instanceMethod yX10_as ∈ lw_tbl := in_t2 208 rfl
theorem se_X10_as : Cond.selects yX10_as.cls yX10_as yX10_as ∈ lw_tbl := in_t2 209 rfl
theorem yy_X10_findPiece : zY yX10_findPiece cX10_findPiece 4 (some (.object "WalkTeller$Piece")) 2 := ⟨in_t2 214 rfl, in_t1 1 rfl, ⟨by decide +kernel, by decide +kernel⟩, by decide +kernel⟩
theorem im_X10_findPiece : Cond.instanceMethod yX10_findPiece ∈ lw_tbl := in_t2 213 rfl
theorem se_X10_findPiece : Cond.selects yX10_findPiece.cls yX10_findPiece yX10_findPiece ∈ lw_tbl := in_s 9 rfl
theorem yy_X10_findEdition : zY yX10_findEdition cX10_findEdition 2 (some (.object "WalkTeller$Edition")) 1 := ⟨in_t2 218 rfl, in_t1 1 rfl, ⟨by decide +kernel, by decide +kernel⟩, by decide +kernel⟩
theorem im_X10_findEdition : Cond.instanceMethod yX10_findEdition ∈ lw_tbl := in_t2 217 rfl
theorem se_X10_findEdition : Cond.selects yX10_findEdition.cls yX10_findEdition yX10_findEdition ∈ lw_tbl := in_s 10 rfl
theorem yy_X0_findPiece : zY yX0_findPiece cX0_findPiece 2 (some (.object "WalkTeller$Piece")) 1 := ⟨in_t2 222 rfl, in_t1 6 rfl, ⟨by decide +kernel, by decide +kernel⟩, by decide +kernel⟩
theorem im_X0_findPiece : Cond.instanceMethod yX0_findPiece ∈ lw_tbl := in_t2 220 rfl
theorem se_X0_findPiece : Cond.selects yX0_findPiece.cls yX0_findPiece yX0_findPiece ∈ lw_tbl := in_t2 221 rfl
theorem yy_X2_isOfKind : zY yX2_isOfKind cX2_isOfKind 2 (some .boolean) 1 := ⟨in_t2 227 rfl, in_t1 16 rfl, ⟨by decide +kernel, by decide +kernel⟩, by decide +kernel⟩
theorem im_X2_isOfKind : Cond.instanceMethod yX2_isOfKind ∈ lw_tbl := in_t2 225 rfl
theorem se_X2_isOfKind : Cond.selects yX2_isOfKind.cls yX2_isOfKind yX2_isOfKind ∈ lw_tbl := in_t2 226 rfl
theorem yy_X10_of : zY yX10_of cX10_of 5 (some .int) 3 := ⟨in_t2 232 rfl, in_t1 1 rfl, ⟨by decide +kernel, by decide +kernel⟩, by decide +kernel⟩
theorem im_X10_of : Cond.instanceMethod yX10_of ∈ lw_tbl := in_t2 230 rfl
theorem se_X10_of : Cond.selects yX10_of.cls yX10_of yX10_of ∈ lw_tbl := in_t2 231 rfl
theorem yy_X10_check : zY yX10_check cX10_check 6 (some .int) 5 := ⟨in_t2 236 rfl, in_t1 1 rfl, ⟨by decide +kernel, by decide +kernel⟩, by decide +kernel⟩
theorem im_X10_check : Cond.instanceMethod yX10_check ∈ lw_tbl := in_t2 234 rfl
theorem se_X10_check : Cond.selects yX10_check.cls yX10_check yX10_check ∈ lw_tbl := in_t2 235 rfl
theorem yy_X10_searchAnew : zY yX10_searchAnew cX10_searchAnew 6 (some .boolean) 4 := ⟨in_t3 0 rfl, in_t1 1 rfl, ⟨by decide +kernel, by decide +kernel⟩, by decide +kernel⟩
theorem im_X10_searchAnew : Cond.instanceMethod yX10_searchAnew ∈ lw_tbl := in_t2 239 rfl
theorem se_X10_searchAnew : Cond.selects yX10_searchAnew.cls yX10_searchAnew yX10_searchAnew ∈ lw_tbl := in_s 11 rfl
theorem yy_X4_explore : zY yX4_explore cX4_explore 8 none 6 := ⟨in_t3 4 rfl, in_t1 4 rfl, ⟨by decide +kernel, by decide +kernel⟩, by decide +kernel⟩
theorem im_X4_explore : Cond.instanceMethod yX4_explore ∈ lw_tbl := in_t3 2 rfl
theorem se_X4_explore : Cond.selects yX4_explore.cls yX4_explore yX4_explore ∈ lw_tbl := in_t3 3 rfl
theorem yy_X4_clearReached : zY yX4_clearReached cX4_clearReached 2 none 0 := ⟨in_t3 8 rfl, in_t1 4 rfl, ⟨by decide +kernel, by decide +kernel⟩, by decide +kernel⟩
theorem im_X4_clearReached : Cond.instanceMethod yX4_clearReached ∈ lw_tbl := in_t3 7 rfl
theorem se_X4_clearReached : Cond.selects yX4_clearReached.cls yX4_clearReached yX4_clearReached ∈ lw_tbl := in_s 12 rfl
theorem yy_X4_reachFrom : zY yX4_reachFrom cX4_reachFrom 5 none 1 := ⟨in_t3 12 rfl, in_t1 4 rfl, ⟨by decide +kernel, by decide +kernel⟩, by decide +kernel⟩
theorem im_X4_reachFrom : Cond.instanceMethod yX4_reachFrom ∈ lw_tbl := in_t3 11 rfl
theorem se_X4_reachFrom : Cond.selects yX4_reachFrom.cls yX4_reachFrom yX4_reachFrom ∈ lw_tbl := in_s 13 rfl
theorem yy_X0_isOver : zY yX0_isOver cX0_isOver 2 (some .boolean) 1 := ⟨in_t3 16 rfl, in_t1 6 rfl, ⟨by decide +kernel, by decide +kernel⟩, by decide +kernel⟩
theorem im_X0_isOver : Cond.instanceMethod yX0_isOver ∈ lw_tbl := in_t3 14 rfl
theorem se_X0_isOver : Cond.selects yX0_isOver.cls yX0_isOver yX0_isOver ∈ lw_tbl := in_t3 15 rfl
theorem yy_X4_reachNext : zY yX4_reachNext cX4_reachNext 4 none 2 := ⟨in_t3 21 rfl, in_t1 4 rfl, ⟨by decide +kernel, by decide +kernel⟩, by decide +kernel⟩
theorem im_X4_reachNext : Cond.instanceMethod yX4_reachNext ∈ lw_tbl := in_t3 20 rfl
theorem se_X4_reachNext : Cond.selects yX4_reachNext.cls yX4_reachNext yX4_reachNext ∈ lw_tbl := in_s 14 rfl
theorem yy_X0_nextPiece : zY yX0_nextPiece cX0_nextPiece 6 (some .int) 4 := ⟨in_t3 25 rfl, in_t1 6 rfl, ⟨by decide +kernel, by decide +kernel⟩, by decide +kernel⟩
theorem im_X0_nextPiece : Cond.instanceMethod yX0_nextPiece ∈ lw_tbl := in_t3 23 rfl
theorem se_X0_nextPiece : Cond.selects yX0_nextPiece.cls yX0_nextPiece yX0_nextPiece ∈ lw_tbl := in_t3 24 rfl
theorem yy_X2_fits : zY yX2_fits cX2_fits 4 (some .boolean) 3 := ⟨in_t3 30 rfl, in_t1 16 rfl, ⟨by decide +kernel, by decide +kernel⟩, by decide +kernel⟩
theorem im_X2_fits : Cond.instanceMethod yX2_fits ∈ lw_tbl := in_t3 28 rfl
theorem se_X2_fits : Cond.selects yX2_fits.cls yX2_fits yX2_fits ∈ lw_tbl := in_t3 29 rfl
theorem yy_X4_timeSet : zY yX4_timeSet cX4_timeSet 5 none 1 := ⟨in_t3 34 rfl, in_t1 4 rfl, ⟨by decide +kernel, by decide +kernel⟩, by decide +kernel⟩
theorem im_X4_timeSet : Cond.instanceMethod yX4_timeSet ∈ lw_tbl := in_t3 33 rfl
theorem se_X4_timeSet : Cond.selects yX4_timeSet.cls yX4_timeSet yX4_timeSet ∈ lw_tbl := in_s 15 rfl
theorem yy_X4_timeToldHere : zY yX4_timeToldHere cX4_timeToldHere 5 (some .int) 2 := ⟨in_t3 38 rfl, in_t1 4 rfl, ⟨by decide +kernel, by decide +kernel⟩, by decide +kernel⟩
theorem im_X4_timeToldHere : Cond.instanceMethod yX4_timeToldHere ∈ lw_tbl := in_t3 37 rfl
theorem se_X4_timeToldHere : Cond.selects yX4_timeToldHere.cls yX4_timeToldHere yX4_timeToldHere ∈ lw_tbl := in_s 16 rfl
theorem yy_X4_timeFrom : zY yX4_timeFrom cX4_timeFrom 3 (some .int) 2 := ⟨in_t3 43 rfl, in_t1 4 rfl, ⟨by decide +kernel, by decide +kernel⟩, by decide +kernel⟩
theorem im_X4_timeFrom : Cond.instanceMethod yX4_timeFrom ∈ lw_tbl := in_t3 41 rfl
theorem se_X4_timeFrom : Cond.selects yX4_timeFrom.cls yX4_timeFrom yX4_timeFrom ∈ lw_tbl := in_t3 42 rfl
theorem yy_X4_countMoments : zY yX4_countMoments cX4_countMoments 3 (some .int) 0 := ⟨in_t3 48 rfl, in_t1 4 rfl, ⟨by decide +kernel, by decide +kernel⟩, by decide +kernel⟩
theorem im_X4_countMoments : Cond.instanceMethod yX4_countMoments ∈ lw_tbl := in_t3 46 rfl
theorem se_X4_countMoments : Cond.selects yX4_countMoments.cls yX4_countMoments yX4_countMoments ∈ lw_tbl := in_t3 47 rfl
theorem yy_J6_bitCount_0f7a4 : zY yJ6_bitCount_0f7a4 cJ6_bitCount_0f7a4 1 (some .int) 1 := ⟨in_t3 51 rfl, in_t1 17 rfl, ⟨by decide +kernel, by decide +kernel⟩, by decide +kernel⟩
theorem st_J6_bitCount_0f7a4 : Cond.static yJ6_bitCount_0f7a4 ∈ lw_tbl := in_t3 50 rfl
theorem yy_X4_countDeadEnds : zY yX4_countDeadEnds cX4_countDeadEnds 4 (some .int) 0 := ⟨in_t3 58 rfl, in_t1 4 rfl, ⟨by decide +kernel, by decide +kernel⟩, by decide +kernel⟩
theorem im_X4_countDeadEnds : Cond.instanceMethod yX4_countDeadEnds ∈ lw_tbl := in_t3 56 rfl
theorem se_X4_countDeadEnds : Cond.selects yX4_countDeadEnds.cls yX4_countDeadEnds yX4_countDeadEnds ∈ lw_tbl := in_t3 57 rfl
theorem yy_X4_countTwoVoices : zY yX4_countTwoVoices cX4_countTwoVoices 4 (some .int) 0 := ⟨in_t3 62 rfl, in_t1 4 rfl, ⟨by decide +kernel, by decide +kernel⟩, by decide +kernel⟩
theorem im_X4_countTwoVoices : Cond.instanceMethod yX4_countTwoVoices ∈ lw_tbl := in_t3 60 rfl
theorem se_X4_countTwoVoices : Cond.selects yX4_countTwoVoices.cls yX4_countTwoVoices yX4_countTwoVoices ∈ lw_tbl := in_t3 61 rfl
theorem yy_X0_hasTwoVoices : zY yX0_hasTwoVoices cX0_hasTwoVoices 5 (some .boolean) 3 := ⟨in_t3 66 rfl, in_t1 6 rfl, ⟨by decide +kernel, by decide +kernel⟩, by decide +kernel⟩
theorem im_X0_hasTwoVoices : Cond.instanceMethod yX0_hasTwoVoices ∈ lw_tbl := in_t3 64 rfl
theorem se_X0_hasTwoVoices : Cond.selects yX0_hasTwoVoices.cls yX0_hasTwoVoices yX0_hasTwoVoices ∈ lw_tbl := in_t3 65 rfl
theorem yy_X4_heardInSome : zY yX4_heardInSome cX4_heardInSome 3 (some .int) 0 := ⟨in_t3 71 rfl, in_t1 4 rfl, ⟨by decide +kernel, by decide +kernel⟩, by decide +kernel⟩
theorem im_X4_heardInSome : Cond.instanceMethod yX4_heardInSome ∈ lw_tbl := in_t3 69 rfl
theorem se_X4_heardInSome : Cond.selects yX4_heardInSome.cls yX4_heardInSome yX4_heardInSome ∈ lw_tbl := in_t3 70 rfl
theorem yy_X10_quickest : zY yX10_quickest cX10_quickest 5 (some .int) 4 := ⟨in_t3 75 rfl, in_t1 1 rfl, ⟨by decide +kernel, by decide +kernel⟩, by decide +kernel⟩
theorem im_X10_quickest : Cond.instanceMethod yX10_quickest ∈ lw_tbl := in_t3 73 rfl
theorem se_X10_quickest : Cond.selects yX10_quickest.cls yX10_quickest yX10_quickest ∈ lw_tbl := in_t3 74 rfl
theorem yy_X10_route : zY yX10_route cX10_route 6 (some .int) 5 := ⟨in_t3 80 rfl, in_t1 1 rfl, ⟨by decide +kernel, by decide +kernel⟩, by decide +kernel⟩
theorem im_X10_route : Cond.instanceMethod yX10_route ∈ lw_tbl := in_t3 78 rfl
theorem se_X10_route : Cond.selects yX10_route.cls yX10_route yX10_route ∈ lw_tbl := in_t3 79 rfl
theorem yy_X4_cornerOnQuickest : zY yX4_cornerOnQuickest cX4_cornerOnQuickest 9 (some .int) 2 := ⟨in_t3 84 rfl, in_t1 4 rfl, ⟨by decide +kernel, by decide +kernel⟩, by decide +kernel⟩
theorem im_X4_cornerOnQuickest : Cond.instanceMethod yX4_cornerOnQuickest ∈ lw_tbl := in_t3 82 rfl
theorem se_X4_cornerOnQuickest : Cond.selects yX4_cornerOnQuickest.cls yX4_cornerOnQuickest yX4_cornerOnQuickest ∈ lw_tbl := in_t3 83 rfl
theorem yy_X4_quickestStep : zY yX4_quickestStep cX4_quickestStep 5 (some .int) 2 := ⟨in_t3 88 rfl, in_t1 4 rfl, ⟨by decide +kernel, by decide +kernel⟩, by decide +kernel⟩
theorem im_X4_quickestStep : Cond.instanceMethod yX4_quickestStep ∈ lw_tbl := in_t3 87 rfl
theorem se_X4_quickestStep : Cond.selects yX4_quickestStep.cls yX4_quickestStep yX4_quickestStep ∈ lw_tbl := in_s 17 rfl
theorem yy_X4_timeBy : zY yX4_timeBy cX4_timeBy 4 (some .int) 3 := ⟨in_t3 92 rfl, in_t1 4 rfl, ⟨by decide +kernel, by decide +kernel⟩, by decide +kernel⟩
theorem im_X4_timeBy : Cond.instanceMethod yX4_timeBy ∈ lw_tbl := in_t3 90 rfl
theorem se_X4_timeBy : Cond.selects yX4_timeBy.cls yX4_timeBy yX4_timeBy ∈ lw_tbl := in_t3 91 rfl
theorem yy_X10_walker : zY yX10_walker cX10_walker 5 (some .int) 2 := ⟨in_t3 97 rfl, in_t1 1 rfl, ⟨by decide +kernel, by decide +kernel⟩, by decide +kernel⟩
theorem im_X10_walker : Cond.instanceMethod yX10_walker ∈ lw_tbl := in_t3 95 rfl
theorem se_X10_walker : Cond.selects yX10_walker.cls yX10_walker yX10_walker ∈ lw_tbl := in_t3 96 rfl
theorem yy_X8_init : zY yX8_init cX8_init 4 none 3 := ⟨in_t3 102 rfl, in_t1 18 rfl, ⟨by decide +kernel, by decide +kernel⟩, by decide +kernel⟩
theorem im_X8_init : Cond.instanceMethod yX8_init ∈ lw_tbl := in_t3 101 rfl
theorem yy_X8_arrive : zY yX8_arrive cX8_arrive 3 (some .int) 2 := ⟨in_t3 142 rfl, in_t1 18 rfl, ⟨by decide +kernel, by decide +kernel⟩, by decide +kernel⟩
theorem im_X8_arrive : Cond.instanceMethod yX8_arrive ∈ lw_tbl := in_t3 140 rfl
theorem se_X8_arrive : Cond.selects yX8_arrive.cls yX8_arrive yX8_arrive ∈ lw_tbl := in_t3 141 rfl
theorem yy_X8_forgetSightings : zY yX8_forgetSightings cX8_forgetSightings 1 none 0 := ⟨in_t3 146 rfl, in_t1 18 rfl, ⟨by decide +kernel, by decide +kernel⟩, by decide +kernel⟩
theorem im_X8_forgetSightings : Cond.instanceMethod yX8_forgetSightings ∈ lw_tbl := in_t3 145 rfl
theorem se_X8_forgetSightings : Cond.selects yX8_forgetSightings.cls yX8_forgetSightings yX8_forgetSightings ∈ lw_tbl := in_s 18 rfl
theorem yy_X8_listen : zY yX8_listen cX8_listen 6 (some .int) 1 := ⟨in_t3 150 rfl, in_t1 18 rfl, ⟨by decide +kernel, by decide +kernel⟩, by decide +kernel⟩
theorem im_X8_listen : Cond.instanceMethod yX8_listen ∈ lw_tbl := in_t3 148 rfl
theorem se_X8_listen : Cond.selects yX8_listen.cls yX8_listen yX8_listen ∈ lw_tbl := in_t3 149 rfl
theorem yy_X8_isOver : zY yX8_isOver cX8_isOver 1 (some .boolean) 0 := ⟨in_t3 154 rfl, in_t1 18 rfl, ⟨by decide +kernel, by decide +kernel⟩, by decide +kernel⟩
theorem im_X8_isOver : Cond.instanceMethod yX8_isOver ∈ lw_tbl := in_t3 152 rfl
theorem se_X8_isOver : Cond.selects yX8_isOver.cls yX8_isOver yX8_isOver ∈ lw_tbl := in_t3 153 rfl
theorem yy_X10_today : zY yX10_today cX10_today 4 (some .int) 1 := ⟨in_t3 161 rfl, in_t1 1 rfl, ⟨by decide +kernel, by decide +kernel⟩, by decide +kernel⟩
theorem im_X10_today : Cond.instanceMethod yX10_today ∈ lw_tbl := in_t3 159 rfl
theorem se_X10_today : Cond.selects yX10_today.cls yX10_today yX10_today ∈ lw_tbl := in_t3 160 rfl
theorem yy_X10_go : zY yX10_go cX10_go 5 (some .int) 2 := ⟨in_t3 166 rfl, in_t1 1 rfl, ⟨by decide +kernel, by decide +kernel⟩, by decide +kernel⟩
theorem im_X10_go : Cond.instanceMethod yX10_go ∈ lw_tbl := in_t3 164 rfl
theorem se_X10_go : Cond.selects yX10_go.cls yX10_go yX10_go ∈ lw_tbl := in_t3 165 rfl
theorem yy_X10_findWalker : zY yX10_findWalker cX10_findWalker 2 (some (.object "WalkTeller$Walker")) 1 := ⟨in_t3 170 rfl, in_t1 1 rfl, ⟨by decide +kernel, by decide +kernel⟩, by decide +kernel⟩
theorem im_X10_findWalker : Cond.instanceMethod yX10_findWalker ∈ lw_tbl := in_t3 169 rfl
theorem se_X10_findWalker : Cond.selects yX10_findWalker.cls yX10_findWalker yX10_findWalker ∈ lw_tbl := in_s 19 rfl
theorem yy_X9_leadsFrom : zY yX9_leadsFrom cX9_leadsFrom 2 (some .boolean) 1 := ⟨in_t3 175 rfl, in_t1 8 rfl, ⟨by decide +kernel, by decide +kernel⟩, by decide +kernel⟩
theorem im_X9_leadsFrom : Cond.instanceMethod yX9_leadsFrom ∈ lw_tbl := in_t3 173 rfl
theorem se_X9_leadsFrom : Cond.selects yX9_leadsFrom.cls yX9_leadsFrom yX9_leadsFrom ∈ lw_tbl := in_t3 174 rfl
theorem yy_X9_otherEnd : zY yX9_otherEnd cX9_otherEnd 2 (some .int) 1 := ⟨in_t3 181 rfl, in_t1 8 rfl, ⟨by decide +kernel, by decide +kernel⟩, by decide +kernel⟩
theorem im_X9_otherEnd : Cond.instanceMethod yX9_otherEnd ∈ lw_tbl := in_t3 179 rfl
theorem se_X9_otherEnd : Cond.selects yX9_otherEnd.cls yX9_otherEnd yX9_otherEnd ∈ lw_tbl := in_t3 180 rfl
theorem yy_X10_about : zY yX10_about cX10_about 4 (some .int) 2 := ⟨in_t3 185 rfl, in_t1 1 rfl, ⟨by decide +kernel, by decide +kernel⟩, by decide +kernel⟩
theorem im_X10_about : Cond.instanceMethod yX10_about ∈ lw_tbl := in_t3 183 rfl
theorem se_X10_about : Cond.selects yX10_about.cls yX10_about yX10_about ∈ lw_tbl := in_t3 184 rfl
theorem yy_X10_offer : zY yX10_offer cX10_offer 4 (some .int) 1 := ⟨in_t3 189 rfl, in_t1 1 rfl, ⟨by decide +kernel, by decide +kernel⟩, by decide +kernel⟩
theorem im_X10_offer : Cond.instanceMethod yX10_offer ∈ lw_tbl := in_t3 187 rfl
theorem se_X10_offer : Cond.selects yX10_offer.cls yX10_offer yX10_offer ∈ lw_tbl := in_t3 188 rfl
theorem yy_X10_searchFrom : zY yX10_searchFrom cX10_searchFrom 2 none 1 := ⟨in_t3 193 rfl, in_t1 1 rfl, ⟨by decide +kernel, by decide +kernel⟩, by decide +kernel⟩
theorem im_X10_searchFrom : Cond.instanceMethod yX10_searchFrom ∈ lw_tbl := in_t3 192 rfl
theorem se_X10_searchFrom : Cond.selects yX10_searchFrom.cls yX10_searchFrom yX10_searchFrom ∈ lw_tbl := in_s 20 rfl
theorem yy_X10_bestNextCorner : zY yX10_bestNextCorner cX10_bestNextCorner 8 (some .int) 1 := ⟨in_t3 197 rfl, in_t1 1 rfl, ⟨by decide +kernel, by decide +kernel⟩, by decide +kernel⟩
theorem im_X10_bestNextCorner : Cond.instanceMethod yX10_bestNextCorner ∈ lw_tbl := in_t3 196 rfl
theorem se_X10_bestNextCorner : Cond.selects yX10_bestNextCorner.cls yX10_bestNextCorner yX10_bestNextCorner ∈ lw_tbl := in_s 21 rfl
theorem yy_X10_countWalking : zY yX10_countWalking cX10_countWalking 4 (some .int) 1 := ⟨in_t3 202 rfl, in_t1 1 rfl, ⟨by decide +kernel, by decide +kernel⟩, by decide +kernel⟩
theorem im_X10_countWalking : Cond.instanceMethod yX10_countWalking ∈ lw_tbl := in_t3 201 rfl
theorem se_X10_countWalking : Cond.selects yX10_countWalking.cls yX10_countWalking yX10_countWalking ∈ lw_tbl := in_s 22 rfl
theorem yy_X10_rest : zY yX10_rest cX10_rest 3 (some .int) 1 := ⟨in_t3 206 rfl, in_t1 1 rfl, ⟨by decide +kernel, by decide +kernel⟩, by decide +kernel⟩
theorem im_X10_rest : Cond.instanceMethod yX10_rest ∈ lw_tbl := in_t3 204 rfl
theorem se_X10_rest : Cond.selects yX10_rest.cls yX10_rest yX10_rest ∈ lw_tbl := in_t3 205 rfl
theorem yy_X10_lost : zY yX10_lost cX10_lost 3 (some .int) 1 := ⟨in_t3 210 rfl, in_t1 1 rfl, ⟨by decide +kernel, by decide +kernel⟩, by decide +kernel⟩
theorem im_X10_lost : Cond.instanceMethod yX10_lost ∈ lw_tbl := in_t3 208 rfl
theorem se_X10_lost : Cond.selects yX10_lost.cls yX10_lost yX10_lost ∈ lw_tbl := in_t3 209 rfl
theorem yy_X0_allPieces : zY yX0_allPieces cX0_allPieces 1 (some .int) 0 := ⟨in_t3 214 rfl, in_t1 6 rfl, ⟨by decide +kernel, by decide +kernel⟩, by decide +kernel⟩
theorem im_X0_allPieces : Cond.instanceMethod yX0_allPieces ∈ lw_tbl := in_t3 212 rfl
theorem se_X0_allPieces : Cond.selects yX0_allPieces.cls yX0_allPieces yX0_allPieces ∈ lw_tbl := in_t3 213 rfl
theorem yy_X10_seen : zY yX10_seen cX10_seen 6 (some .int) 4 := ⟨in_t3 218 rfl, in_t1 1 rfl, ⟨by decide +kernel, by decide +kernel⟩, by decide +kernel⟩
theorem im_X10_seen : Cond.instanceMethod yX10_seen ∈ lw_tbl := in_t3 216 rfl
theorem se_X10_seen : Cond.selects yX10_seen.cls yX10_seen yX10_seen ∈ lw_tbl := in_t3 217 rfl
theorem yy_X10_isDoubt : zY yX10_isDoubt cX10_isDoubt 1 (some .boolean) 1 := ⟨in_t3 221 rfl, in_t1 1 rfl, ⟨by decide +kernel, by decide +kernel⟩, by decide +kernel⟩
theorem st_X10_isDoubt : Cond.static yX10_isDoubt ∈ lw_tbl := in_t3 220 rfl
theorem yy_X8_takeReading : zY yX8_takeReading cX8_takeReading 7 none 5 := ⟨in_t3 225 rfl, in_t1 18 rfl, ⟨by decide +kernel, by decide +kernel⟩, by decide +kernel⟩
theorem im_X8_takeReading : Cond.instanceMethod yX8_takeReading ∈ lw_tbl := in_t3 223 rfl
theorem se_X8_takeReading : Cond.selects yX8_takeReading.cls yX8_takeReading yX8_takeReading ∈ lw_tbl := in_t3 224 rfl
theorem yy_X7_possibleCorners : zY yX7_possibleCorners cX7_possibleCorners 6 (some .int) 3 := ⟨in_t3 229 rfl, in_t1 2 rfl, ⟨by decide +kernel, by decide +kernel⟩, by decide +kernel⟩
theorem im_X7_possibleCorners : Cond.instanceMethod yX7_possibleCorners ∈ lw_tbl := in_t3 227 rfl
theorem se_X7_possibleCorners : Cond.selects yX7_possibleCorners.cls yX7_possibleCorners yX7_possibleCorners ∈ lw_tbl := in_t3 228 rfl
theorem yy_J6_numberOfTrailingZeros_0f7a4 : zY yJ6_numberOfTrailingZeros_0f7a4 cJ6_numberOfTrailingZeros_0f7a4 2 (some .int) 1 := ⟨in_t3 234 rfl, in_t1 17 rfl, ⟨by decide +kernel, by decide +kernel⟩, by decide +kernel⟩
theorem st_J6_numberOfTrailingZeros_0f7a4 : Cond.static yJ6_numberOfTrailingZeros_0f7a4 ∈ lw_tbl := in_t3 233 rfl
theorem yy_X8_sight : zY yX8_sight cX8_sight 5 none 3 := ⟨in_t3 239 rfl, in_t1 18 rfl, ⟨by decide +kernel, by decide +kernel⟩, by decide +kernel⟩
theorem im_X8_sight : Cond.instanceMethod yX8_sight ∈ lw_tbl := in_t3 238 rfl
theorem se_X8_sight : Cond.selects yX8_sight.cls yX8_sight yX8_sight ∈ lw_tbl := in_s 23 rfl
theorem yy_X7_isJoined : zY yX7_isJoined cX7_isJoined 6 (some .boolean) 4 := ⟨in_t4 3 rfl, in_t1 2 rfl, ⟨by decide +kernel, by decide +kernel⟩, by decide +kernel⟩
theorem im_X7_isJoined : Cond.instanceMethod yX7_isJoined ∈ lw_tbl := in_t4 1 rfl
theorem se_X7_isJoined : Cond.selects yX7_isJoined.cls yX7_isJoined yX7_isJoined ∈ lw_tbl := in_t4 2 rfl
theorem yy_X10_sheet : zY yX10_sheet cX10_sheet 4 (some .int) 3 := ⟨in_t4 11 rfl, in_t1 1 rfl, ⟨by decide +kernel, by decide +kernel⟩, by decide +kernel⟩
theorem im_X10_sheet : Cond.instanceMethod yX10_sheet ∈ lw_tbl := in_t4 9 rfl
theorem se_X10_sheet : Cond.selects yX10_sheet.cls yX10_sheet yX10_sheet ∈ lw_tbl := in_t4 10 rfl
theorem yy_X10_isSheet : zY yX10_isSheet cX10_isSheet 1 (some .boolean) 1 := ⟨in_t4 14 rfl, in_t1 1 rfl, ⟨by decide +kernel, by decide +kernel⟩, by decide +kernel⟩
theorem st_X10_isSheet : Cond.static yX10_isSheet ∈ lw_tbl := in_t4 13 rfl
theorem yy_X10_isSheetBits : zY yX10_isSheetBits cX10_isSheetBits 1 (some .boolean) 1 := ⟨in_t4 17 rfl, in_t1 1 rfl, ⟨by decide +kernel, by decide +kernel⟩, by decide +kernel⟩
theorem st_X10_isSheetBits : Cond.static yX10_isSheetBits ∈ lw_tbl := in_t4 16 rfl
theorem yy_X5_init : zY yX5_init cX5_init 3 none 2 := ⟨in_t4 22 rfl, in_t1 19 rfl, ⟨by decide +kernel, by decide +kernel⟩, by decide +kernel⟩
theorem im_X5_init : Cond.instanceMethod yX5_init ∈ lw_tbl := in_t4 21 rfl
theorem yy_X10_write : zY yX10_write cX10_write 6 (some .int) 3 := ⟨in_t4 39 rfl, in_t1 1 rfl, ⟨by decide +kernel, by decide +kernel⟩, by decide +kernel⟩
theorem im_X10_write : Cond.instanceMethod yX10_write ∈ lw_tbl := in_t4 37 rfl
theorem se_X10_write : Cond.selects yX10_write.cls yX10_write yX10_write ∈ lw_tbl := in_t4 38 rfl
theorem yy_X5_lowestBits : zY yX5_lowestBits cX5_lowestBits 3 (some .int) 1 := ⟨in_t4 44 rfl, in_t1 19 rfl, ⟨by decide +kernel, by decide +kernel⟩, by decide +kernel⟩
theorem im_X5_lowestBits : Cond.instanceMethod yX5_lowestBits ∈ lw_tbl := in_t4 42 rfl
theorem se_X5_lowestBits : Cond.selects yX5_lowestBits.cls yX5_lowestBits yX5_lowestBits ∈ lw_tbl := in_t4 43 rfl
theorem yy_X10_copy : zY yX10_copy cX10_copy 8 (some .int) 5 := ⟨in_t4 48 rfl, in_t1 1 rfl, ⟨by decide +kernel, by decide +kernel⟩, by decide +kernel⟩
theorem im_X10_copy : Cond.instanceMethod yX10_copy ∈ lw_tbl := in_t4 46 rfl
theorem se_X10_copy : Cond.selects yX10_copy.cls yX10_copy yX10_copy ∈ lw_tbl := in_t4 47 rfl
theorem yy_X5_hasRange : zY yX5_hasRange cX5_hasRange 3 (some .boolean) 2 := ⟨in_t4 52 rfl, in_t1 19 rfl, ⟨by decide +kernel, by decide +kernel⟩, by decide +kernel⟩
theorem im_X5_hasRange : Cond.instanceMethod yX5_hasRange ∈ lw_tbl := in_t4 50 rfl
theorem se_X5_hasRange : Cond.selects yX5_hasRange.cls yX5_hasRange yX5_hasRange ∈ lw_tbl := in_t4 51 rfl
theorem yy_X10_trace : zY yX10_trace cX10_trace 8 (some .int) 2 := ⟨in_t4 59 rfl, in_t1 1 rfl, ⟨by decide +kernel, by decide +kernel⟩, by decide +kernel⟩
theorem im_X10_trace : Cond.instanceMethod yX10_trace ∈ lw_tbl := in_t4 57 rfl
theorem se_X10_trace : Cond.selects yX10_trace.cls yX10_trace yX10_trace ∈ lw_tbl := in_t4 58 rfl
theorem yy_X10_told : zY yX10_told cX10_told 2 (some .int) 1 := ⟨in_t4 63 rfl, in_t1 1 rfl, ⟨by decide +kernel, by decide +kernel⟩, by decide +kernel⟩
theorem im_X10_told : Cond.instanceMethod yX10_told ∈ lw_tbl := in_t4 61 rfl
theorem se_X10_told : Cond.selects yX10_told.cls yX10_told yX10_told ∈ lw_tbl := in_t4 62 rfl
theorem yy_X11_init : zY yX11_init cX11_init 1 none 0 := ⟨in_t4 68 rfl, in_t1 7 rfl, ⟨by decide +kernel, by decide +kernel⟩, by decide +kernel⟩
theorem im_X11_init : Cond.instanceMethod yX11_init ∈ lw_tbl := in_t4 67 rfl
theorem yy_X11_corner : zY yX11_corner cX11_corner 3 (some .int) 2 := ⟨in_t4 208 rfl, in_t1 7 rfl, ⟨by decide +kernel, by decide +kernel⟩, by decide +kernel⟩
theorem im_X11_corner : Cond.instanceMethod yX11_corner ∈ lw_tbl := in_t4 206 rfl
theorem se_X11_corner : Cond.selects yX11_corner.cls yX11_corner yX11_corner ∈ lw_tbl := in_t4 207 rfl
theorem yy_X11_within : zY yX11_within cX11_within 3 (some .boolean) 3 := ⟨in_t4 211 rfl, in_t1 7 rfl, ⟨by decide +kernel, by decide +kernel⟩, by decide +kernel⟩
theorem st_X11_within : Cond.static yX11_within ∈ lw_tbl := in_t4 210 rfl
theorem yy_X11_finding : zY yX11_finding cX11_finding 2 (some .int) 1 := ⟨in_t4 216 rfl, in_t1 7 rfl, ⟨by decide +kernel, by decide +kernel⟩, by decide +kernel⟩
theorem im_X11_finding : Cond.instanceMethod yX11_finding ∈ lw_tbl := in_t4 215 rfl
theorem se_X11_finding : Cond.selects yX11_finding.cls yX11_finding yX11_finding ∈ lw_tbl := in_s 24 rfl
theorem yy_X11_way : zY yX11_way cX11_way 5 (some .int) 4 := ⟨in_t4 221 rfl, in_t1 7 rfl, ⟨by decide +kernel, by decide +kernel⟩, by decide +kernel⟩
theorem im_X11_way : Cond.instanceMethod yX11_way ∈ lw_tbl := in_t4 219 rfl
theorem se_X11_way : Cond.selects yX11_way.cls yX11_way yX11_way ∈ lw_tbl := in_t4 220 rfl
theorem yy_X11_isCorner : zY yX11_isCorner cX11_isCorner 2 (some .boolean) 1 := ⟨in_t4 225 rfl, in_t1 7 rfl, ⟨by decide +kernel, by decide +kernel⟩, by decide +kernel⟩
theorem im_X11_isCorner : Cond.instanceMethod yX11_isCorner ∈ lw_tbl := in_t4 224 rfl
theorem se_X11_isCorner : Cond.selects yX11_isCorner.cls yX11_isCorner yX11_isCorner ∈ lw_tbl := in_s 25 rfl
theorem yy_X11_shut : zY yX11_shut cX11_shut 4 (some .int) 2 := ⟨in_t4 229 rfl, in_t1 7 rfl, ⟨by decide +kernel, by decide +kernel⟩, by decide +kernel⟩
theorem im_X11_shut : Cond.instanceMethod yX11_shut ∈ lw_tbl := in_t4 227 rfl
theorem se_X11_shut : Cond.selects yX11_shut.cls yX11_shut yX11_shut ∈ lw_tbl := in_t4 228 rfl
theorem yy_X11_isWay : zY yX11_isWay cX11_isWay 2 (some .boolean) 1 := ⟨in_t4 233 rfl, in_t1 7 rfl, ⟨by decide +kernel, by decide +kernel⟩, by decide +kernel⟩
theorem im_X11_isWay : Cond.instanceMethod yX11_isWay ∈ lw_tbl := in_t4 232 rfl
theorem se_X11_isWay : Cond.selects yX11_isWay.cls yX11_isWay yX11_isWay ∈ lw_tbl := in_s 26 rfl
theorem yy_X11_far : zY yX11_far cX11_far 10 (some .int) 4 := ⟨in_t4 237 rfl, in_t1 7 rfl, ⟨by decide +kernel, by decide +kernel⟩, by decide +kernel⟩
theorem im_X11_far : Cond.instanceMethod yX11_far ∈ lw_tbl := in_t4 235 rfl
theorem se_X11_far : Cond.selects yX11_far.cls yX11_far yX11_far ∈ lw_tbl := in_t4 236 rfl
theorem yy_X11_isDay : zY yX11_isDay cX11_isDay 1 (some .boolean) 1 := ⟨in_t5 0 rfl, in_t1 7 rfl, ⟨by decide +kernel, by decide +kernel⟩, by decide +kernel⟩
theorem st_X11_isDay : Cond.static yX11_isDay ∈ lw_tbl := in_t4 239 rfl
theorem yy_X11_isOpen : zY yX11_isOpen cX11_isOpen 4 (some .boolean) 3 := ⟨in_t5 5 rfl, in_t1 7 rfl, ⟨by decide +kernel, by decide +kernel⟩, by decide +kernel⟩
theorem im_X11_isOpen : Cond.instanceMethod yX11_isOpen ∈ lw_tbl := in_t5 4 rfl
theorem se_X11_isOpen : Cond.selects yX11_isOpen.cls yX11_isOpen yX11_isOpen ∈ lw_tbl := in_s 27 rfl
theorem yy_X11_feed : zY yX11_feed cX11_feed 5 (some .int) 2 := ⟨in_t5 11 rfl, in_t1 7 rfl, ⟨by decide +kernel, by decide +kernel⟩, by decide +kernel⟩
theorem im_X11_feed : Cond.instanceMethod yX11_feed ∈ lw_tbl := in_t5 9 rfl
theorem se_X11_feed : Cond.selects yX11_feed.cls yX11_feed yX11_feed ∈ lw_tbl := in_t5 10 rfl
theorem yy_X11_story : zY yX11_story cX11_story 2 (some .int) 0 := ⟨in_t5 16 rfl, in_t1 7 rfl, ⟨by decide +kernel, by decide +kernel⟩, by decide +kernel⟩
theorem im_X11_story : Cond.instanceMethod yX11_story ∈ lw_tbl := in_t5 14 rfl
theorem se_X11_story : Cond.selects yX11_story.cls yX11_story yX11_story ∈ lw_tbl := in_t5 15 rfl
theorem yy_X11_newEdition : zY yX11_newEdition cX11_newEdition 4 (some .int) 0 := ⟨in_t5 20 rfl, in_t1 7 rfl, ⟨by decide +kernel, by decide +kernel⟩, by decide +kernel⟩
theorem im_X11_newEdition : Cond.instanceMethod yX11_newEdition ∈ lw_tbl := in_t5 19 rfl
theorem se_X11_newEdition : Cond.selects yX11_newEdition.cls yX11_newEdition yX11_newEdition ∈ lw_tbl := in_s 28 rfl
theorem yy_X11_readsPiece : zY yX11_readsPiece cX11_readsPiece 2 (some .boolean) 0 := ⟨in_t5 24 rfl, in_t1 7 rfl, ⟨by decide +kernel, by decide +kernel⟩, by decide +kernel⟩
theorem im_X11_readsPiece : Cond.instanceMethod yX11_readsPiece ∈ lw_tbl := in_t5 23 rfl
theorem se_X11_readsPiece : Cond.selects yX11_readsPiece.cls yX11_readsPiece yX11_readsPiece ∈ lw_tbl := in_s 29 rfl
theorem yy_X11_byteAt : zY yX11_byteAt cX11_byteAt 2 (some .int) 1 := ⟨in_t5 28 rfl, in_t1 7 rfl, ⟨by decide +kernel, by decide +kernel⟩, by decide +kernel⟩
theorem im_X11_byteAt : Cond.instanceMethod yX11_byteAt ∈ lw_tbl := in_t5 27 rfl
theorem se_X11_byteAt : Cond.selects yX11_byteAt.cls yX11_byteAt yX11_byteAt ∈ lw_tbl := in_s 30 rfl
theorem yy_X11_kindBy : zY yX11_kindBy cX11_kindBy 1 (some .int) 1 := ⟨in_t5 31 rfl, in_t1 7 rfl, ⟨by decide +kernel, by decide +kernel⟩, by decide +kernel⟩
theorem st_X11_kindBy : Cond.static yX11_kindBy ∈ lw_tbl := in_t5 30 rfl
theorem yy_X11_readsDays : zY yX11_readsDays cX11_readsDays 3 (some .boolean) 0 := ⟨in_t5 35 rfl, in_t1 7 rfl, ⟨by decide +kernel, by decide +kernel⟩, by decide +kernel⟩
theorem im_X11_readsDays : Cond.instanceMethod yX11_readsDays ∈ lw_tbl := in_t5 34 rfl
theorem se_X11_readsDays : Cond.selects yX11_readsDays.cls yX11_readsDays yX11_readsDays ∈ lw_tbl := in_s 31 rfl
theorem yy_X11_as : zY yX11_as cX11_as 5 (some .int) 3 := ⟨in_t5 40 rfl, in_t1 7 rfl, ⟨by decide +kernel, by decide +kernel⟩, by decide +kernel⟩
theorem im_X11_as : Cond.instanceMethod yX11_as ∈ lw_tbl := in_t5 38 rfl
theorem se_X11_as : Cond.selects yX11_as.cls yX11_as yX11_as ∈ lw_tbl := in_t5 39 rfl
theorem yy_X11_isPiece : zY yX11_isPiece cX11_isPiece 3 (some .boolean) 2 := ⟨in_t5 44 rfl, in_t1 7 rfl, ⟨by decide +kernel, by decide +kernel⟩, by decide +kernel⟩
theorem im_X11_isPiece : Cond.instanceMethod yX11_isPiece ∈ lw_tbl := in_t5 43 rfl
theorem se_X11_isPiece : Cond.selects yX11_isPiece.cls yX11_isPiece yX11_isPiece ∈ lw_tbl := in_s 32 rfl
theorem yy_X11_isEdition : zY yX11_isEdition cX11_isEdition 2 (some .boolean) 1 := ⟨in_t5 48 rfl, in_t1 7 rfl, ⟨by decide +kernel, by decide +kernel⟩, by decide +kernel⟩
theorem im_X11_isEdition : Cond.instanceMethod yX11_isEdition ∈ lw_tbl := in_t5 47 rfl
theorem se_X11_isEdition : Cond.selects yX11_isEdition.cls yX11_isEdition yX11_isEdition ∈ lw_tbl := in_s 33 rfl
theorem yy_X11_of : zY yX11_of cX11_of 5 (some .int) 3 := ⟨in_t5 53 rfl, in_t1 7 rfl, ⟨by decide +kernel, by decide +kernel⟩, by decide +kernel⟩
theorem im_X11_of : Cond.instanceMethod yX11_of ∈ lw_tbl := in_t5 51 rfl
theorem se_X11_of : Cond.selects yX11_of.cls yX11_of yX11_of ∈ lw_tbl := in_t5 52 rfl
theorem yy_X11_check : zY yX11_check cX11_check 11 (some .int) 5 := ⟨in_t5 57 rfl, in_t1 7 rfl, ⟨by decide +kernel, by decide +kernel⟩, by decide +kernel⟩
theorem im_X11_check : Cond.instanceMethod yX11_check ∈ lw_tbl := in_t5 55 rfl
theorem se_X11_check : Cond.selects yX11_check.cls yX11_check yX11_check ∈ lw_tbl := in_t5 56 rfl
theorem yy_X11_findMoments : zY yX11_findMoments cX11_findMoments 11 none 5 := ⟨in_t5 61 rfl, in_t1 7 rfl, ⟨by decide +kernel, by decide +kernel⟩, by decide +kernel⟩
theorem im_X11_findMoments : Cond.instanceMethod yX11_findMoments ∈ lw_tbl := in_t5 60 rfl
theorem se_X11_findMoments : Cond.selects yX11_findMoments.cls yX11_findMoments yX11_findMoments ∈ lw_tbl := in_s 34 rfl
theorem yy_X11_momentOf : zY yX11_momentOf cX11_momentOf 2 (some .int) 2 := ⟨in_t5 64 rfl, in_t1 7 rfl, ⟨by decide +kernel, by decide +kernel⟩, by decide +kernel⟩
theorem st_X11_momentOf : Cond.static yX11_momentOf ∈ lw_tbl := in_t5 63 rfl
theorem yy_X11_meets : zY yX11_meets cX11_meets 2 none 1 := ⟨in_t5 68 rfl, in_t1 7 rfl, ⟨by decide +kernel, by decide +kernel⟩, by decide +kernel⟩
theorem im_X11_meets : Cond.instanceMethod yX11_meets ∈ lw_tbl := in_t5 67 rfl
theorem se_X11_meets : Cond.selects yX11_meets.cls yX11_meets yX11_meets ∈ lw_tbl := in_s 35 rfl
theorem yy_X11_isOver : zY yX11_isOver cX11_isOver 5 (some .boolean) 2 := ⟨in_t5 72 rfl, in_t1 7 rfl, ⟨by decide +kernel, by decide +kernel⟩, by decide +kernel⟩
theorem im_X11_isOver : Cond.instanceMethod yX11_isOver ∈ lw_tbl := in_t5 71 rfl
theorem se_X11_isOver : Cond.selects yX11_isOver.cls yX11_isOver yX11_isOver ∈ lw_tbl := in_s 36 rfl
theorem yy_X11_nextPiece : zY yX11_nextPiece cX11_nextPiece 6 (some .int) 4 := ⟨in_t5 76 rfl, in_t1 7 rfl, ⟨by decide +kernel, by decide +kernel⟩, by decide +kernel⟩
theorem im_X11_nextPiece : Cond.instanceMethod yX11_nextPiece ∈ lw_tbl := in_t5 75 rfl
theorem se_X11_nextPiece : Cond.selects yX11_nextPiece.cls yX11_nextPiece yX11_nextPiece ∈ lw_tbl := in_s 37 rfl
theorem yy_X11_canTell : zY yX11_canTell cX11_canTell 8 (some .boolean) 5 := ⟨in_t5 80 rfl, in_t1 7 rfl, ⟨by decide +kernel, by decide +kernel⟩, by decide +kernel⟩
theorem im_X11_canTell : Cond.instanceMethod yX11_canTell ∈ lw_tbl := in_t5 79 rfl
theorem se_X11_canTell : Cond.selects yX11_canTell.cls yX11_canTell yX11_canTell ∈ lw_tbl := in_s 38 rfl
theorem yy_X11_allHeard : zY yX11_allHeard cX11_allHeard 3 (some .int) 0 := ⟨in_t5 84 rfl, in_t1 7 rfl, ⟨by decide +kernel, by decide +kernel⟩, by decide +kernel⟩
theorem im_X11_allHeard : Cond.instanceMethod yX11_allHeard ∈ lw_tbl := in_t5 83 rfl
theorem se_X11_allHeard : Cond.selects yX11_allHeard.cls yX11_allHeard yX11_allHeard ∈ lw_tbl := in_s 39 rfl
theorem yy_X11_findTimes : zY yX11_findTimes cX11_findTimes 9 none 3 := ⟨in_t5 88 rfl, in_t1 7 rfl, ⟨by decide +kernel, by decide +kernel⟩, by decide +kernel⟩
theorem im_X11_findTimes : Cond.instanceMethod yX11_findTimes ∈ lw_tbl := in_t5 87 rfl
theorem se_X11_findTimes : Cond.selects yX11_findTimes.cls yX11_findTimes yX11_findTimes ∈ lw_tbl := in_s 40 rfl
theorem yy_X11_comesNearer : zY yX11_comesNearer cX11_comesNearer 6 none 5 := ⟨in_t5 92 rfl, in_t1 7 rfl, ⟨by decide +kernel, by decide +kernel⟩, by decide +kernel⟩
theorem im_X11_comesNearer : Cond.instanceMethod yX11_comesNearer ∈ lw_tbl := in_t5 91 rfl
theorem se_X11_comesNearer : Cond.selects yX11_comesNearer.cls yX11_comesNearer yX11_comesNearer ∈ lw_tbl := in_s 41 rfl
theorem yy_X11_manyCan : zY yX11_manyCan cX11_manyCan 7 (some .int) 4 := ⟨in_t5 96 rfl, in_t1 7 rfl, ⟨by decide +kernel, by decide +kernel⟩, by decide +kernel⟩
theorem im_X11_manyCan : Cond.instanceMethod yX11_manyCan ∈ lw_tbl := in_t5 95 rfl
theorem se_X11_manyCan : Cond.selects yX11_manyCan.cls yX11_manyCan yX11_manyCan ∈ lw_tbl := in_s 42 rfl
theorem yy_X11_quickest : zY yX11_quickest cX11_quickest 6 (some .int) 4 := ⟨in_t5 100 rfl, in_t1 7 rfl, ⟨by decide +kernel, by decide +kernel⟩, by decide +kernel⟩
theorem im_X11_quickest : Cond.instanceMethod yX11_quickest ∈ lw_tbl := in_t5 98 rfl
theorem se_X11_quickest : Cond.selects yX11_quickest.cls yX11_quickest yX11_quickest ∈ lw_tbl := in_t5 99 rfl
theorem yy_X11_canAsk : zY yX11_canAsk cX11_canAsk 4 (some .boolean) 3 := ⟨in_t5 104 rfl, in_t1 7 rfl, ⟨by decide +kernel, by decide +kernel⟩, by decide +kernel⟩
theorem im_X11_canAsk : Cond.instanceMethod yX11_canAsk ∈ lw_tbl := in_t5 103 rfl
theorem se_X11_canAsk : Cond.selects yX11_canAsk.cls yX11_canAsk yX11_canAsk ∈ lw_tbl := in_s 43 rfl
theorem yy_X11_route : zY yX11_route cX11_route 10 (some .int) 5 := ⟨in_t5 108 rfl, in_t1 7 rfl, ⟨by decide +kernel, by decide +kernel⟩, by decide +kernel⟩
theorem im_X11_route : Cond.instanceMethod yX11_route ∈ lw_tbl := in_t5 106 rfl
theorem se_X11_route : Cond.selects yX11_route.cls yX11_route yX11_route ∈ lw_tbl := in_t5 107 rfl
theorem yy_X11_goesTo : zY yX11_goesTo cX11_goesTo 9 (some .int) 4 := ⟨in_t5 112 rfl, in_t1 7 rfl, ⟨by decide +kernel, by decide +kernel⟩, by decide +kernel⟩
theorem im_X11_goesTo : Cond.instanceMethod yX11_goesTo ∈ lw_tbl := in_t5 111 rfl
theorem se_X11_goesTo : Cond.selects yX11_goesTo.cls yX11_goesTo yX11_goesTo ∈ lw_tbl := in_s 44 rfl
theorem yy_X11_walker : zY yX11_walker cX11_walker 5 (some .int) 2 := ⟨in_t5 116 rfl, in_t1 7 rfl, ⟨by decide +kernel, by decide +kernel⟩, by decide +kernel⟩
theorem im_X11_walker : Cond.instanceMethod yX11_walker ∈ lw_tbl := in_t5 114 rfl
theorem se_X11_walker : Cond.selects yX11_walker.cls yX11_walker yX11_walker ∈ lw_tbl := in_t5 115 rfl
theorem yy_X11_listens : zY yX11_listens cX11_listens 6 (some .int) 1 := ⟨in_t5 121 rfl, in_t1 7 rfl, ⟨by decide +kernel, by decide +kernel⟩, by decide +kernel⟩
theorem im_X11_listens : Cond.instanceMethod yX11_listens ∈ lw_tbl := in_t5 120 rfl
theorem se_X11_listens : Cond.selects yX11_listens.cls yX11_listens yX11_listens ∈ lw_tbl := in_s 45 rfl
theorem yy_X11_today : zY yX11_today cX11_today 5 (some .int) 1 := ⟨in_t5 125 rfl, in_t1 7 rfl, ⟨by decide +kernel, by decide +kernel⟩, by decide +kernel⟩
theorem im_X11_today : Cond.instanceMethod yX11_today ∈ lw_tbl := in_t5 123 rfl
theorem se_X11_today : Cond.selects yX11_today.cls yX11_today yX11_today ∈ lw_tbl := in_t5 124 rfl
theorem yy_X11_go : zY yX11_go cX11_go 4 (some .int) 2 := ⟨in_t5 129 rfl, in_t1 7 rfl, ⟨by decide +kernel, by decide +kernel⟩, by decide +kernel⟩
theorem im_X11_go : Cond.instanceMethod yX11_go ∈ lw_tbl := in_t5 127 rfl
theorem se_X11_go : Cond.selects yX11_go.cls yX11_go yX11_go ∈ lw_tbl := in_t5 128 rfl
theorem yy_X11_isWalker : zY yX11_isWalker cX11_isWalker 2 (some .boolean) 1 := ⟨in_t5 133 rfl, in_t1 7 rfl, ⟨by decide +kernel, by decide +kernel⟩, by decide +kernel⟩
theorem im_X11_isWalker : Cond.instanceMethod yX11_isWalker ∈ lw_tbl := in_t5 132 rfl
theorem se_X11_isWalker : Cond.selects yX11_isWalker.cls yX11_isWalker yX11_isWalker ∈ lw_tbl := in_s 46 rfl
theorem yy_X11_isDone : zY yX11_isDone cX11_isDone 2 (some .boolean) 1 := ⟨in_t5 137 rfl, in_t1 7 rfl, ⟨by decide +kernel, by decide +kernel⟩, by decide +kernel⟩
theorem im_X11_isDone : Cond.instanceMethod yX11_isDone ∈ lw_tbl := in_t5 136 rfl
theorem se_X11_isDone : Cond.selects yX11_isDone.cls yX11_isDone yX11_isDone ∈ lw_tbl := in_s 47 rfl
theorem yy_X11_comes : zY yX11_comes cX11_comes 3 (some .int) 2 := ⟨in_t5 141 rfl, in_t1 7 rfl, ⟨by decide +kernel, by decide +kernel⟩, by decide +kernel⟩
theorem im_X11_comes : Cond.instanceMethod yX11_comes ∈ lw_tbl := in_t5 140 rfl
theorem se_X11_comes : Cond.selects yX11_comes.cls yX11_comes yX11_comes ∈ lw_tbl := in_s 48 rfl
theorem yy_X11_about : zY yX11_about cX11_about 3 (some .int) 2 := ⟨in_t5 145 rfl, in_t1 7 rfl, ⟨by decide +kernel, by decide +kernel⟩, by decide +kernel⟩
theorem im_X11_about : Cond.instanceMethod yX11_about ∈ lw_tbl := in_t5 143 rfl
theorem se_X11_about : Cond.selects yX11_about.cls yX11_about yX11_about ∈ lw_tbl := in_t5 144 rfl
theorem yy_X11_offer : zY yX11_offer cX11_offer 9 (some .int) 1 := ⟨in_t5 149 rfl, in_t1 7 rfl, ⟨by decide +kernel, by decide +kernel⟩, by decide +kernel⟩
theorem im_X11_offer : Cond.instanceMethod yX11_offer ∈ lw_tbl := in_t5 147 rfl
theorem se_X11_offer : Cond.selects yX11_offer.cls yX11_offer yX11_offer ∈ lw_tbl := in_t5 148 rfl
theorem yy_X11_wayTo : zY yX11_wayTo cX11_wayTo 6 (some .int) 2 := ⟨in_t5 153 rfl, in_t1 7 rfl, ⟨by decide +kernel, by decide +kernel⟩, by decide +kernel⟩
theorem im_X11_wayTo : Cond.instanceMethod yX11_wayTo ∈ lw_tbl := in_t5 152 rfl
theorem se_X11_wayTo : Cond.selects yX11_wayTo.cls yX11_wayTo yX11_wayTo ∈ lw_tbl := in_s 49 rfl
theorem yy_X11_othersAt : zY yX11_othersAt cX11_othersAt 5 (some .int) 2 := ⟨in_t5 157 rfl, in_t1 7 rfl, ⟨by decide +kernel, by decide +kernel⟩, by decide +kernel⟩
theorem im_X11_othersAt : Cond.instanceMethod yX11_othersAt ∈ lw_tbl := in_t5 156 rfl
theorem se_X11_othersAt : Cond.selects yX11_othersAt.cls yX11_othersAt yX11_othersAt ∈ lw_tbl := in_s 50 rfl
theorem yy_X11_rest : zY yX11_rest cX11_rest 3 (some .int) 1 := ⟨in_t5 161 rfl, in_t1 7 rfl, ⟨by decide +kernel, by decide +kernel⟩, by decide +kernel⟩
theorem im_X11_rest : Cond.instanceMethod yX11_rest ∈ lw_tbl := in_t5 159 rfl
theorem se_X11_rest : Cond.selects yX11_rest.cls yX11_rest yX11_rest ∈ lw_tbl := in_t5 160 rfl
theorem yy_X11_lost : zY yX11_lost cX11_lost 2 (some .int) 1 := ⟨in_t5 165 rfl, in_t1 7 rfl, ⟨by decide +kernel, by decide +kernel⟩, by decide +kernel⟩
theorem im_X11_lost : Cond.instanceMethod yX11_lost ∈ lw_tbl := in_t5 163 rfl
theorem se_X11_lost : Cond.selects yX11_lost.cls yX11_lost yX11_lost ∈ lw_tbl := in_t5 164 rfl
theorem yy_X11_seen : zY yX11_seen cX11_seen 5 (some .int) 4 := ⟨in_t5 169 rfl, in_t1 7 rfl, ⟨by decide +kernel, by decide +kernel⟩, by decide +kernel⟩
theorem im_X11_seen : Cond.instanceMethod yX11_seen ∈ lw_tbl := in_t5 167 rfl
theorem se_X11_seen : Cond.selects yX11_seen.cls yX11_seen yX11_seen ∈ lw_tbl := in_t5 168 rfl
theorem yy_X11_reads : zY yX11_reads cX11_reads 8 none 4 := ⟨in_t5 173 rfl, in_t1 7 rfl, ⟨by decide +kernel, by decide +kernel⟩, by decide +kernel⟩
theorem im_X11_reads : Cond.instanceMethod yX11_reads ∈ lw_tbl := in_t5 172 rfl
theorem se_X11_reads : Cond.selects yX11_reads.cls yX11_reads yX11_reads ∈ lw_tbl := in_s 51 rfl
theorem yy_X11_isPossible : zY yX11_isPossible cX11_isPossible 5 (some .boolean) 4 := ⟨in_t5 177 rfl, in_t1 7 rfl, ⟨by decide +kernel, by decide +kernel⟩, by decide +kernel⟩
theorem im_X11_isPossible : Cond.instanceMethod yX11_isPossible ∈ lw_tbl := in_t5 176 rfl
theorem se_X11_isPossible : Cond.selects yX11_isPossible.cls yX11_isPossible yX11_isPossible ∈ lw_tbl := in_s 52 rfl
theorem yy_J9_abs_067f4 : zY yJ9_abs_067f4 cJ9_abs_067f4 2 (some .long) 1 := ⟨in_t5 180 rfl, in_t1 10 rfl, ⟨by decide +kernel, by decide +kernel⟩, by decide +kernel⟩
theorem st_J9_abs_067f4 : Cond.static yJ9_abs_067f4 ∈ lw_tbl := in_t5 179 rfl
theorem yy_X11_sheet : zY yX11_sheet cX11_sheet 5 (some .int) 3 := ⟨in_t5 184 rfl, in_t1 7 rfl, ⟨by decide +kernel, by decide +kernel⟩, by decide +kernel⟩
theorem im_X11_sheet : Cond.instanceMethod yX11_sheet ∈ lw_tbl := in_t5 182 rfl
theorem se_X11_sheet : Cond.selects yX11_sheet.cls yX11_sheet yX11_sheet ∈ lw_tbl := in_t5 183 rfl
theorem yy_X11_isSheet : zY yX11_isSheet cX11_isSheet 1 (some .boolean) 1 := ⟨in_t5 187 rfl, in_t1 7 rfl, ⟨by decide +kernel, by decide +kernel⟩, by decide +kernel⟩
theorem st_X11_isSheet : Cond.static yX11_isSheet ∈ lw_tbl := in_t5 186 rfl
theorem yy_X11_write : zY yX11_write cX11_write 6 (some .int) 3 := ⟨in_t5 192 rfl, in_t1 7 rfl, ⟨by decide +kernel, by decide +kernel⟩, by decide +kernel⟩
theorem im_X11_write : Cond.instanceMethod yX11_write ∈ lw_tbl := in_t5 190 rfl
theorem se_X11_write : Cond.selects yX11_write.cls yX11_write yX11_write ∈ lw_tbl := in_t5 191 rfl
theorem yy_X11_copy : zY yX11_copy cX11_copy 7 (some .int) 5 := ⟨in_t5 197 rfl, in_t1 7 rfl, ⟨by decide +kernel, by decide +kernel⟩, by decide +kernel⟩
theorem im_X11_copy : Cond.instanceMethod yX11_copy ∈ lw_tbl := in_t5 195 rfl
theorem se_X11_copy : Cond.selects yX11_copy.cls yX11_copy yX11_copy ∈ lw_tbl := in_t5 196 rfl
theorem yy_X11_trace : zY yX11_trace cX11_trace 5 (some .int) 2 := ⟨in_t5 201 rfl, in_t1 7 rfl, ⟨by decide +kernel, by decide +kernel⟩, by decide +kernel⟩
theorem im_X11_trace : Cond.instanceMethod yX11_trace ∈ lw_tbl := in_t5 199 rfl
theorem se_X11_trace : Cond.selects yX11_trace.cls yX11_trace yX11_trace ∈ lw_tbl := in_t5 200 rfl
theorem yy_X11_told : zY yX11_told cX11_told 2 (some .int) 1 := ⟨in_t5 205 rfl, in_t1 7 rfl, ⟨by decide +kernel, by decide +kernel⟩, by decide +kernel⟩
theorem im_X11_told : Cond.instanceMethod yX11_told ∈ lw_tbl := in_t5 203 rfl
theorem se_X11_told : Cond.selects yX11_told.cls yX11_told yX11_told ∈ lw_tbl := in_t5 204 rfl
theorem it_0 : Cond.instantiable RX0 (zn 0) ∈ lw_tbl := in_t1 101 rfl
theorem ii_0 : Cond.initialized RX0 ∈ lw_tbl := in_t1 6 rfl
theorem it_1 : Cond.instantiable RX1 (zn 1) ∈ lw_tbl := in_t1 87 rfl
theorem ii_1 : Cond.initialized RX1 ∈ lw_tbl := in_t1 5 rfl
theorem it_2 : Cond.instantiable RX2 (zn 2) ∈ lw_tbl := in_t2 173 rfl
theorem ii_2 : Cond.initialized RX2 ∈ lw_tbl := in_t1 16 rfl
theorem it_3 : Cond.instantiable RX3 (zn 3) ∈ lw_tbl := in_t2 75 rfl
theorem ii_3 : Cond.initialized RX3 ∈ lw_tbl := in_t1 11 rfl
theorem it_4 : Cond.instantiable RX4 (zn 4) ∈ lw_tbl := in_t1 81 rfl
theorem ii_4 : Cond.initialized RX4 ∈ lw_tbl := in_t1 4 rfl
theorem it_5 : Cond.instantiable RX5 (zn 5) ∈ lw_tbl := in_t4 19 rfl
theorem ii_5 : Cond.initialized RX5 ∈ lw_tbl := in_t1 19 rfl
theorem it_6 : Cond.instantiable RX6 (zn 6) ∈ lw_tbl := in_t1 59 rfl
theorem ii_6 : Cond.initialized RX6 ∈ lw_tbl := in_t1 3 rfl
theorem it_7 : Cond.instantiable RX7 (zn 7) ∈ lw_tbl := in_t1 30 rfl
theorem ii_7 : Cond.initialized RX7 ∈ lw_tbl := in_t1 2 rfl
theorem it_8 : Cond.instantiable RX8 (zn 8) ∈ lw_tbl := in_t3 99 rfl
theorem ii_8 : Cond.initialized RX8 ∈ lw_tbl := in_t1 18 rfl
theorem it_9 : Cond.instantiable RX9 (zn 9) ∈ lw_tbl := in_t1 202 rfl
theorem ii_9 : Cond.initialized RX9 ∈ lw_tbl := in_t1 8 rfl
theorem it_10 : Cond.instantiable RX10 (zn 10) ∈ lw_tbl := in_t1 22 rfl
theorem ii_10 : Cond.initialized RX10 ∈ lw_tbl := in_t1 1 rfl
theorem it_11 : Cond.instantiable RX11 (zn 11) ∈ lw_tbl := in_t4 65 rfl
theorem ii_11 : Cond.initialized RX11 ∈ lw_tbl := in_t1 7 rfl
theorem ac_int : Cond.arrayClass .int ∈ lw_tbl := in_t1 57 rfl
theorem ac_boolean : Cond.arrayClass .boolean ∈ lw_tbl := in_t4 204 rfl
theorem ac_byte : Cond.arrayClass .byte ∈ lw_tbl := in_t1 73 rfl
theorem ao_0 : Cond.arrayOver (.object RX0) ∈ lw_tbl := in_t1 75 rfl
theorem ti_0 : zti 0 3 RX0 := fun _ => rfl
theorem ao_2 : Cond.arrayOver (.object RX2) ∈ lw_tbl := in_t1 107 rfl
theorem ti_2 : zti 2 4 RX2 := fun _ => rfl
theorem ao_5 : Cond.arrayOver (.object RX5) ∈ lw_tbl := in_t1 79 rfl
theorem ti_5 : zti 5 5 RX5 := fun _ => rfl
theorem ao_8 : Cond.arrayOver (.object RX8) ∈ lw_tbl := in_t1 77 rfl
theorem ti_8 : zti 8 6 RX8 := fun _ => rfl
theorem ao_9 : Cond.arrayOver (.object RX9) ∈ lw_tbl := in_t1 36 rfl
theorem ti_9 : zti 9 7 RX9 := fun _ => rfl
theorem im_obj : Cond.instanceMethod objectInit ∈ lw_tbl := in_t1 27 rfl
theorem cd_obj : Cond.code objectInit ⟨#[0xb1]⟩ 1 none ∈ lw_tbl := in_t1 28 rfl
theorem st_min : Cond.static Lib.Math.min.name ∈ lw_tbl := in_t2 39 rfl
theorem cd_min : Cond.code Lib.Math.min.name Lib.Math.min.code 2 (some .int) ∈ lw_tbl := in_t2 40 rfl
theorem st_max : Cond.static Lib.Math.max.name ∈ lw_tbl := in_t4 25 rfl
theorem cd_max : Cond.code Lib.Math.max.name Lib.Math.max.code 2 (some .int) ∈ lw_tbl := in_t4 26 rfl
theorem ii_math : Cond.initialized "java/lang/Math" ∈ lw_tbl := in_t1 10 rfl
end
section
/-! more rules: truth values, decided branches, short forms -/
theorem zle {a b : Nat} (h : Nat.ble a b = true) : a ≤ b := Nat.le_of_ble_eq_true h
abbrev zr0 (f lo : Nat) : Room := { frames := f, cells := 0, slots := 0, locals := lo }
abbrev zrm (f lo c s : Nat) : Room := { frames := f, cells := c, slots := s, locals := lo }
/-- a truth value as the machine has it -/
noncomputable def zb (p : Prop) : Int32 := @ite Int32 p (Classical.propDecidable p) 1 0
theorem zb_t {p : Prop} (h : p) : zb p = 1 := by unfold zb; rw [if_pos h]
theorem zb_f {p : Prop} (h : ¬ p) : zb p = 0 := by unfold zb; rw [if_neg h]
theorem zb_0 {p : Prop} : zb p = 0 ↔ ¬ p := by
  by_cases h : p
  · rw [zb_t h]; exact ⟨fun e => absurd e (by decide), fun e => absurd h e⟩
  · rw [zb_f h]; exact ⟨fun _ => h, fun _ => rfl⟩
theorem zb_n0 {p : Prop} : ¬ zb p = 0 ↔ p := by rw [zb_0]; exact Classical.not_not
theorem zb_1 {p : Prop} : zb p = 1 ↔ p := by
  by_cases h : p
  · rw [zb_t h]; exact ⟨fun _ => h, fun _ => rfl⟩
  · rw [zb_f h]; exact ⟨fun e => absurd e (by decide), fun e => absurd e h⟩
theorem zb_iff {p q : Prop} (h : p ↔ q) : zb p = zb q := by rw [propext h]
theorem zb_nar (p : Prop) : narrow .boolean (.int (zb p)) = .int (zb p) := by
  by_cases h : p
  · rw [zb_t h]; rfl
  · rw [zb_f h]; rfl
theorem zb_fit (p : Prop) : fits .boolean (.int (zb p)) = true := by
  by_cases h : p
  · rw [zb_t h]; rfl
  · rw [zb_f h]; rfl
theorem zb_vp (p : Prop) : vp_nar .boolean (zb p) = zb p := by
  by_cases h : p
  · rw [zb_t h]; rfl
  · rw [zb_f h]; rfl
theorem zb_of {x : Int32} (h : x = 0 ∨ x = 1) : x = zb (x = 1) := by
  rcases h with rfl | rfl
  · rw [zb_f (by decide)]
  · rw [zb_t rfl]
section zmore
variable {E : zE} {y : MethodName} {cc : ByteArray} {nL : Nat} {ret : Option FieldType} {rm : Room} {K : zK E y cc nL ret rm} {Qf : State → Prop} {T : zT} {N : zN} {P : zP} {I : zI} {R : zR} {kc ks pc n : Nat} {ls : List (Option Value)} {st : List Value}
/-- branches over a truth value -/
theorem v_ifz_eq {p : Prop} {off : Int} {tgt : Nat} (d : decode cc pc = .ok (.ifCond .eq off, 3)) (ht : (pc : Int) + off = (tgt : Int)) (hn : pc + 3 = n) (kt : ¬ p → V K Qf T N P I R kc ks tgt ls st) (kf : p → V K Qf T N P I R kc ks n ls st) : V K Qf T N P I R kc ks pc ls (.int (zb p) :: st) :=
  v_if_eq d ht hn (fun h => kt (zb_0.mp h)) (fun h => kf (zb_n0.mp h))
theorem v_ifz_ne {p : Prop} {off : Int} {tgt : Nat} (d : decode cc pc = .ok (.ifCond .ne off, 3)) (ht : (pc : Int) + off = (tgt : Int)) (hn : pc + 3 = n) (kt : p → V K Qf T N P I R kc ks tgt ls st) (kf : ¬ p → V K Qf T N P I R kc ks n ls st) : V K Qf T N P I R kc ks pc ls (.int (zb p) :: st) :=
  v_if_ne d ht hn (fun h => kt (zb_n0.mp h)) (fun h => kf (zb_0.mp h))
/-- the top of the stack under another name -/
theorem v_top {a b : Int32} (h : a = b) (k : V K Qf T N P I R kc ks pc ls (.int b :: st)) : V K Qf T N P I R kc ks pc ls (.int a :: st) := h ▸ k
theorem v_top2 {a b : Int32} {v : Value} (h : a = b) (k : V K Qf T N P I R kc ks pc ls (v :: .int b :: st)) : V K Qf T N P I R kc ks pc ls (v :: .int a :: st) := h ▸ k
theorem v_heap {T' : zT} {N' : zN} {P' : zP} {I' : zI} {R' : zR} (hT : T = T') (hN : N = N') (hP : P = P') (hI : I = I') (hR : R = R') (k : V K Qf T' N' P' I' R' kc ks pc ls st) : V K Qf T N P I R kc ks pc ls st := by
  subst hT; subst hN; subst hP; subst hI; subst hR; exact k
/-- a truth value comes back -/
theorem v_zret0 {Q : Option Value → zT → zN → zP → zI → zR → Prop} {x : Int32} (hr : ret = some .boolean) (hx : x = 0 ∨ x = 1) (hq : Q (some (.int x)) T N P I R) (hc : kc ≤ rm.cells) (hs : ks ≤ rm.slots) (d : decode cc pc = .ok (.ireturn, 1)) : V K (zQf K Q) T N P I R kc ks pc ls [.int x] :=
  v_zreturn hr (by rcases hx with rfl | rfl <;> rfl) hq hc hs d
/-- two ways into one -/
theorem v_both {A B : Prop} (h : A ∨ B) (f : A ∨ B → V K Qf T N P I R kc ks pc ls st) : V K Qf T N P I R kc ks pc ls st := f h
end zmore
section zdec
variable {E : zE} {y : MethodName} {cc : ByteArray} {nL : Nat} {ret : Option FieldType} {rm : Room} {K : zK E y cc nL ret rm} {Qf : State → Prop} {T : zT} {N : zN} {P : zP} {I : zI} {R : zR} {kc ks pc n : Nat} {ls : List (Option Value)} {st : List Value}
theorem v_if_eq_t {a : Int32} {off : Int} (h : a = 0) (d : decode cc pc = .ok (.ifCond .eq off, 3)) (ht : (pc : Int) + off = (n : Int)) (k : V K Qf T N P I R kc ks n ls st) : V K Qf T N P I R kc ks pc ls (.int a :: st) :=
  v_if_eq d ht rfl (fun _ => k) (fun g => absurd h g)
theorem v_if_eq_f {a : Int32} {off : Int} {tgt : Nat} (h : ¬ a = 0) (d : decode cc pc = .ok (.ifCond .eq off, 3)) (ht : (pc : Int) + off = (tgt : Int)) (hn : pc + 3 = n) (k : V K Qf T N P I R kc ks n ls st) : V K Qf T N P I R kc ks pc ls (.int a :: st) :=
  v_if_eq d ht hn (fun g => absurd g h) (fun _ => k)
theorem v_if_ne_t {a : Int32} {off : Int} (h : ¬ a = 0) (d : decode cc pc = .ok (.ifCond .ne off, 3)) (ht : (pc : Int) + off = (n : Int)) (k : V K Qf T N P I R kc ks n ls st) : V K Qf T N P I R kc ks pc ls (.int a :: st) :=
  v_if_ne d ht rfl (fun _ => k) (fun g => absurd g h)
theorem v_if_ne_f {a : Int32} {off : Int} {tgt : Nat} (h : a = 0) (d : decode cc pc = .ok (.ifCond .ne off, 3)) (ht : (pc : Int) + off = (tgt : Int)) (hn : pc + 3 = n) (k : V K Qf T N P I R kc ks n ls st) : V K Qf T N P I R kc ks pc ls (.int a :: st) :=
  v_if_ne d ht hn (fun g => absurd h g) (fun _ => k)
theorem v_if_lt_t {a : Int32} {off : Int} (h : a < 0) (d : decode cc pc = .ok (.ifCond .lt off, 3)) (ht : (pc : Int) + off = (n : Int)) (k : V K Qf T N P I R kc ks n ls st) : V K Qf T N P I R kc ks pc ls (.int a :: st) :=
  v_if_lt d ht rfl (fun _ => k) (fun g => absurd h g)
theorem v_if_lt_f {a : Int32} {off : Int} {tgt : Nat} (h : ¬ a < 0) (d : decode cc pc = .ok (.ifCond .lt off, 3)) (ht : (pc : Int) + off = (tgt : Int)) (hn : pc + 3 = n) (k : V K Qf T N P I R kc ks n ls st) : V K Qf T N P I R kc ks pc ls (.int a :: st) :=
  v_if_lt d ht hn (fun g => absurd g h) (fun _ => k)
theorem v_if_ge_t {a : Int32} {off : Int} (h : 0 ≤ a) (d : decode cc pc = .ok (.ifCond .ge off, 3)) (ht : (pc : Int) + off = (n : Int)) (k : V K Qf T N P I R kc ks n ls st) : V K Qf T N P I R kc ks pc ls (.int a :: st) :=
  v_if_ge d ht rfl (fun _ => k) (fun g => absurd h g)
theorem v_if_ge_f {a : Int32} {off : Int} {tgt : Nat} (h : ¬ 0 ≤ a) (d : decode cc pc = .ok (.ifCond .ge off, 3)) (ht : (pc : Int) + off = (tgt : Int)) (hn : pc + 3 = n) (k : V K Qf T N P I R kc ks n ls st) : V K Qf T N P I R kc ks pc ls (.int a :: st) :=
  v_if_ge d ht hn (fun g => absurd g h) (fun _ => k)
theorem v_if_gt_t {a : Int32} {off : Int} (h : 0 < a) (d : decode cc pc = .ok (.ifCond .gt off, 3)) (ht : (pc : Int) + off = (n : Int)) (k : V K Qf T N P I R kc ks n ls st) : V K Qf T N P I R kc ks pc ls (.int a :: st) :=
  v_if_gt d ht rfl (fun _ => k) (fun g => absurd h g)
theorem v_if_gt_f {a : Int32} {off : Int} {tgt : Nat} (h : ¬ 0 < a) (d : decode cc pc = .ok (.ifCond .gt off, 3)) (ht : (pc : Int) + off = (tgt : Int)) (hn : pc + 3 = n) (k : V K Qf T N P I R kc ks n ls st) : V K Qf T N P I R kc ks pc ls (.int a :: st) :=
  v_if_gt d ht hn (fun g => absurd g h) (fun _ => k)
theorem v_if_le_t {a : Int32} {off : Int} (h : a ≤ 0) (d : decode cc pc = .ok (.ifCond .le off, 3)) (ht : (pc : Int) + off = (n : Int)) (k : V K Qf T N P I R kc ks n ls st) : V K Qf T N P I R kc ks pc ls (.int a :: st) :=
  v_if_le d ht rfl (fun _ => k) (fun g => absurd h g)
theorem v_if_le_f {a : Int32} {off : Int} {tgt : Nat} (h : ¬ a ≤ 0) (d : decode cc pc = .ok (.ifCond .le off, 3)) (ht : (pc : Int) + off = (tgt : Int)) (hn : pc + 3 = n) (k : V K Qf T N P I R kc ks n ls st) : V K Qf T N P I R kc ks pc ls (.int a :: st) :=
  v_if_le d ht hn (fun g => absurd g h) (fun _ => k)
theorem v_icmp_eq_t {a b : Int32} {off : Int} (h : a = b) (d : decode cc pc = .ok (.if_icmp .eq off, 3)) (ht : (pc : Int) + off = (n : Int)) (k : V K Qf T N P I R kc ks n ls st) : V K Qf T N P I R kc ks pc ls (.int b :: .int a :: st) :=
  v_icmp_eq d ht rfl (fun _ => k) (fun g => absurd h g)
theorem v_icmp_eq_f {a b : Int32} {off : Int} {tgt : Nat} (h : ¬ a = b) (d : decode cc pc = .ok (.if_icmp .eq off, 3)) (ht : (pc : Int) + off = (tgt : Int)) (hn : pc + 3 = n) (k : V K Qf T N P I R kc ks n ls st) : V K Qf T N P I R kc ks pc ls (.int b :: .int a :: st) :=
  v_icmp_eq d ht hn (fun g => absurd g h) (fun _ => k)
theorem v_icmp_ne_t {a b : Int32} {off : Int} (h : ¬ a = b) (d : decode cc pc = .ok (.if_icmp .ne off, 3)) (ht : (pc : Int) + off = (n : Int)) (k : V K Qf T N P I R kc ks n ls st) : V K Qf T N P I R kc ks pc ls (.int b :: .int a :: st) :=
  v_icmp_ne d ht rfl (fun _ => k) (fun g => absurd g h)
theorem v_icmp_ne_f {a b : Int32} {off : Int} {tgt : Nat} (h : a = b) (d : decode cc pc = .ok (.if_icmp .ne off, 3)) (ht : (pc : Int) + off = (tgt : Int)) (hn : pc + 3 = n) (k : V K Qf T N P I R kc ks n ls st) : V K Qf T N P I R kc ks pc ls (.int b :: .int a :: st) :=
  v_icmp_ne d ht hn (fun g => absurd h g) (fun _ => k)
theorem v_icmp_lt_t {a b : Int32} {off : Int} (h : a < b) (d : decode cc pc = .ok (.if_icmp .lt off, 3)) (ht : (pc : Int) + off = (n : Int)) (k : V K Qf T N P I R kc ks n ls st) : V K Qf T N P I R kc ks pc ls (.int b :: .int a :: st) :=
  v_icmp_lt d ht rfl (fun _ => k) (fun g => absurd h g)
theorem v_icmp_lt_f {a b : Int32} {off : Int} {tgt : Nat} (h : ¬ a < b) (d : decode cc pc = .ok (.if_icmp .lt off, 3)) (ht : (pc : Int) + off = (tgt : Int)) (hn : pc + 3 = n) (k : V K Qf T N P I R kc ks n ls st) : V K Qf T N P I R kc ks pc ls (.int b :: .int a :: st) :=
  v_icmp_lt d ht hn (fun g => absurd g h) (fun _ => k)
theorem v_icmp_ge_t {a b : Int32} {off : Int} (h : b ≤ a) (d : decode cc pc = .ok (.if_icmp .ge off, 3)) (ht : (pc : Int) + off = (n : Int)) (k : V K Qf T N P I R kc ks n ls st) : V K Qf T N P I R kc ks pc ls (.int b :: .int a :: st) :=
  v_icmp_ge d ht rfl (fun _ => k) (fun g => absurd h g)
theorem v_icmp_ge_f {a b : Int32} {off : Int} {tgt : Nat} (h : ¬ b ≤ a) (d : decode cc pc = .ok (.if_icmp .ge off, 3)) (ht : (pc : Int) + off = (tgt : Int)) (hn : pc + 3 = n) (k : V K Qf T N P I R kc ks n ls st) : V K Qf T N P I R kc ks pc ls (.int b :: .int a :: st) :=
  v_icmp_ge d ht hn (fun g => absurd g h) (fun _ => k)
theorem v_icmp_gt_t {a b : Int32} {off : Int} (h : b < a) (d : decode cc pc = .ok (.if_icmp .gt off, 3)) (ht : (pc : Int) + off = (n : Int)) (k : V K Qf T N P I R kc ks n ls st) : V K Qf T N P I R kc ks pc ls (.int b :: .int a :: st) :=
  v_icmp_gt d ht rfl (fun _ => k) (fun g => absurd h g)
theorem v_icmp_gt_f {a b : Int32} {off : Int} {tgt : Nat} (h : ¬ b < a) (d : decode cc pc = .ok (.if_icmp .gt off, 3)) (ht : (pc : Int) + off = (tgt : Int)) (hn : pc + 3 = n) (k : V K Qf T N P I R kc ks n ls st) : V K Qf T N P I R kc ks pc ls (.int b :: .int a :: st) :=
  v_icmp_gt d ht hn (fun g => absurd g h) (fun _ => k)
theorem v_icmp_le_t {a b : Int32} {off : Int} (h : a ≤ b) (d : decode cc pc = .ok (.if_icmp .le off, 3)) (ht : (pc : Int) + off = (n : Int)) (k : V K Qf T N P I R kc ks n ls st) : V K Qf T N P I R kc ks pc ls (.int b :: .int a :: st) :=
  v_icmp_le d ht rfl (fun _ => k) (fun g => absurd h g)
theorem v_icmp_le_f {a b : Int32} {off : Int} {tgt : Nat} (h : ¬ a ≤ b) (d : decode cc pc = .ok (.if_icmp .le off, 3)) (ht : (pc : Int) + off = (tgt : Int)) (hn : pc + 3 = n) (k : V K Qf T N P I R kc ks n ls st) : V K Qf T N P I R kc ks pc ls (.int b :: .int a :: st) :=
  v_icmp_le d ht hn (fun g => absurd g h) (fun _ => k)
end zdec
end
section
theorem pl_RX0 : plainName RX0 = true := by decide
theorem pl_RX1 : plainName RX1 = true := by decide
theorem pl_RX2 : plainName RX2 = true := by decide
theorem pl_RX3 : plainName RX3 = true := by decide
theorem pl_RX4 : plainName RX4 = true := by decide
theorem pl_RX5 : plainName RX5 = true := by decide
theorem pl_RX6 : plainName RX6 = true := by decide
theorem pl_RX7 : plainName RX7 = true := by decide
theorem pl_RX8 : plainName RX8 = true := by decide
theorem pl_RX9 : plainName RX9 = true := by decide
theorem pl_RX10 : plainName RX10 = true := by decide
theorem pl_RX11 : plainName RX11 = true := by decide
theorem pl_RJ6 : plainName RJ6 = true := by decide
theorem pl_RJ0 : plainName RJ0 = true := by decide
theorem pl_RJ1 : plainName RJ1 = true := by decide
theorem pl_RJ2 : plainName RJ2 = true := by decide
theorem pl_RJ10 : plainName RJ10 = true := by decide
theorem pl_RJ7 : plainName RJ7 = true := by decide
theorem pl_RJ3 : plainName RJ3 = true := by decide
def bt (x : Int32) (i : Nat) : Bool := x.toBitVec.getLsbD i
theorem b_ext {x y : Int32} (h : ∀ i, i < 32 → bt x i = bt y i) : x = y := Int32.toBitVec_inj.mp (BitVec.eq_of_getLsbD_eq (fun i hi => h i hi))
theorem b_or (x y : Int32) (i : Nat) : bt (x ||| y) i = (bt x i || bt y i) := by unfold bt; rw [Int32.toBitVec_or, BitVec.getLsbD_or]
theorem b_and (x y : Int32) (i : Nat) : bt (x &&& y) i = (bt x i && bt y i) := by unfold bt; rw [Int32.toBitVec_and, BitVec.getLsbD_and]
theorem b_xor (x y : Int32) (i : Nat) : bt (x ^^^ y) i = (bt x i ^^ bt y i) := by unfold bt; rw [Int32.toBitVec_xor, BitVec.getLsbD_xor]
theorem b_big {x : Int32} {i : Nat} (h : 32 ≤ i) : bt x i = false := BitVec.getLsbD_of_ge _ _ h
theorem b_255 (i : Nat) : bt 255 i = decide (i < 8) := by
  rcases Nat.lt_or_ge i 32 with h | h
  · exact (by decide +kernel : ∀ i, i < 32 → bt 255 i = decide (i < 8)) i h
  · rw [b_big h, decide_eq_false (by omega)]
theorem b_65535 (i : Nat) : bt 65535 i = decide (i < 16) := by
  rcases Nat.lt_or_ge i 32 with h | h
  · exact (by decide +kernel : ∀ i, i < 32 → bt 65535 i = decide (i < 16)) i h
  · rw [b_big h, decide_eq_false (by omega)]
theorem b_m1 : ∀ i, i < 32 → bt (-1) i = true := by decide +kernel
theorem b_0 (i : Nat) : bt 0 i = false := BitVec.getLsbD_zero
theorem s_l : ∀ n, n < 32 → ((nI n &&& 31).toBitVec.smod 32).toNat = n := by decide +kernel
theorem s_u : ∀ n, n < 32 → (((nI n).toUInt32 &&& Int32.toUInt32 31).toBitVec % 32).toNat = n := by decide +kernel
theorem b_shl (n : Nat) (hn : n < 32) (x : Int32) {i : Nat} (hi : i < 32) : bt (x <<< (nI n &&& 31)) i = (decide (n ≤ i) && bt x (i - n)) := by
  unfold bt
  rw [Int32.toBitVec_shiftLeft]
  show (x.toBitVec <<< ((nI n &&& 31).toBitVec.smod 32).toNat).getLsbD i = _
  rw [s_l n hn, BitVec.getLsbD_shiftLeft]
  rcases Nat.lt_or_ge i n with h | h
  · simp [h, Nat.not_le.mpr h]
  · simp [hi, h, Nat.not_lt.mpr h]
theorem b_ushr (n : Nat) (hn : n < 32) (x : Int32) (i : Nat) : bt ((x.toUInt32 >>> ((nI n).toUInt32 &&& Int32.toUInt32 31)).toInt32) i = bt x (n + i) := by
  show (x.toUInt32 >>> ((nI n).toUInt32 &&& Int32.toUInt32 31)).toBitVec.getLsbD i = x.toUInt32.toBitVec.getLsbD (n + i)
  rw [UInt32.toBitVec_shiftRight]
  show (x.toUInt32.toBitVec >>> (((nI n).toUInt32 &&& Int32.toUInt32 31).toBitVec % 32).toNat).getLsbD i = _
  rw [s_u n hn, BitVec.getLsbD_ushiftRight]
theorem b_sshr (n : Nat) (hn : n < 32) (x : Int32) {i : Nat} (hi : i < 32) : bt (x >>> (nI n &&& 31)) i = if n + i < 32 then bt x (n + i) else bt x 31 := by
  unfold bt
  rw [Int32.toBitVec_shiftRight]
  show (x.toBitVec.sshiftRight ((nI n &&& 31).toBitVec.smod 32).toNat).getLsbD i = _
  rw [s_l n hn, BitVec.getLsbD_sshiftRight, BitVec.msb_eq_getLsbD_last]
  simp [hi]
theorem zp_t {p : Prop} {T : zT} {N : zN} {P : zP} {I : zI} {R : zR} (h : p) : zp (zb p) T N P I R (some (.int 1)) T N P I R := by rw [zb_t h]; exact zp.rf
theorem zp_f {p : Prop} {T : zT} {N : zN} {P : zP} {I : zI} {R : zR} (h : ¬ p) : zp (zb p) T N P I R (some (.int 0)) T N P I R := by rw [zb_f h]; exact zp.rf
theorem zp_e {a b : Int32} {T : zT} {N : zN} {P : zP} {I : zI} {R : zR} (h : a = b) : zp b T N P I R (some (.int a)) T N P I R := by rw [h]; exact zp.rf
/-- no answer, the heap as it is said -/
def zv (T : zT) (N : zN) (P : zP) (I : zI) (R : zR) : Option Value → zT → zN → zP → zI → zR → Prop := fun v T' N' P' I' R' => v = none ∧ T' = T ∧ N' = N ∧ P' = P ∧ I' = I ∧ R' = R
theorem zv.rf {T : zT} {N : zN} {P : zP} {I : zI} {R : zR} : zv T N P I R none T N P I R := ⟨rfl, rfl, rfl, rfl, rfl, rfl⟩
theorem zv.use {T : zT} {N : zN} {P : zP} {I : zI} {R : zR} {X : Option Value → zT → zN → zP → zI → zR → Prop} (h : X none T N P I R) : ∀ (v : Option Value) (T' : zT) (N' : zN) (P' : zP) (I' : zI) (R' : zR), zv T N P I R v T' N' P' I' R' → X v T' N' P' I' R' := by
  rintro v T' N' P' I' R' ⟨rfl, rfl, rfl, rfl, rfl, rfl⟩
  exact h
/-- an answer that is a cell (or none), the heap as it is said -/
def za (r : Option Nat) (T : zT) (N : zN) (P : zP) (I : zI) (R : zR) : Option Value → zT → zN → zP → zI → zR → Prop := fun v T' N' P' I' R' => v = some (va_rf r) ∧ T' = T ∧ N' = N ∧ P' = P ∧ I' = I ∧ R' = R
theorem za.rf {r : Option Nat} {T : zT} {N : zN} {P : zP} {I : zI} {R : zR} : za r T N P I R (some (va_rf r)) T N P I R := ⟨rfl, rfl, rfl, rfl, rfl, rfl⟩
theorem za.use {r : Option Nat} {T : zT} {N : zN} {P : zP} {I : zI} {R : zR} {X : Option Value → zT → zN → zP → zI → zR → Prop} (h : X (some (va_rf r)) T N P I R) : ∀ (v : Option Value) (T' : zT) (N' : zN) (P' : zP) (I' : zI) (R' : zR), za r T N P I R v T' N' P' I' R' → X v T' N' P' I' R' := by
  rintro v T' N' P' I' R' ⟨rfl, rfl, rfl, rfl, rfl, rfl⟩
  exact h
theorem bt_nI {s j : Nat} (hs : s < 2 ^ 31) : bt (nI s) j = s.testBit j := by
  unfold bt
  rw [← BitVec.testBit_toNat, pk_tn (by omega)]
/-- the machine's own test of a bit -/
theorem bt_sh {x : Int32} {j : Nat} (hj : j < 32) : x >>> (nI j &&& 31) &&& 1 = 0 ↔ ¬ bt x j = true := by
  have h1 : ∀ i, i < 32 → bt (x >>> (nI j &&& 31) &&& 1) i = (decide (i = 0) && bt x j) := by
    intro i hi
    rw [b_and, b_sshr j hj x hi]
    have h2 : bt 1 i = decide (i = 0) := (by decide +kernel : ∀ i, i < 32 → bt 1 i = decide (i = 0)) i hi
    rw [h2]
    by_cases h0 : i = 0
    · subst h0
      simp [hj]
    · simp [h0]
  constructor
  · intro e h
    have := h1 0 (by omega)
    rw [e, b_0] at this
    simp [h] at this
  · intro h
    apply b_ext
    intro i hi
    rw [h1 i hi, b_0]
    simp [Bool.eq_false_iff.mpr h]
theorem c_X10_isWithin {E : zE} {T : zT} {N : zN} {P : zP} {I : zI} {R : zR} (x a b : Int32) : zC E yX10_isWithin cX10_isWithin 3 (some .boolean) (zr0 0 0) [.int x, .int a, .int b] T N P I R (zp (zb (a ≤ x ∧ x ≤ b)) T N P I R) := by
  refine zC.intro (ls := [some (.int x), some (.int a), some (.int b)]) pl_RX10 (zle rfl) 0 rfl (fun K => ?_)
  refine v_iload_0 dX10_isWithin_0 rfl ?_
  refine v_iload_1 dX10_isWithin_1 rfl ?_
  refine v_icmp_lt (tgt := 14) dX10_isWithin_2 (by decide) rfl (fun c2 => ?_) (fun c2 => ?_)
  · refine v_iconst (v := 0) dX10_isWithin_14 rfl rfl ?_
    exact v_zreturn rfl rfl (zp_f (by simp only [Int32.lt_iff_toInt_lt, Int32.le_iff_toInt_le] at *; omega)) (zle rfl) (zle rfl) dX10_isWithin_15
  · refine v_iload_0 dX10_isWithin_5 rfl ?_
    refine v_iload_2 dX10_isWithin_6 rfl ?_
    refine v_icmp_gt (tgt := 14) dX10_isWithin_7 (by decide) rfl (fun c7 => ?_) (fun c7 => ?_)
    · refine v_iconst (v := 0) dX10_isWithin_14 rfl rfl ?_
      exact v_zreturn rfl rfl (zp_f (by simp only [Int32.lt_iff_toInt_lt, Int32.le_iff_toInt_le] at *; omega)) (zle rfl) (zle rfl) dX10_isWithin_15
    · refine v_iconst (v := 1) dX10_isWithin_10 rfl rfl ?_
      refine v_goto (n := 15) dX10_isWithin_11 (by decide) ?_
      exact v_zreturn rfl rfl (zp_t (by simp only [Int32.lt_iff_toInt_lt, Int32.le_iff_toInt_le] at *; omega)) (zle rfl) (zle rfl) dX10_isWithin_15
theorem c_X11_within {E : zE} {T : zT} {N : zN} {P : zP} {I : zI} {R : zR} (x a b : Int32) : zC E yX11_within cX11_within 3 (some .boolean) (zr0 0 0) [.int x, .int a, .int b] T N P I R (zp (zb (a ≤ x ∧ x ≤ b)) T N P I R) := by
  refine zC.intro (ls := [some (.int x), some (.int a), some (.int b)]) pl_RX11 (zle rfl) 0 rfl (fun K => ?_)
  refine v_iload_0 dX11_within_0 rfl ?_
  refine v_iload_1 dX11_within_1 rfl ?_
  refine v_icmp_lt (tgt := 14) dX11_within_2 (by decide) rfl (fun c2 => ?_) (fun c2 => ?_)
  · refine v_iconst (v := 0) dX11_within_14 rfl rfl ?_
    exact v_zreturn rfl rfl (zp_f (by simp only [Int32.lt_iff_toInt_lt, Int32.le_iff_toInt_le] at *; omega)) (zle rfl) (zle rfl) dX11_within_15
  · refine v_iload_0 dX11_within_5 rfl ?_
    refine v_iload_2 dX11_within_6 rfl ?_
    refine v_icmp_gt (tgt := 14) dX11_within_7 (by decide) rfl (fun c7 => ?_) (fun c7 => ?_)
    · refine v_iconst (v := 0) dX11_within_14 rfl rfl ?_
      exact v_zreturn rfl rfl (zp_f (by simp only [Int32.lt_iff_toInt_lt, Int32.le_iff_toInt_le] at *; omega)) (zle rfl) (zle rfl) dX11_within_15
    · refine v_iconst (v := 1) dX11_within_10 rfl rfl ?_
      refine v_goto (n := 15) dX11_within_11 (by decide) ?_
      exact v_zreturn rfl rfl (zp_t (by simp only [Int32.lt_iff_toInt_lt, Int32.le_iff_toInt_le] at *; omega)) (zle rfl) (zle rfl) dX11_within_15
theorem c_X10_isDay {E : zE} {T : zT} {N : zN} {P : zP} {I : zI} {R : zR} (x : Int32) : zC E yX10_isDay cX10_isDay 1 (some .boolean) (zr0 1 22) [.int x] T N P I R (zp (zb (0 ≤ x ∧ x ≤ 6)) T N P I R) := by
  refine zC.intro (ls := [some (.int x)]) pl_RX10 (zle rfl) 0 rfl (fun K => ?_)
  refine v_iload_0 dX10_isDay_0 rfl ?_
  refine v_iconst (v := 0) dX10_isDay_1 rfl rfl ?_
  refine v_bipush (v := 6) dX10_isDay_2 rfl rfl ?_
  refine v_callS (c_X10_isWithin _ _ _) yy_X10_isWithin st_X10_isWithin lk_10_61 (zle rfl) (zle rfl) (zle rfl) (zle rfl) rfl rfl (zle rfl) dX10_isDay_4 rfl (zp.use ?_)
  exact v_zreturn rfl (zb_nar _) (zp.rf) (zle rfl) (zle rfl) dX10_isDay_7
theorem c_X10_isDoubt {E : zE} {T : zT} {N : zN} {P : zP} {I : zI} {R : zR} (x : Int32) : zC E yX10_isDoubt cX10_isDoubt 1 (some .boolean) (zr0 1 22) [.int x] T N P I R (zp (zb (0 ≤ x ∧ x ≤ 30)) T N P I R) := by
  refine zC.intro (ls := [some (.int x)]) pl_RX10 (zle rfl) 0 rfl (fun K => ?_)
  refine v_iload_0 dX10_isDoubt_0 rfl ?_
  refine v_iconst (v := 0) dX10_isDoubt_1 rfl rfl ?_
  refine v_bipush (v := 30) dX10_isDoubt_2 rfl rfl ?_
  refine v_callS (c_X10_isWithin _ _ _) yy_X10_isWithin st_X10_isWithin lk_10_61 (zle rfl) (zle rfl) (zle rfl) (zle rfl) rfl rfl (zle rfl) dX10_isDoubt_4 rfl (zp.use ?_)
  exact v_zreturn rfl (zb_nar _) (zp.rf) (zle rfl) (zle rfl) dX10_isDoubt_7
theorem c_X10_isSheet {E : zE} {T : zT} {N : zN} {P : zP} {I : zI} {R : zR} (x : Int32) : zC E yX10_isSheet cX10_isSheet 1 (some .boolean) (zr0 1 22) [.int x] T N P I R (zp (zb (0 ≤ x ∧ x ≤ 3)) T N P I R) := by
  refine zC.intro (ls := [some (.int x)]) pl_RX10 (zle rfl) 0 rfl (fun K => ?_)
  refine v_iload_0 dX10_isSheet_0 rfl ?_
  refine v_iconst (v := 0) dX10_isSheet_1 rfl rfl ?_
  refine v_iconst (v := 3) dX10_isSheet_2 rfl rfl ?_
  refine v_callS (c_X10_isWithin _ _ _) yy_X10_isWithin st_X10_isWithin lk_10_61 (zle rfl) (zle rfl) (zle rfl) (zle rfl) rfl rfl (zle rfl) dX10_isSheet_3 rfl (zp.use ?_)
  exact v_zreturn rfl (zb_nar _) (zp.rf) (zle rfl) (zle rfl) dX10_isSheet_6
theorem c_X11_isDay {E : zE} {T : zT} {N : zN} {P : zP} {I : zI} {R : zR} (x : Int32) : zC E yX11_isDay cX11_isDay 1 (some .boolean) (zr0 1 22) [.int x] T N P I R (zp (zb (0 ≤ x ∧ x ≤ 6)) T N P I R) := by
  refine zC.intro (ls := [some (.int x)]) pl_RX11 (zle rfl) 0 rfl (fun K => ?_)
  refine v_iload_0 dX11_isDay_0 rfl ?_
  refine v_iconst (v := 0) dX11_isDay_1 rfl rfl ?_
  refine v_bipush (v := 6) dX11_isDay_2 rfl rfl ?_
  refine v_callS (c_X11_within _ _ _) yy_X11_within st_X11_within lk_11_121 (zle rfl) (zle rfl) (zle rfl) (zle rfl) rfl rfl (zle rfl) dX11_isDay_4 rfl (zp.use ?_)
  exact v_zreturn rfl (zb_nar _) (zp.rf) (zle rfl) (zle rfl) dX11_isDay_7
theorem c_X11_isSheet {E : zE} {T : zT} {N : zN} {P : zP} {I : zI} {R : zR} (x : Int32) : zC E yX11_isSheet cX11_isSheet 1 (some .boolean) (zr0 1 22) [.int x] T N P I R (zp (zb (0 ≤ x ∧ x ≤ 3)) T N P I R) := by
  refine zC.intro (ls := [some (.int x)]) pl_RX11 (zle rfl) 0 rfl (fun K => ?_)
  refine v_iload_0 dX11_isSheet_0 rfl ?_
  refine v_iconst (v := 0) dX11_isSheet_1 rfl rfl ?_
  refine v_iconst (v := 3) dX11_isSheet_2 rfl rfl ?_
  refine v_callS (c_X11_within _ _ _) yy_X11_within st_X11_within lk_11_121 (zle rfl) (zle rfl) (zle rfl) (zle rfl) rfl rfl (zle rfl) dX11_isSheet_3 rfl (zp.use ?_)
  exact v_zreturn rfl (zb_nar _) (zp.rf) (zle rfl) (zle rfl) dX11_isSheet_6
theorem c_X10_isSheetBits {E : zE} {T : zT} {N : zN} {P : zP} {I : zI} {R : zR} (x : Int32) : zC E yX10_isSheetBits cX10_isSheetBits 1 (some .boolean) (zr0 0 0) [.int x] T N P I R (zp (zb (x = 0 ∨ x = 8 ∨ x = 16 ∨ x = 32)) T N P I R) := by
  refine zC.intro (ls := [some (.int x)]) pl_RX10 (zle rfl) 0 rfl (fun K => ?_)
  refine v_iload_0 dX10_isSheetBits_0 rfl ?_
  refine v_if_eq (tgt := 22) dX10_isSheetBits_1 (by decide) rfl (fun c1 => ?_) (fun c1 => ?_)
  · refine v_iconst (v := 1) dX10_isSheetBits_22 rfl rfl ?_
    refine v_goto (n := 27) dX10_isSheetBits_23 (by decide) ?_
    exact v_zreturn rfl rfl (zp_t (Or.inl c1)) (zle rfl) (zle rfl) dX10_isSheetBits_27
  · refine v_iload_0 dX10_isSheetBits_4 rfl ?_
    refine v_bipush (v := 8) dX10_isSheetBits_5 rfl rfl ?_
    refine v_icmp_eq (tgt := 22) dX10_isSheetBits_7 (by decide) rfl (fun c7 => ?_) (fun c7 => ?_)
    · refine v_iconst (v := 1) dX10_isSheetBits_22 rfl rfl ?_
      refine v_goto (n := 27) dX10_isSheetBits_23 (by decide) ?_
      exact v_zreturn rfl rfl (zp_t (Or.inr (Or.inl c7))) (zle rfl) (zle rfl) dX10_isSheetBits_27
    · refine v_iload_0 dX10_isSheetBits_10 rfl ?_
      refine v_bipush (v := 16) dX10_isSheetBits_11 rfl rfl ?_
      refine v_icmp_eq (tgt := 22) dX10_isSheetBits_13 (by decide) rfl (fun c13 => ?_) (fun c13 => ?_)
      · refine v_iconst (v := 1) dX10_isSheetBits_22 rfl rfl ?_
        refine v_goto (n := 27) dX10_isSheetBits_23 (by decide) ?_
        exact v_zreturn rfl rfl (zp_t (Or.inr (Or.inr (Or.inl c13)))) (zle rfl) (zle rfl) dX10_isSheetBits_27
      · refine v_iload_0 dX10_isSheetBits_16 rfl ?_
        refine v_bipush (v := 32) dX10_isSheetBits_17 rfl rfl ?_
        refine v_icmp_ne (tgt := 26) dX10_isSheetBits_19 (by decide) rfl (fun c19 => ?_) (fun c19 => ?_)
        · refine v_iconst (v := 0) dX10_isSheetBits_26 rfl rfl ?_
          exact v_zreturn rfl rfl (zp_f (by simp [c1, c7, c13, c19])) (zle rfl) (zle rfl) dX10_isSheetBits_27
        · refine v_iconst (v := 1) dX10_isSheetBits_22 rfl rfl ?_
          refine v_goto (n := 27) dX10_isSheetBits_23 (by decide) ?_
          exact v_zreturn rfl rfl (zp_t (Or.inr (Or.inr (Or.inr c19)))) (zle rfl) (zle rfl) dX10_isSheetBits_27
theorem c_X10_has {E : zE} {T : zT} {N : zN} {P : zP} {I : zI} {R : zR} (x : Int32) (j : Nat) (hj : j < 32) : zC E yX10_has cX10_has 2 (some .boolean) (zr0 0 0) [.int x, .int (nI j)] T N P I R (zp (zb (bt x j = true)) T N P I R) := by
  refine zC.intro (ls := [some (.int x), some (.int (nI j))]) pl_RX10 (zle rfl) 0 rfl (fun K => ?_)
  refine v_iload_0 dX10_has_0 rfl ?_
  refine v_iload_1 dX10_has_1 rfl ?_
  refine v_ishr dX10_has_2 rfl ?_
  refine v_iconst (v := 1) dX10_has_3 rfl rfl ?_
  refine v_iand dX10_has_4 rfl ?_
  refine v_if_eq (tgt := 12) dX10_has_5 (by decide) rfl (fun c5 => ?_) (fun c5 => ?_)
  · refine v_iconst (v := 0) dX10_has_12 rfl rfl ?_
    exact v_zreturn rfl rfl (zp_f ((bt_sh hj).mp c5)) (zle rfl) (zle rfl) dX10_has_13
  · refine v_iconst (v := 1) dX10_has_8 rfl rfl ?_
    refine v_goto (n := 13) dX10_has_9 (by decide) ?_
    exact v_zreturn rfl rfl (zp_t (Classical.not_not.mp (fun h => c5 ((bt_sh hj).mpr h)))) (zle rfl) (zle rfl) dX10_has_13
theorem c_X10_finding {E : zE} {T : zT} {N : zN} {P : zP} {I : zI} {R : zR} (a : Nat) (w : Int32) (ha : (T a).1 = 20) : zC E yX10_finding cX10_finding 2 (some .int) (zr0 0 0) [.ref a, .int w] T N P I R (zp w T (u3 N 10 9 a (N 10 9 a + 1)) P I R) := by
  refine zC.intro (ls := [some (.ref a), some (.int w)]) pl_RX10 (zle rfl) 0 rfl (fun K => ?_)
  refine v_aload_0 dX10_finding_0 rfl ?_
  refine v_dup dX10_finding_1 rfl rfl ?_
  refine v_getN fl_10_58 (by assumption) rfl (zle rfl) rfl dX10_finding_2 rfl ?_
  refine v_iconst (v := 1) dX10_finding_5 rfl rfl ?_
  refine v_iadd dX10_finding_6 rfl ?_
  refine v_putN fw_10_58 (by assumption) rfl (zle rfl) rfl (fun h => by cases h) rfl rfl dX10_finding_7 rfl ?_
  refine v_iload_1 dX10_finding_10 rfl ?_
  exact v_ireturn rfl (zp.rf) (zle rfl) (zle rfl) dX10_finding_11
theorem c_X11_finding {E : zE} {T : zT} {N : zN} {P : zP} {I : zI} {R : zR} (a : Nat) (w : Int32) (ha : (T a).1 = 21) : zC E yX11_finding cX11_finding 2 (some .int) (zr0 0 0) [.ref a, .int w] T N P I R (zp w T (u3 N 11 31 a (N 11 31 a + 1)) P I R) := by
  refine zC.intro (ls := [some (.ref a), some (.int w)]) pl_RX11 (zle rfl) 0 rfl (fun K => ?_)
  refine v_aload_0 dX11_finding_0 rfl ?_
  refine v_dup dX11_finding_1 rfl rfl ?_
  refine v_getN fl_11_114 (by assumption) rfl (zle rfl) rfl dX11_finding_2 rfl ?_
  refine v_iconst (v := 1) dX11_finding_5 rfl rfl ?_
  refine v_iadd dX11_finding_6 rfl ?_
  refine v_putN fw_11_114 (by assumption) rfl (zle rfl) rfl (fun h => by cases h) rfl rfl dX11_finding_7 rfl ?_
  refine v_iload_1 dX11_finding_10 rfl ?_
  exact v_ireturn rfl (zp.rf) (zle rfl) (zle rfl) dX11_finding_11
theorem c_X11_isCorner {E : zE} {T : zT} {N : zN} {P : zP} {I : zI} {R : zR} (a : Nat) (x : Int32) (ha : (T a).1 = 21) : zC E yX11_isCorner cX11_isCorner 2 (some .boolean) (zr0 1 22) [.ref a, .int x] T N P I R (zp (zb (0 ≤ x ∧ x ≤ N 11 0 a - 1)) T N P I R) := by
  refine zC.intro (ls := [some (.ref a), some (.int x)]) pl_RX11 (zle rfl) 0 rfl (fun K => ?_)
  refine v_iload_1 dX11_isCorner_0 rfl ?_
  refine v_iconst (v := 0) dX11_isCorner_1 rfl rfl ?_
  refine v_aload_0 dX11_isCorner_2 rfl ?_
  refine v_getN fl_11_118 (by assumption) rfl (zle rfl) rfl dX11_isCorner_3 rfl ?_
  refine v_iconst (v := 1) dX11_isCorner_6 rfl rfl ?_
  refine v_isub dX11_isCorner_7 rfl ?_
  refine v_callS (c_X11_within _ _ _) yy_X11_within st_X11_within lk_11_121 (zle rfl) (zle rfl) (zle rfl) (zle rfl) rfl rfl (zle rfl) dX11_isCorner_8 rfl (zp.use ?_)
  exact v_zreturn rfl (zb_nar _) (zp.rf) (zle rfl) (zle rfl) dX11_isCorner_11
theorem c_X11_isWay {E : zE} {T : zT} {N : zN} {P : zP} {I : zI} {R : zR} (a : Nat) (x : Int32) (ha : (T a).1 = 21) : zC E yX11_isWay cX11_isWay 2 (some .boolean) (zr0 1 22) [.ref a, .int x] T N P I R (zp (zb (0 ≤ x ∧ x ≤ N 11 3 a - 1)) T N P I R) := by
  refine zC.intro (ls := [some (.ref a), some (.int x)]) pl_RX11 (zle rfl) 0 rfl (fun K => ?_)
  refine v_iload_1 dX11_isWay_0 rfl ?_
  refine v_iconst (v := 0) dX11_isWay_1 rfl rfl ?_
  refine v_aload_0 dX11_isWay_2 rfl ?_
  refine v_getN fl_11_125 (by assumption) rfl (zle rfl) rfl dX11_isWay_3 rfl ?_
  refine v_iconst (v := 1) dX11_isWay_6 rfl rfl ?_
  refine v_isub dX11_isWay_7 rfl ?_
  refine v_callS (c_X11_within _ _ _) yy_X11_within st_X11_within lk_11_121 (zle rfl) (zle rfl) (zle rfl) (zle rfl) rfl rfl (zle rfl) dX11_isWay_8 rfl (zp.use ?_)
  exact v_zreturn rfl (zb_nar _) (zp.rf) (zle rfl) (zle rfl) dX11_isWay_11
theorem c_X11_isWalker {E : zE} {T : zT} {N : zN} {P : zP} {I : zI} {R : zR} (a : Nat) (x : Int32) (ha : (T a).1 = 21) : zC E yX11_isWalker cX11_isWalker 2 (some .boolean) (zr0 1 22) [.ref a, .int x] T N P I R (zp (zb (0 ≤ x ∧ x ≤ N 11 18 a - 1)) T N P I R) := by
  refine zC.intro (ls := [some (.ref a), some (.int x)]) pl_RX11 (zle rfl) 0 rfl (fun K => ?_)
  refine v_iload_1 dX11_isWalker_0 rfl ?_
  refine v_iconst (v := 0) dX11_isWalker_1 rfl rfl ?_
  refine v_aload_0 dX11_isWalker_2 rfl ?_
  refine v_getN fl_11_128 (by assumption) rfl (zle rfl) rfl dX11_isWalker_3 rfl ?_
  refine v_iconst (v := 1) dX11_isWalker_6 rfl rfl ?_
  refine v_isub dX11_isWalker_7 rfl ?_
  refine v_callS (c_X11_within _ _ _) yy_X11_within st_X11_within lk_11_121 (zle rfl) (zle rfl) (zle rfl) (zle rfl) rfl rfl (zle rfl) dX11_isWalker_8 rfl (zp.use ?_)
  exact v_zreturn rfl (zb_nar _) (zp.rf) (zle rfl) (zle rfl) dX11_isWalker_11
theorem c_X11_isEdition {E : zE} {T : zT} {N : zN} {P : zP} {I : zI} {R : zR} (a : Nat) (x : Int32) (ha : (T a).1 = 21) : zC E yX11_isEdition cX11_isEdition 2 (some .boolean) (zr0 1 22) [.ref a, .int x] T N P I R (zp (zb (0 ≤ x ∧ x ≤ N 11 9 a - 1)) T N P I R) := by
  refine zC.intro (ls := [some (.ref a), some (.int x)]) pl_RX11 (zle rfl) 0 rfl (fun K => ?_)
  refine v_iload_1 dX11_isEdition_0 rfl ?_
  refine v_iconst (v := 0) dX11_isEdition_1 rfl rfl ?_
  refine v_aload_0 dX11_isEdition_2 rfl ?_
  refine v_getN fl_11_184 (by assumption) rfl (zle rfl) rfl dX11_isEdition_3 rfl ?_
  refine v_iconst (v := 1) dX11_isEdition_6 rfl rfl ?_
  refine v_isub dX11_isEdition_7 rfl ?_
  refine v_callS (c_X11_within _ _ _) yy_X11_within st_X11_within lk_11_121 (zle rfl) (zle rfl) (zle rfl) (zle rfl) rfl rfl (zle rfl) dX11_isEdition_8 rfl (zp.use ?_)
  exact v_zreturn rfl (zb_nar _) (zp.rf) (zle rfl) (zle rfl) dX11_isEdition_11
theorem c_X9_leadsFrom {E : zE} {T : zT} {N : zN} {P : zP} {I : zI} {R : zR} (a : Nat) (c : Int32) (ha : (T a).1 = 19) : zC E yX9_leadsFrom cX9_leadsFrom 2 (some .boolean) (zr0 0 0) [.ref a, .int c] T N P I R (zp (zb (c = N 9 0 a ∨ c = N 9 1 a)) T N P I R) := by
  refine zC.intro (ls := [some (.ref a), some (.int c)]) pl_RX9 (zle rfl) 0 rfl (fun K => ?_)
  refine v_iload_1 dX9_leadsFrom_0 rfl ?_
  refine v_aload_0 dX9_leadsFrom_1 rfl ?_
  refine v_getN fl_9_13 (by assumption) rfl (zle rfl) rfl dX9_leadsFrom_2 rfl ?_
  refine v_icmp_eq (tgt := 16) dX9_leadsFrom_5 (by decide) rfl (fun c5 => ?_) (fun c5 => ?_)
  · refine v_iconst (v := 1) dX9_leadsFrom_16 rfl rfl ?_
    refine v_goto (n := 21) dX9_leadsFrom_17 (by decide) ?_
    exact v_zreturn rfl rfl (zp_t (Or.inl c5)) (zle rfl) (zle rfl) dX9_leadsFrom_21
  · refine v_iload_1 dX9_leadsFrom_8 rfl ?_
    refine v_aload_0 dX9_leadsFrom_9 rfl ?_
    refine v_getN fl_9_16 (by assumption) rfl (zle rfl) rfl dX9_leadsFrom_10 rfl ?_
    refine v_icmp_ne (tgt := 20) dX9_leadsFrom_13 (by decide) rfl (fun c13 => ?_) (fun c13 => ?_)
    · refine v_iconst (v := 0) dX9_leadsFrom_20 rfl rfl ?_
      exact v_zreturn rfl rfl (zp_f (fun h => h.elim c5 c13)) (zle rfl) (zle rfl) dX9_leadsFrom_21
    · refine v_iconst (v := 1) dX9_leadsFrom_16 rfl rfl ?_
      refine v_goto (n := 21) dX9_leadsFrom_17 (by decide) ?_
      exact v_zreturn rfl rfl (zp_t (Or.inr c13)) (zle rfl) (zle rfl) dX9_leadsFrom_21
theorem c_X9_otherEnd {E : zE} {T : zT} {N : zN} {P : zP} {I : zI} {R : zR} (a : Nat) (c : Int32) (ha : (T a).1 = 19) : zC E yX9_otherEnd cX9_otherEnd 2 (some .int) (zr0 0 0) [.ref a, .int c] T N P I R (zp (if c = N 9 0 a then N 9 1 a else N 9 0 a) T N P I R) := by
  refine zC.intro (ls := [some (.ref a), some (.int c)]) pl_RX9 (zle rfl) 0 rfl (fun K => ?_)
  refine v_iload_1 dX9_otherEnd_0 rfl ?_
  refine v_aload_0 dX9_otherEnd_1 rfl ?_
  refine v_getN fl_9_13 (by assumption) rfl (zle rfl) rfl dX9_otherEnd_2 rfl ?_
  refine v_icmp_ne (tgt := 15) dX9_otherEnd_5 (by decide) rfl (fun c5 => ?_) (fun c5 => ?_)
  · refine v_aload_0 dX9_otherEnd_15 rfl ?_
    refine v_getN fl_9_13 (by assumption) rfl (zle rfl) rfl dX9_otherEnd_16 rfl ?_
    exact v_ireturn rfl (zp_e (by rw [if_neg c5])) (zle rfl) (zle rfl) dX9_otherEnd_19
  · refine v_aload_0 dX9_otherEnd_8 rfl ?_
    refine v_getN fl_9_16 (by assumption) rfl (zle rfl) rfl dX9_otherEnd_9 rfl ?_
    refine v_goto (n := 19) dX9_otherEnd_12 (by decide) ?_
    exact v_ireturn rfl (zp_e (by rw [if_pos c5])) (zle rfl) (zle rfl) dX9_otherEnd_19
theorem c_X9_isShut {E : zE} {T : zT} {N : zN} {P : zP} {I : zI} {R : zR} (a : Nat) (j : Nat) (ha : (T a).1 = 19) (hj : j < 32) : zC E yX9_isShut cX9_isShut 2 (some .boolean) (zr0 1 21) [.ref a, .int (nI j)] T N P I R (zp (zb (bt (N 9 4 a) j = true)) T N P I R) := by
  refine zC.intro (ls := [some (.ref a), some (.int (nI j))]) pl_RX9 (zle rfl) 0 rfl (fun K => ?_)
  refine v_aload_0 dX9_isShut_0 rfl ?_
  refine v_getN fl_9_7 (by assumption) rfl (zle rfl) rfl dX9_isShut_1 rfl ?_
  refine v_iload_1 dX9_isShut_4 rfl ?_
  refine v_callS (c_X10_has _ _ (by omega)) yy_X10_has st_X10_has lk_9_26 (zle rfl) (zle rfl) (zle rfl) (zle rfl) rfl rfl (zle rfl) dX9_isShut_5 rfl (zp.use ?_)
  exact v_zreturn rfl (zb_nar _) (zp.rf) (zle rfl) (zle rfl) dX9_isShut_8
theorem c_X9_isFor {E : zE} {T : zT} {N : zN} {P : zP} {I : zI} {R : zR} (a : Nat) (s : Prop) (ha : (T a).1 = 19) : zC E yX9_isFor cX9_isFor 2 (some .boolean) (zr0 0 0) [.ref a, .int (zb s)] T N P I R (zp (zb (s ∨ N 9 3 a = 0)) T N P I R) := by
  refine zC.intro (ls := [some (.ref a), some (.int (zb s))]) pl_RX9 (zle rfl) 0 rfl (fun K => ?_)
  refine v_iload_1 dX9_isFor_0 rfl ?_
  refine v_ifz_ne (tgt := 11) dX9_isFor_1 (by decide) rfl (fun c1 => ?_) (fun c1 => ?_)
  · refine v_iconst (v := 1) dX9_isFor_11 rfl rfl ?_
    refine v_goto (n := 16) dX9_isFor_12 (by decide) ?_
    exact v_zreturn rfl rfl (zp_t (Or.inl c1)) (zle rfl) (zle rfl) dX9_isFor_16
  · refine v_aload_0 dX9_isFor_4 rfl ?_
    refine v_getN fl_9_22 (by assumption) rfl (zle rfl) rfl dX9_isFor_5 rfl ?_
    refine v_if_ne (tgt := 15) dX9_isFor_8 (by decide) rfl (fun c8 => ?_) (fun c8 => ?_)
    · refine v_iconst (v := 0) dX9_isFor_15 rfl rfl ?_
      exact v_zreturn rfl rfl (zp_f (fun h => h.elim c1 c8)) (zle rfl) (zle rfl) dX9_isFor_16
    · refine v_iconst (v := 1) dX9_isFor_11 rfl rfl ?_
      refine v_goto (n := 16) dX9_isFor_12 (by decide) ?_
      exact v_zreturn rfl rfl (zp_t (Or.inr c8)) (zle rfl) (zle rfl) dX9_isFor_16
theorem c_X9_isOpen {E : zE} {T : zT} {N : zN} {P : zP} {I : zI} {R : zR} (a : Nat) (j : Nat) (s : Prop) (ha : (T a).1 = 19) (hj : j < 32) : zC E yX9_isOpen cX9_isOpen 3 (some .boolean) (zr0 2 42) [.ref a, .int (nI j), .int (zb s)] T N P I R (zp (zb (¬ bt (N 9 4 a) j = true ∧ (s ∨ N 9 3 a = 0))) T N P I R) := by
  refine zC.intro (ls := [some (.ref a), some (.int (nI j)), some (.int (zb s))]) pl_RX9 (zle rfl) 0 rfl (fun K => ?_)
  refine v_aload_0 dX9_isOpen_0 rfl ?_
  refine v_iload_1 dX9_isOpen_1 rfl ?_
  refine v_callV (ci := 9) (F := TX9) (c_X9_isShut _ _ (by assumption) (by omega)) yy_X9_isShut im_X9_isShut se_X9_isShut lk_9_32 (by assumption) (zle rfl) rfl (zle rfl) (zle rfl) (zle rfl) (zle rfl) rfl rfl (zle rfl) dX9_isOpen_2 rfl (zp.use ?_)
  refine v_ifz_ne (tgt := 20) dX9_isOpen_5 (by decide) rfl (fun c5 => ?_) (fun c5 => ?_)
  · refine v_iconst (v := 0) dX9_isOpen_20 rfl rfl ?_
    exact v_zreturn rfl rfl (zp_f (fun h => h.1 c5)) (zle rfl) (zle rfl) dX9_isOpen_21
  · refine v_aload_0 dX9_isOpen_8 rfl ?_
    refine v_iload_2 dX9_isOpen_9 rfl ?_
    refine v_callV (ci := 9) (F := TX9) (c_X9_isFor _ _ (by assumption)) yy_X9_isFor im_X9_isFor se_X9_isFor lk_9_36 (by assumption) (zle rfl) rfl (zle rfl) (zle rfl) (zle rfl) (zle rfl) rfl rfl (zle rfl) dX9_isOpen_10 rfl (zp.use ?_)
    refine v_ifz_eq (tgt := 20) dX9_isOpen_13 (by decide) rfl (fun c13 => ?_) (fun c13 => ?_)
    · refine v_iconst (v := 0) dX9_isOpen_20 rfl rfl ?_
      exact v_zreturn rfl rfl (zp_f (fun h => c13 h.2)) (zle rfl) (zle rfl) dX9_isOpen_21
    · refine v_iconst (v := 1) dX9_isOpen_16 rfl rfl ?_
      refine v_goto (n := 21) dX9_isOpen_17 (by decide) ?_
      exact v_zreturn rfl rfl (zp_t ⟨c5, c13⟩) (zle rfl) (zle rfl) dX9_isOpen_21
theorem c_X2_isOfKind {E : zE} {T : zT} {N : zN} {P : zP} {I : zI} {R : zR} (a : Nat) (k : Int32) (ha : (T a).1 = 12) : zC E yX2_isOfKind cX2_isOfKind 2 (some .boolean) (zr0 0 0) [.ref a, .int k] T N P I R (zp (zb (k = N 2 0 a ∨ k = 0 ∨ (k = 2 ∧ N 2 0 a = 3))) T N P I R) := by
  refine zC.intro (ls := [some (.ref a), some (.int k)]) pl_RX2 (zle rfl) 0 rfl (fun K => ?_)
  refine v_iload_1 dX2_isOfKind_0 rfl ?_
  refine v_aload_0 dX2_isOfKind_1 rfl ?_
  refine v_getN fl_2_9 (by assumption) rfl (zle rfl) rfl dX2_isOfKind_2 rfl ?_
  refine v_icmp_eq (tgt := 25) dX2_isOfKind_5 (by decide) rfl (fun c5 => ?_) (fun c5 => ?_)
  · refine v_iconst (v := 1) dX2_isOfKind_25 rfl rfl ?_
    refine v_goto (n := 30) dX2_isOfKind_26 (by decide) ?_
    exact v_zreturn rfl rfl (zp_t (Or.inl c5)) (zle rfl) (zle rfl) dX2_isOfKind_30
  · refine v_iload_1 dX2_isOfKind_8 rfl ?_
    refine v_if_eq (tgt := 25) dX2_isOfKind_9 (by decide) rfl (fun c9 => ?_) (fun c9 => ?_)
    · refine v_iconst (v := 1) dX2_isOfKind_25 rfl rfl ?_
      refine v_goto (n := 30) dX2_isOfKind_26 (by decide) ?_
      exact v_zreturn rfl rfl (zp_t (Or.inr (Or.inl c9))) (zle rfl) (zle rfl) dX2_isOfKind_30
    · refine v_iload_1 dX2_isOfKind_12 rfl ?_
      refine v_iconst (v := 2) dX2_isOfKind_13 rfl rfl ?_
      refine v_icmp_ne (tgt := 29) dX2_isOfKind_14 (by decide) rfl (fun c14 => ?_) (fun c14 => ?_)
      · refine v_iconst (v := 0) dX2_isOfKind_29 rfl rfl ?_
        exact v_zreturn rfl rfl (zp_f (fun h => h.elim c5 (fun h => h.elim c9 (fun h => c14 h.1)))) (zle rfl) (zle rfl) dX2_isOfKind_30
      · refine v_aload_0 dX2_isOfKind_17 rfl ?_
        refine v_getN fl_2_9 (by assumption) rfl (zle rfl) rfl dX2_isOfKind_18 rfl ?_
        refine v_iconst (v := 3) dX2_isOfKind_21 rfl rfl ?_
        refine v_icmp_ne (tgt := 29) dX2_isOfKind_22 (by decide) rfl (fun c22 => ?_) (fun c22 => ?_)
        · refine v_iconst (v := 0) dX2_isOfKind_29 rfl rfl ?_
          exact v_zreturn rfl rfl (zp_f (fun h => h.elim c5 (fun h => h.elim c9 (fun h => c22 h.2)))) (zle rfl) (zle rfl) dX2_isOfKind_30
        · refine v_iconst (v := 1) dX2_isOfKind_25 rfl rfl ?_
          refine v_goto (n := 30) dX2_isOfKind_26 (by decide) ?_
          exact v_zreturn rfl rfl (zp_t (Or.inr (Or.inr ⟨c14, c22⟩))) (zle rfl) (zle rfl) dX2_isOfKind_30
theorem c_X2_fits {E : zE} {T : zT} {N : zN} {P : zP} {I : zI} {R : zR} (a : Nat) (c s : Int32) (j : Nat) (ha : (T a).1 = 12) (hj : j < 32) : zC E yX2_fits cX2_fits 4 (some .boolean) (zr0 0 0) [.ref a, .int c, .int s, .int (nI j)] T N P I R (zp (zb (N 2 1 a = c ∧ bt (N 2 4 a) j = true ∧ ((N 2 0 a = 2 ∨ N 2 0 a = 3) ∧ (N 2 3 a = 0 ∨ ¬ N 2 3 a &&& s = 0) ∨ ¬ (N 2 0 a = 2 ∨ N 2 0 a = 3) ∧ N 2 3 a &&& (s ^^^ (-1)) = 0))) T N P I R) := by
  refine zC.intro (ls := [some (.ref a), some (.int c), some (.int s), some (.int (nI j))]) pl_RX2 (zle rfl) 0 rfl (fun K => ?_)
  refine v_aload_0 dX2_fits_0 rfl ?_
  refine v_getN fl_2_15 (by assumption) rfl (zle rfl) rfl dX2_fits_1 rfl ?_
  refine v_iload_1 dX2_fits_4 rfl ?_
  refine v_icmp_ne (tgt := 19) dX2_fits_5 (by decide) rfl (fun c5 => ?_) (fun c5 => ?_)
  · refine v_iconst (v := 0) dX2_fits_19 rfl rfl ?_
    exact v_zreturn rfl rfl (by
    first
      | (refine zp_t ?_; simp_all [bt_sh hj]; done)
      | (refine zp_f ?_; simp_all [bt_sh hj]; done)) (zle rfl) (zle rfl) dX2_fits_20
  · refine v_aload_0 dX2_fits_8 rfl ?_
    refine v_getN fl_2_24 (by assumption) rfl (zle rfl) rfl dX2_fits_9 rfl ?_
    refine v_iload_3 dX2_fits_12 rfl ?_
    refine v_ishr dX2_fits_13 rfl ?_
    refine v_iconst (v := 1) dX2_fits_14 rfl rfl ?_
    refine v_iand dX2_fits_15 rfl ?_
    refine v_if_ne (tgt := 21) dX2_fits_16 (by decide) rfl (fun c16 => ?_) (fun c16 => ?_)
    · refine v_aload_0 dX2_fits_21 rfl ?_
      refine v_getN fl_2_9 (by assumption) rfl (zle rfl) rfl dX2_fits_22 rfl ?_
      refine v_iconst (v := 2) dX2_fits_25 rfl rfl ?_
      refine v_icmp_eq (tgt := 37) dX2_fits_26 (by decide) rfl (fun c26 => ?_) (fun c26 => ?_)
      · refine v_aload_0 dX2_fits_37 rfl ?_
        refine v_getN fl_2_21 (by assumption) rfl (zle rfl) rfl dX2_fits_38 rfl ?_
        refine v_if_eq (tgt := 53) dX2_fits_41 (by decide) rfl (fun c41 => ?_) (fun c41 => ?_)
        · refine v_iconst (v := 1) dX2_fits_53 rfl rfl ?_
          refine v_goto (n := 58) dX2_fits_54 (by decide) ?_
          exact v_zreturn rfl rfl (by
    first
      | (refine zp_t ?_; simp_all [bt_sh hj]; done)
      | (refine zp_f ?_; simp_all [bt_sh hj]; done)) (zle rfl) (zle rfl) dX2_fits_58
        · refine v_aload_0 dX2_fits_44 rfl ?_
          refine v_getN fl_2_21 (by assumption) rfl (zle rfl) rfl dX2_fits_45 rfl ?_
          refine v_iload_2 dX2_fits_48 rfl ?_
          refine v_iand dX2_fits_49 rfl ?_
          refine v_if_eq (tgt := 57) dX2_fits_50 (by decide) rfl (fun c50 => ?_) (fun c50 => ?_)
          · refine v_iconst (v := 0) dX2_fits_57 rfl rfl ?_
            exact v_zreturn rfl rfl (by
    first
      | (refine zp_t ?_; simp_all [bt_sh hj]; done)
      | (refine zp_f ?_; simp_all [bt_sh hj]; done)) (zle rfl) (zle rfl) dX2_fits_58
          · refine v_iconst (v := 1) dX2_fits_53 rfl rfl ?_
            refine v_goto (n := 58) dX2_fits_54 (by decide) ?_
            exact v_zreturn rfl rfl (by
    first
      | (refine zp_t ?_; simp_all [bt_sh hj]; done)
      | (refine zp_f ?_; simp_all [bt_sh hj]; done)) (zle rfl) (zle rfl) dX2_fits_58
      · refine v_aload_0 dX2_fits_29 rfl ?_
        refine v_getN fl_2_9 (by assumption) rfl (zle rfl) rfl dX2_fits_30 rfl ?_
        refine v_iconst (v := 3) dX2_fits_33 rfl rfl ?_
        refine v_icmp_ne (tgt := 59) dX2_fits_34 (by decide) rfl (fun c34 => ?_) (fun c34 => ?_)
        · refine v_aload_0 dX2_fits_59 rfl ?_
          refine v_getN fl_2_21 (by assumption) rfl (zle rfl) rfl dX2_fits_60 rfl ?_
          refine v_iload_2 dX2_fits_63 rfl ?_
          refine v_iconst (v := -1) dX2_fits_64 rfl rfl ?_
          refine v_ixor dX2_fits_65 rfl ?_
          refine v_iand dX2_fits_66 rfl ?_
          refine v_if_ne (tgt := 74) dX2_fits_67 (by decide) rfl (fun c67 => ?_) (fun c67 => ?_)
          · refine v_iconst (v := 0) dX2_fits_74 rfl rfl ?_
            exact v_zreturn rfl rfl (by
    first
      | (refine zp_t ?_; simp_all [bt_sh hj]; done)
      | (refine zp_f ?_; simp_all [bt_sh hj]; done)) (zle rfl) (zle rfl) dX2_fits_75
          · refine v_iconst (v := 1) dX2_fits_70 rfl rfl ?_
            refine v_goto (n := 75) dX2_fits_71 (by decide) ?_
            exact v_zreturn rfl rfl (by
    first
      | (refine zp_t ?_; simp_all [bt_sh hj]; done)
      | (refine zp_f ?_; simp_all [bt_sh hj]; done)) (zle rfl) (zle rfl) dX2_fits_75
        · refine v_aload_0 dX2_fits_37 rfl ?_
          refine v_getN fl_2_21 (by assumption) rfl (zle rfl) rfl dX2_fits_38 rfl ?_
          refine v_if_eq (tgt := 53) dX2_fits_41 (by decide) rfl (fun c41 => ?_) (fun c41 => ?_)
          · refine v_iconst (v := 1) dX2_fits_53 rfl rfl ?_
            refine v_goto (n := 58) dX2_fits_54 (by decide) ?_
            exact v_zreturn rfl rfl (by
    first
      | (refine zp_t ?_; simp_all [bt_sh hj]; done)
      | (refine zp_f ?_; simp_all [bt_sh hj]; done)) (zle rfl) (zle rfl) dX2_fits_58
          · refine v_aload_0 dX2_fits_44 rfl ?_
            refine v_getN fl_2_21 (by assumption) rfl (zle rfl) rfl dX2_fits_45 rfl ?_
            refine v_iload_2 dX2_fits_48 rfl ?_
            refine v_iand dX2_fits_49 rfl ?_
            refine v_if_eq (tgt := 57) dX2_fits_50 (by decide) rfl (fun c50 => ?_) (fun c50 => ?_)
            · refine v_iconst (v := 0) dX2_fits_57 rfl rfl ?_
              exact v_zreturn rfl rfl (by
    first
      | (refine zp_t ?_; simp_all [bt_sh hj]; done)
      | (refine zp_f ?_; simp_all [bt_sh hj]; done)) (zle rfl) (zle rfl) dX2_fits_58
            · refine v_iconst (v := 1) dX2_fits_53 rfl rfl ?_
              refine v_goto (n := 58) dX2_fits_54 (by decide) ?_
              exact v_zreturn rfl rfl (by
    first
      | (refine zp_t ?_; simp_all [bt_sh hj]; done)
      | (refine zp_f ?_; simp_all [bt_sh hj]; done)) (zle rfl) (zle rfl) dX2_fits_58
    · refine v_iconst (v := 0) dX2_fits_19 rfl rfl ?_
      exact v_zreturn rfl rfl (by
    first
      | (refine zp_t ?_; simp_all [bt_sh hj]; done)
      | (refine zp_f ?_; simp_all [bt_sh hj]; done)) (zle rfl) (zle rfl) dX2_fits_20
theorem c_X5_lowestBits {E : zE} {T : zT} {N : zN} {P : zP} {I : zI} {R : zR} (a : Nat) (v : Int32) (ha : (T a).1 = 15) : zC E yX5_lowestBits cX5_lowestBits 3 (some .int) (zr0 0 0) [.ref a, .int v] T N P I R (zp (v <<< ((32 - N 5 0 a) &&& 31) >>> ((32 - N 5 0 a) &&& 31)) T N P I R) := by
  refine zC.intro (ls := [some (.ref a), some (.int v), none]) pl_RX5 (zle rfl) 1 rfl (fun K => ?_)
  refine v_bipush (v := 32) dX5_lowestBits_0 rfl rfl ?_
  refine v_aload_0 dX5_lowestBits_2 rfl ?_
  refine v_getN fl_5_7 (by assumption) rfl (zle rfl) rfl dX5_lowestBits_3 rfl ?_
  refine v_isub dX5_lowestBits_6 rfl ?_
  refine v_istore_2 dX5_lowestBits_7 rfl (zle rfl) rfl ?_
  refine v_iload_1 dX5_lowestBits_8 rfl ?_
  refine v_iload_2 dX5_lowestBits_9 rfl ?_
  refine v_ishl dX5_lowestBits_10 rfl ?_
  refine v_iload_2 dX5_lowestBits_11 rfl ?_
  refine v_ishr dX5_lowestBits_12 rfl ?_
  exact v_ireturn rfl (zp.rf) (zle rfl) (zle rfl) dX5_lowestBits_13
end
section
/-! the reference's state as the common abstract state: f its numbers, r its rows, by the slots of WalkTellerModel -/
noncomputable def zi {α : Type} (p : Prop) (a b : α) : α := @ite α p (Classical.propDecidable p) a b
theorem zi_t {α : Type} {p : Prop} {a b : α} (h : p) : zi p a b = a := by unfold zi; rw [if_pos h]
theorem zi_f {α : Type} {p : Prop} {a b : α} (h : ¬ p) : zi p a b = b := by unfold zi; rw [if_neg h]
theorem fb9 {z : Int} (h1 : -2147483648 ≤ z) (h2 : z < 2147483648) : z.bmod (2 ^ 32) = z := by
  rw [Int.bmod_eq_emod]
  split <;> omega
def tn (x : Int32) : Nat := x.toNatClampNeg
/-- a number that is one of the first b -/
def Nt (x : Int32) (b : Nat) : Prop := x = nI (tn x) ∧ tn x < b
theorem tn_nI {k : Nat} (h : k < 2 ^ 31) : tn (nI k) = k := nI_clamp h
theorem Nt.of_nI {k b : Nat} (h : k < b) (hb : k < 2 ^ 31) : Nt (nI k) b := ⟨by rw [tn_nI hb], by rw [tn_nI hb]; exact h⟩
theorem tn_pos {x : Int32} (h : 0 ≤ x) : x = nI (tn x) ∧ (tn x : Int) = x.toInt := by
  obtain ⟨j, hj, rfl⟩ := nI_of (x := x) (by simp only [Int32.lt_iff_toInt_lt, Int32.le_iff_toInt_le] at *; omega)
  rw [tn_nI hj, nI_toInt hj]
  exact ⟨rfl, rfl⟩
theorem Nt.mk {x : Int32} {b : Nat} (h0 : 0 ≤ x) (h : x.toInt < b) : Nt x b := by
  obtain ⟨h1, h2⟩ := tn_pos h0
  exact ⟨h1, by omega⟩
theorem Nt.toInt {x : Int32} {b : Nat} (h : Nt x b) (hb : b ≤ 2 ^ 31) : x.toInt = (tn x : Int) := by
  have h2 := h.2
  conv => lhs; rw [h.1]
  exact nI_toInt (by omega)
/-- 'within 0 and a number less one' -/
theorem Nt.within {x c : Int32} {b : Nat} (hc : Nt c b) (hb : b ≤ 2 ^ 31) : (0 ≤ x ∧ x ≤ c - 1) ↔ Nt x (tn c) := by
  have e := hc.toInt hb
  have h2 := hc.2
  have hs : (c - 1).toInt = (tn c : Int) - 1 := by
    rw [hc.1, tn_nI (by omega)]
    rw [show (1 : Int32) = nI 1 from rfl, Int32.toInt_sub, nI_toInt (by omega), nI_toInt (by omega)]
    exact fb9 (by omega) (by omega)
  constructor
  · rintro ⟨h0, h1⟩
    rw [Int32.le_iff_toInt_le, hs] at h1
    exact Nt.mk h0 (by omega)
  · rintro ⟨h0, h1⟩
    refine ⟨?_, ?_⟩
    · rw [h0]; exact nI_pos' (by omega)
    · rw [Int32.le_iff_toInt_le, hs]
      have : x.toInt = (tn x : Int) := by
        conv => lhs; rw [h0]
        exact nI_toInt (by omega)
      omega
def mt : Nat → Nat × Nat
  | 1 => (1, 8)
  | 2 => (1, 8)
  | 4 => (1, 14)
  | 5 => (1, 14)
  | 6 => (1, 14)
  | 7 => (2, 14)
  | 8 => (1, 14)
  | 10 => (1, 4)
  | 11 => (1, 48)
  | 12 => (1, 48)
  | 13 => (1, 48)
  | 14 => (1, 48)
  | 15 => (1, 48)
  | 16 => (1, 200)
  | 19 => (1, 6)
  | 20 => (1, 6)
  | 21 => (1, 6)
  | 22 => (1, 6)
  | 23 => (2, 6)
  | 24 => (1, 6)
  | 25 => (1, 6)
  | 26 => (1, 6)
  | 28 => (1, 4)
  | 29 => (1, 4)
  | 30 => (1, 48)
  | 34 => (1, 12)
  | 35 => (1, 12)
  | 36 => (1, 12)
  | 37 => (1, 12)
  | 38 => (1, 12)
  | 39 => (1, 32768)
  | 40 => (2, 32768)
  | 41 => (1, 32768)
  | 43 => (1, 12)
  | _ => (0, 0)
/-- the reference's object at m, its rows at ad -/
def MOK (T : zT) (P : zP) (m : Nat) (ad : Nat → Nat) : Prop := (T m).1 = 21 ∧ (∀ k, k < 44 → zr 11 k = true → P 11 k m = some (ad k) ∧ T (ad k) = mt k) ∧ ∀ j k, j < 44 → k < 44 → zr 11 j = true → zr 11 k = true → ad j = ad k → j = k
theorem MOK.t {T : zT} {P : zP} {m : Nat} {ad : Nat → Nat} (h : MOK T P m ad) : (T m).1 = 21 := h.1
theorem MOK.ne {T : zT} {P : zP} {m : Nat} {ad : Nat → Nat} (h : MOK T P m ad) {j k : Nat} (hj : j < 44) (hk : k < 44) (gj : zr 11 j = true) (gk : zr 11 k = true) (hne : j ≠ k) : ad j ≠ ad k := fun e => hne (h.2.2 j k hj hk gj gk e)
theorem mp_1 {T : zT} {P : zP} {m : Nat} {ad : Nat → Nat} (h : MOK T P m ad) : P 11 1 m = some (ad 1) := (h.2.1 1 (by decide) rfl).1
theorem ma_1 {T : zT} {P : zP} {m : Nat} {ad : Nat → Nat} (h : MOK T P m ad) : T (ad 1) = (1, 8) := (h.2.1 1 (by decide) rfl).2
theorem mp_2 {T : zT} {P : zP} {m : Nat} {ad : Nat → Nat} (h : MOK T P m ad) : P 11 2 m = some (ad 2) := (h.2.1 2 (by decide) rfl).1
theorem ma_2 {T : zT} {P : zP} {m : Nat} {ad : Nat → Nat} (h : MOK T P m ad) : T (ad 2) = (1, 8) := (h.2.1 2 (by decide) rfl).2
theorem mp_4 {T : zT} {P : zP} {m : Nat} {ad : Nat → Nat} (h : MOK T P m ad) : P 11 4 m = some (ad 4) := (h.2.1 4 (by decide) rfl).1
theorem ma_4 {T : zT} {P : zP} {m : Nat} {ad : Nat → Nat} (h : MOK T P m ad) : T (ad 4) = (1, 14) := (h.2.1 4 (by decide) rfl).2
theorem mp_5 {T : zT} {P : zP} {m : Nat} {ad : Nat → Nat} (h : MOK T P m ad) : P 11 5 m = some (ad 5) := (h.2.1 5 (by decide) rfl).1
theorem ma_5 {T : zT} {P : zP} {m : Nat} {ad : Nat → Nat} (h : MOK T P m ad) : T (ad 5) = (1, 14) := (h.2.1 5 (by decide) rfl).2
theorem mp_6 {T : zT} {P : zP} {m : Nat} {ad : Nat → Nat} (h : MOK T P m ad) : P 11 6 m = some (ad 6) := (h.2.1 6 (by decide) rfl).1
theorem ma_6 {T : zT} {P : zP} {m : Nat} {ad : Nat → Nat} (h : MOK T P m ad) : T (ad 6) = (1, 14) := (h.2.1 6 (by decide) rfl).2
theorem mp_7 {T : zT} {P : zP} {m : Nat} {ad : Nat → Nat} (h : MOK T P m ad) : P 11 7 m = some (ad 7) := (h.2.1 7 (by decide) rfl).1
theorem ma_7 {T : zT} {P : zP} {m : Nat} {ad : Nat → Nat} (h : MOK T P m ad) : T (ad 7) = (2, 14) := (h.2.1 7 (by decide) rfl).2
theorem mp_8 {T : zT} {P : zP} {m : Nat} {ad : Nat → Nat} (h : MOK T P m ad) : P 11 8 m = some (ad 8) := (h.2.1 8 (by decide) rfl).1
theorem ma_8 {T : zT} {P : zP} {m : Nat} {ad : Nat → Nat} (h : MOK T P m ad) : T (ad 8) = (1, 14) := (h.2.1 8 (by decide) rfl).2
theorem mp_10 {T : zT} {P : zP} {m : Nat} {ad : Nat → Nat} (h : MOK T P m ad) : P 11 10 m = some (ad 10) := (h.2.1 10 (by decide) rfl).1
theorem ma_10 {T : zT} {P : zP} {m : Nat} {ad : Nat → Nat} (h : MOK T P m ad) : T (ad 10) = (1, 4) := (h.2.1 10 (by decide) rfl).2
theorem mp_11 {T : zT} {P : zP} {m : Nat} {ad : Nat → Nat} (h : MOK T P m ad) : P 11 11 m = some (ad 11) := (h.2.1 11 (by decide) rfl).1
theorem ma_11 {T : zT} {P : zP} {m : Nat} {ad : Nat → Nat} (h : MOK T P m ad) : T (ad 11) = (1, 48) := (h.2.1 11 (by decide) rfl).2
theorem mp_12 {T : zT} {P : zP} {m : Nat} {ad : Nat → Nat} (h : MOK T P m ad) : P 11 12 m = some (ad 12) := (h.2.1 12 (by decide) rfl).1
theorem ma_12 {T : zT} {P : zP} {m : Nat} {ad : Nat → Nat} (h : MOK T P m ad) : T (ad 12) = (1, 48) := (h.2.1 12 (by decide) rfl).2
theorem mp_13 {T : zT} {P : zP} {m : Nat} {ad : Nat → Nat} (h : MOK T P m ad) : P 11 13 m = some (ad 13) := (h.2.1 13 (by decide) rfl).1
theorem ma_13 {T : zT} {P : zP} {m : Nat} {ad : Nat → Nat} (h : MOK T P m ad) : T (ad 13) = (1, 48) := (h.2.1 13 (by decide) rfl).2
theorem mp_14 {T : zT} {P : zP} {m : Nat} {ad : Nat → Nat} (h : MOK T P m ad) : P 11 14 m = some (ad 14) := (h.2.1 14 (by decide) rfl).1
theorem ma_14 {T : zT} {P : zP} {m : Nat} {ad : Nat → Nat} (h : MOK T P m ad) : T (ad 14) = (1, 48) := (h.2.1 14 (by decide) rfl).2
theorem mp_15 {T : zT} {P : zP} {m : Nat} {ad : Nat → Nat} (h : MOK T P m ad) : P 11 15 m = some (ad 15) := (h.2.1 15 (by decide) rfl).1
theorem ma_15 {T : zT} {P : zP} {m : Nat} {ad : Nat → Nat} (h : MOK T P m ad) : T (ad 15) = (1, 48) := (h.2.1 15 (by decide) rfl).2
theorem mp_16 {T : zT} {P : zP} {m : Nat} {ad : Nat → Nat} (h : MOK T P m ad) : P 11 16 m = some (ad 16) := (h.2.1 16 (by decide) rfl).1
theorem ma_16 {T : zT} {P : zP} {m : Nat} {ad : Nat → Nat} (h : MOK T P m ad) : T (ad 16) = (1, 200) := (h.2.1 16 (by decide) rfl).2
theorem mp_19 {T : zT} {P : zP} {m : Nat} {ad : Nat → Nat} (h : MOK T P m ad) : P 11 19 m = some (ad 19) := (h.2.1 19 (by decide) rfl).1
theorem ma_19 {T : zT} {P : zP} {m : Nat} {ad : Nat → Nat} (h : MOK T P m ad) : T (ad 19) = (1, 6) := (h.2.1 19 (by decide) rfl).2
theorem mp_20 {T : zT} {P : zP} {m : Nat} {ad : Nat → Nat} (h : MOK T P m ad) : P 11 20 m = some (ad 20) := (h.2.1 20 (by decide) rfl).1
theorem ma_20 {T : zT} {P : zP} {m : Nat} {ad : Nat → Nat} (h : MOK T P m ad) : T (ad 20) = (1, 6) := (h.2.1 20 (by decide) rfl).2
theorem mp_21 {T : zT} {P : zP} {m : Nat} {ad : Nat → Nat} (h : MOK T P m ad) : P 11 21 m = some (ad 21) := (h.2.1 21 (by decide) rfl).1
theorem ma_21 {T : zT} {P : zP} {m : Nat} {ad : Nat → Nat} (h : MOK T P m ad) : T (ad 21) = (1, 6) := (h.2.1 21 (by decide) rfl).2
theorem mp_22 {T : zT} {P : zP} {m : Nat} {ad : Nat → Nat} (h : MOK T P m ad) : P 11 22 m = some (ad 22) := (h.2.1 22 (by decide) rfl).1
theorem ma_22 {T : zT} {P : zP} {m : Nat} {ad : Nat → Nat} (h : MOK T P m ad) : T (ad 22) = (1, 6) := (h.2.1 22 (by decide) rfl).2
theorem mp_23 {T : zT} {P : zP} {m : Nat} {ad : Nat → Nat} (h : MOK T P m ad) : P 11 23 m = some (ad 23) := (h.2.1 23 (by decide) rfl).1
theorem ma_23 {T : zT} {P : zP} {m : Nat} {ad : Nat → Nat} (h : MOK T P m ad) : T (ad 23) = (2, 6) := (h.2.1 23 (by decide) rfl).2
theorem mp_24 {T : zT} {P : zP} {m : Nat} {ad : Nat → Nat} (h : MOK T P m ad) : P 11 24 m = some (ad 24) := (h.2.1 24 (by decide) rfl).1
theorem ma_24 {T : zT} {P : zP} {m : Nat} {ad : Nat → Nat} (h : MOK T P m ad) : T (ad 24) = (1, 6) := (h.2.1 24 (by decide) rfl).2
theorem mp_25 {T : zT} {P : zP} {m : Nat} {ad : Nat → Nat} (h : MOK T P m ad) : P 11 25 m = some (ad 25) := (h.2.1 25 (by decide) rfl).1
theorem ma_25 {T : zT} {P : zP} {m : Nat} {ad : Nat → Nat} (h : MOK T P m ad) : T (ad 25) = (1, 6) := (h.2.1 25 (by decide) rfl).2
theorem mp_26 {T : zT} {P : zP} {m : Nat} {ad : Nat → Nat} (h : MOK T P m ad) : P 11 26 m = some (ad 26) := (h.2.1 26 (by decide) rfl).1
theorem ma_26 {T : zT} {P : zP} {m : Nat} {ad : Nat → Nat} (h : MOK T P m ad) : T (ad 26) = (1, 6) := (h.2.1 26 (by decide) rfl).2
theorem mp_28 {T : zT} {P : zP} {m : Nat} {ad : Nat → Nat} (h : MOK T P m ad) : P 11 28 m = some (ad 28) := (h.2.1 28 (by decide) rfl).1
theorem ma_28 {T : zT} {P : zP} {m : Nat} {ad : Nat → Nat} (h : MOK T P m ad) : T (ad 28) = (1, 4) := (h.2.1 28 (by decide) rfl).2
theorem mp_29 {T : zT} {P : zP} {m : Nat} {ad : Nat → Nat} (h : MOK T P m ad) : P 11 29 m = some (ad 29) := (h.2.1 29 (by decide) rfl).1
theorem ma_29 {T : zT} {P : zP} {m : Nat} {ad : Nat → Nat} (h : MOK T P m ad) : T (ad 29) = (1, 4) := (h.2.1 29 (by decide) rfl).2
theorem mp_30 {T : zT} {P : zP} {m : Nat} {ad : Nat → Nat} (h : MOK T P m ad) : P 11 30 m = some (ad 30) := (h.2.1 30 (by decide) rfl).1
theorem ma_30 {T : zT} {P : zP} {m : Nat} {ad : Nat → Nat} (h : MOK T P m ad) : T (ad 30) = (1, 48) := (h.2.1 30 (by decide) rfl).2
theorem mp_34 {T : zT} {P : zP} {m : Nat} {ad : Nat → Nat} (h : MOK T P m ad) : P 11 34 m = some (ad 34) := (h.2.1 34 (by decide) rfl).1
theorem ma_34 {T : zT} {P : zP} {m : Nat} {ad : Nat → Nat} (h : MOK T P m ad) : T (ad 34) = (1, 12) := (h.2.1 34 (by decide) rfl).2
theorem mp_35 {T : zT} {P : zP} {m : Nat} {ad : Nat → Nat} (h : MOK T P m ad) : P 11 35 m = some (ad 35) := (h.2.1 35 (by decide) rfl).1
theorem ma_35 {T : zT} {P : zP} {m : Nat} {ad : Nat → Nat} (h : MOK T P m ad) : T (ad 35) = (1, 12) := (h.2.1 35 (by decide) rfl).2
theorem mp_36 {T : zT} {P : zP} {m : Nat} {ad : Nat → Nat} (h : MOK T P m ad) : P 11 36 m = some (ad 36) := (h.2.1 36 (by decide) rfl).1
theorem ma_36 {T : zT} {P : zP} {m : Nat} {ad : Nat → Nat} (h : MOK T P m ad) : T (ad 36) = (1, 12) := (h.2.1 36 (by decide) rfl).2
theorem mp_37 {T : zT} {P : zP} {m : Nat} {ad : Nat → Nat} (h : MOK T P m ad) : P 11 37 m = some (ad 37) := (h.2.1 37 (by decide) rfl).1
theorem ma_37 {T : zT} {P : zP} {m : Nat} {ad : Nat → Nat} (h : MOK T P m ad) : T (ad 37) = (1, 12) := (h.2.1 37 (by decide) rfl).2
theorem mp_38 {T : zT} {P : zP} {m : Nat} {ad : Nat → Nat} (h : MOK T P m ad) : P 11 38 m = some (ad 38) := (h.2.1 38 (by decide) rfl).1
theorem ma_38 {T : zT} {P : zP} {m : Nat} {ad : Nat → Nat} (h : MOK T P m ad) : T (ad 38) = (1, 12) := (h.2.1 38 (by decide) rfl).2
theorem mp_39 {T : zT} {P : zP} {m : Nat} {ad : Nat → Nat} (h : MOK T P m ad) : P 11 39 m = some (ad 39) := (h.2.1 39 (by decide) rfl).1
theorem ma_39 {T : zT} {P : zP} {m : Nat} {ad : Nat → Nat} (h : MOK T P m ad) : T (ad 39) = (1, 32768) := (h.2.1 39 (by decide) rfl).2
theorem mp_40 {T : zT} {P : zP} {m : Nat} {ad : Nat → Nat} (h : MOK T P m ad) : P 11 40 m = some (ad 40) := (h.2.1 40 (by decide) rfl).1
theorem ma_40 {T : zT} {P : zP} {m : Nat} {ad : Nat → Nat} (h : MOK T P m ad) : T (ad 40) = (2, 32768) := (h.2.1 40 (by decide) rfl).2
theorem mp_41 {T : zT} {P : zP} {m : Nat} {ad : Nat → Nat} (h : MOK T P m ad) : P 11 41 m = some (ad 41) := (h.2.1 41 (by decide) rfl).1
theorem ma_41 {T : zT} {P : zP} {m : Nat} {ad : Nat → Nat} (h : MOK T P m ad) : T (ad 41) = (1, 32768) := (h.2.1 41 (by decide) rfl).2
theorem mp_43 {T : zT} {P : zP} {m : Nat} {ad : Nat → Nat} (h : MOK T P m ad) : P 11 43 m = some (ad 43) := (h.2.1 43 (by decide) rfl).1
theorem ma_43 {T : zT} {P : zP} {m : Nat} {ad : Nat → Nat} (h : MOK T P m ad) : T (ad 43) = (1, 12) := (h.2.1 43 (by decide) rfl).2
abbrev zf : Type := Nat → Int32
abbrev zg : Type := Nat → Nat → Int32
def mf (N : zN) (m : Nat) : zf := fun k => if k < 32 then N 11 k m else 0
def mr (I : zI) (ad : Nat → Nat) : zg := fun k j => if k < 32 ∧ zr 11 k = true then I (ad k) j else 0
theorem mf_set {N : zN} {m k : Nat} {x : Int32} (hk : k < 32) : mf (u3 N 11 k m x) m = u1 (mf N m) k x := by
  funext j
  by_cases h : j = k
  · subst h; simp [mf, u3, u1, hk]
  · simp [mf, u3, u1, h]
theorem mf_scr {N : zN} {m k : Nat} {x : Int32} (hk : 32 ≤ k) : mf (u3 N 11 k m x) m = mf N m := by
  funext j
  by_cases h : j = k
  · subst h; simp [mf, show ¬ j < 32 by omega]
  · simp [mf, u3, h]
theorem mr_set {T : zT} {P : zP} {I : zI} {m : Nat} {ad : Nat → Nat} (h : MOK T P m ad) {k j : Nat} {x : Int32} (hk : k < 32) (hz : zr 11 k = true) : mr (u2 I (ad k) j x) ad = u2 (mr I ad) k j x := by
  funext a b
  unfold mr u2
  by_cases ha : a < 32 ∧ zr 11 a = true
  · by_cases hak : a = k
    · subst hak; simp [ha]
    · have := h.ne (by omega) (by omega) ha.2 hz hak
      simp [ha, this, hak]
  · have : a ≠ k := fun e => ha (e ▸ ⟨hk, hz⟩)
    simp [ha, this]
theorem mr_scr {T : zT} {P : zP} {I : zI} {m : Nat} {ad : Nat → Nat} (h : MOK T P m ad) {k j : Nat} {x : Int32} (hk : 32 ≤ k) (hk2 : k < 44) (hz : zr 11 k = true) : mr (u2 I (ad k) j x) ad = mr I ad := by
  funext a b
  unfold mr u2
  by_cases ha : a < 32 ∧ zr 11 a = true
  · have := h.ne (j := a) (by omega) hk2 ha.2 hz (by omega)
    simp [ha, this]
  · simp [ha]
/-- what the reference's methods leave as it was -/
def Mfr (ad : Nat → Nat) (T : zT) (N : zN) (P : zP) (I : zI) (R : zR) (T' : zT) (N' : zN) (P' : zP) (I' : zI) (R' : zR) : Prop := P' = P ∧ R' = R ∧ (∀ c k a, c ≠ 11 → N' c k a = N c k a) ∧ (∀ a, (T a).1 ≠ 0 → T' a = T a) ∧ ∀ a, (T a).1 ≠ 0 → (∀ k, k < 44 → zr 11 k = true → a ≠ ad k) → I' a = I a
theorem Mfr.rf {ad : Nat → Nat} {T : zT} {N : zN} {P : zP} {I : zI} {R : zR} : Mfr ad T N P I R T N P I R := ⟨rfl, rfl, fun _ _ _ _ => rfl, fun _ _ => rfl, fun _ _ _ => rfl⟩
theorem Mfr.tr {ad : Nat → Nat} {T : zT} {N : zN} {P : zP} {I : zI} {R : zR} {T1 : zT} {N1 : zN} {P1 : zP} {I1 : zI} {R1 : zR} {T2 : zT} {N2 : zN} {P2 : zP} {I2 : zI} {R2 : zR} (h : Mfr ad T N P I R T1 N1 P1 I1 R1) (g : Mfr ad T1 N1 P1 I1 R1 T2 N2 P2 I2 R2) : Mfr ad T N P I R T2 N2 P2 I2 R2 := by
  obtain ⟨h1, h2, h3, h4, h5⟩ := h
  obtain ⟨g1, g2, g3, g4, g5⟩ := g
  refine ⟨g1.trans h1, g2.trans h2, fun c k a hc => (g3 c k a hc).trans (h3 c k a hc), fun a ha => (g4 a (by rw [h4 a ha]; exact ha)).trans (h4 a ha), fun a ha hk => (g5 a (by rw [h4 a ha]; exact ha) hk).trans (h5 a ha hk)⟩
theorem Mfr.n {ad : Nat → Nat} {T : zT} {N : zN} {P : zP} {I : zI} {R : zR} {T1 : zT} {N1 : zN} {P1 : zP} {I1 : zI} {R1 : zR} (h : Mfr ad T N P I R T1 N1 P1 I1 R1) (k a : Nat) (x : Int32) : Mfr ad T N P I R T1 (u3 N1 11 k a x) P1 I1 R1 :=
  ⟨h.1, h.2.1, fun c j b hc => by rw [← h.2.2.1 c j b hc]; simp [u3, hc], h.2.2.2.1, h.2.2.2.2⟩
theorem Mfr.i {ad : Nat → Nat} {T : zT} {N : zN} {P : zP} {I : zI} {R : zR} {T1 : zT} {N1 : zN} {P1 : zP} {I1 : zI} {R1 : zR} (h : Mfr ad T N P I R T1 N1 P1 I1 R1) {k : Nat} (hk : k < 44) (hz : zr 11 k = true) (j : Nat) (x : Int32) : Mfr ad T N P I R T1 N1 P1 (u2 I1 (ad k) j x) R1 :=
  ⟨h.1, h.2.1, h.2.2.1, h.2.2.2.1, fun a ha hne => by rw [← h.2.2.2.2 a ha hne, u2_off I1 x (hne k hk hz)]⟩
/-- an outcome of an act: the answer, the numbers, the rows -/
abbrev zO : Type := Int32 × zf × zg
/-- the end of an act of the reference -/
def mQ (m : Nat) (ad : Nat → Nat) (T : zT) (N : zN) (P : zP) (I : zI) (R : zR) (o : zO) : Option Value → zT → zN → zP → zI → zR → Prop := fun v T' N' P' I' R' => v = some (.int o.1) ∧ MOK T' P' m ad ∧ mf N' m = o.2.1 ∧ mr I' ad = o.2.2 ∧ Mfr ad T N P I R T' N' P' I' R'
/-- a finding -/
def fdg (w : Int32) (f : zf) (r : zg) : zO := (w, u1 f 31 (f 31 + 1), r)
theorem mQ_fd {m : Nat} {ad : Nat → Nat} {T : zT} {N : zN} {P : zP} {I : zI} {R : zR} {o : zO} {w : Int32} (h : MOK T P m ad) (ho : o = fdg w (mf N m) (mr I ad)) : mQ m ad T N P I R o (some (.int w)) T (u3 N 11 31 m (N 11 31 m + 1)) P I R := by
  subst ho
  exact ⟨rfl, h, mf_set (by decide), rfl, Mfr.rf.n 31 m _⟩
theorem mQ_rd {m : Nat} {ad : Nat → Nat} {T : zT} {N : zN} {P : zP} {I : zI} {R : zR} {o : zO} {w : Int32} (h : MOK T P m ad) (ho : o = (w, mf N m, mr I ad)) : mQ m ad T N P I R o (some (.int w)) T N P I R := by
  subst ho
  exact ⟨rfl, h, rfl, rfl, Mfr.rf⟩
theorem Nt.lt {x : Int32} {b : Nat} (h : Nt x (b + 1)) (hb : b < 2 ^ 31) (hne : ¬ x = nI b) : tn x < b := by
  have h2 := h.2
  rcases Nat.lt_or_ge (tn x) b with q | q
  · exact q
  · exact absurd (by rw [h.1]; congr 1; omega) hne
theorem i_ps (x : Int32) : x + 1 - 1 = x := by
  rw [Int32.add_sub_cancel]
theorem tb_out {x : Int32} {k : Nat} (h : ∀ j, j ≤ k → ¬ x = nI j) : x.toInt < 0 ∨ (k : Int) < x.toInt := by
  rcases Int.lt_or_le x.toInt 0 with q | q
  · exact Or.inl q
  · right
    have h0 : 0 ≤ x := by rw [Int32.le_iff_toInt_le]; exact q
    obtain ⟨h1, h2⟩ := tn_pos h0
    rcases Int.lt_or_le k x.toInt with g | g
    · exact g
    · exact absurd h1 (h (tn x) (by omega))
theorem mQ_go {m : Nat} {ad : Nat → Nat} {T : zT} {N : zN} {P : zP} {I : zI} {R : zR} {T' : zT} {N' : zN} {P' : zP} {I' : zI} {R' : zR} {o : zO} {v w : Int32} {f' : zf} {r' : zg} (h : MOK T' P' m ad) (ho : o = (w, f', r')) (hv : v = w) (hf : mf N' m = f') (hr : mr I' ad = r') (hF : Mfr ad T N P I R T' N' P' I' R') : mQ m ad T N P I R o (some (.int v)) T' N' P' I' R' := by
  subst ho; subst hv
  exact ⟨rfl, h, hf, hr, hF⟩
theorem u3_self {α : Type} {f : Nat → Nat → Nat → α} {c k a : Nat} {v : α} : u3 f c k a v c k a = v := by simp [u3]
theorem u2_self {α : Type} {f : Nat → Nat → α} {a i : Nat} {v : α} : u2 f a i v a i = v := by simp [u2]
theorem u1_self {α : Type} {f : Nat → α} {a : Nat} {v : α} : u1 f a v a = v := by simp [u1]
theorem u3_na {α : Type} {f : Nat → Nat → Nat → α} {c k a c' k' b : Nat} {v : α} (h : b ≠ a) : u3 f c k a v c' k' b = f c' k' b := by simp [u3, h]
theorem u2_ni {α : Type} {f : Nat → Nat → α} {a i b j : Nat} {v : α} (h : j ≠ i) : u2 f a i v b j = f b j := by simp [u2, h]
theorem u2_na {α : Type} {f : Nat → Nat → α} {a i b j : Nat} {v : α} (h : b ≠ a) : u2 f a i v b j = f b j := by simp [u2, h]
theorem u1_na {α : Type} {f : Nat → α} {a b : Nat} {v : α} (h : b ≠ a) : u1 f a v b = f b := by simp [u1, h]
end
section
noncomputable def ac_corner (f : zf) (r : zg) (x y : Int32) : zO := zi ((0 ≤ x ∧ x ≤ 99) ∧ (0 ≤ y ∧ y ≤ 99)) (zi (f 0 = 8) (fdg (-1000002) f r) (f 0, u1 f 0 (f 0 + 1), u2 (u2 r 1 (tn (f 0)) x) 2 (tn (f 0)) y)) (fdg (-1000001) f r)
noncomputable def ac_way (f : zf) (r : zg) (a b l : Int32) (s : Prop) : zO := zi ((0 ≤ a ∧ a ≤ f 0 - 1) ∧ (0 ≤ b ∧ b ≤ f 0 - 1) ∧ ¬ a = b ∧ (1 ≤ l ∧ l ≤ 20)) (zi (f 3 = 14) (fdg (-1000002) f r) (f 3, u1 f 3 (f 3 + 1), u2 (u2 (u2 (u2 r 4 (tn (f 3)) a) 5 (tn (f 3)) b) 6 (tn (f 3)) l) 7 (tn (f 3)) (zb s))) (fdg (-1000001) f r)
noncomputable def ac_shut (f : zf) (r : zg) (w d : Int32) : zO := zi ((0 ≤ w ∧ w ≤ f 3 - 1) ∧ (0 ≤ d ∧ d ≤ 127)) (r 8 (tn w), f, u2 r 8 (tn w) d) (fdg (-1000001) f r)
noncomputable def ac_told (f : zf) (r : zg) (w : Int32) : zO := zi (w = 0) (f 0, f, r) (zi (w = 1) (f 3, f, r) (zi (w = 2) (f 9, f, r) (zi (w = 3) (f 18, f, r) (zi (w = 4) (f 27, f, r) (zi (w = 5) (f 17, f, r) (zi (w = 6) (f 31, f, r) (fdg (-1000001) f r)))))))
noncomputable def ac_write (f : zf) (r : zg) (s i v : Int32) : zO := zi (0 ≤ s ∧ s ≤ 3) (zi (r 28 (tn s) = 0) (fdg (-1000006) f r) (zi (0 ≤ i ∧ i ≤ r 29 (tn s) - 1) (r 30 (12 * tn s + tn i), f, u2 r 30 (12 * tn s + tn i) (v <<< ((32 - r 28 (tn s)) &&& 31) >>> ((32 - r 28 (tn s)) &&& 31))) (fdg (-1000001) f r))) (fdg (-1000001) f r)
theorem c_X11_corner {E : zE} {T : zT} {N : zN} {P : zP} {I : zI} {R : zR} (m : Nat) (ad : Nat → Nat) (x y : Int32) (hM : MOK T P m ad) (h0 : Nt (N 11 0 m) 9) : zC E yX11_corner cX11_corner 3 (some .int) (zr0 1 22) [.ref m, .int x, .int y] T N P I R (mQ m ad T N P I R (ac_corner (mf N m) (mr I ad) x y)) := by
  refine zC.intro (ls := [some (.ref m), some (.int x), some (.int y)]) pl_RX11 (zle rfl) 0 rfl (fun K => ?_)
  refine v_iload_1 dX11_corner_0 rfl ?_
  refine v_iconst (v := 0) dX11_corner_1 rfl rfl ?_
  refine v_bipush (v := 99) dX11_corner_2 rfl rfl ?_
  refine v_callS (c_X11_within _ _ _) yy_X11_within st_X11_within lk_11_121 (zle rfl) (zle rfl) (zle rfl) (zle rfl) rfl rfl (zle rfl) dX11_corner_4 rfl (zp.use ?_)
  refine v_ifz_eq (tgt := 20) dX11_corner_7 (by decide) rfl (fun c7 => ?_) (fun c7 => ?_)
  · refine v_aload_0 dX11_corner_20 rfl ?_
    refine v_ldc dX11_corner_21 kc_11_131 rfl ?_
    refine v_callV (ci := 11) (F := TX11) (c_X11_finding _ _ (MOK.t hM)) yy_X11_finding im_X11_finding se_X11_finding lk_11_132 (MOK.t hM) (zle rfl) rfl (zle rfl) (zle rfl) (zle rfl) (zle rfl) rfl rfl (zle rfl) dX11_corner_23 rfl (zp.use ?_)
    exact v_ireturn rfl (mQ_fd hM (zi_f (fun h => c7 h.1))) (zle rfl) (zle rfl) dX11_corner_26
  · refine v_iload_2 dX11_corner_10 rfl ?_
    refine v_iconst (v := 0) dX11_corner_11 rfl rfl ?_
    refine v_bipush (v := 99) dX11_corner_12 rfl rfl ?_
    refine v_callS (c_X11_within _ _ _) yy_X11_within st_X11_within lk_11_121 (zle rfl) (zle rfl) (zle rfl) (zle rfl) rfl rfl (zle rfl) dX11_corner_14 rfl (zp.use ?_)
    refine v_ifz_ne (tgt := 27) dX11_corner_17 (by decide) rfl (fun c17 => ?_) (fun c17 => ?_)
    · refine v_aload_0 dX11_corner_27 rfl ?_
      refine v_getN fl_11_118 (MOK.t hM) rfl (zle rfl) rfl dX11_corner_28 rfl ?_
      refine v_bipush (v := 8) dX11_corner_31 rfl rfl ?_
      refine v_icmp_ne (tgt := 43) dX11_corner_33 (by decide) rfl (fun c33 => ?_) (fun c33 => ?_)
      · refine v_aload_0 dX11_corner_43 rfl ?_
        refine v_getP fl_11_9 (mp_1 hM) (MOK.t hM) rfl (zle rfl) rfl dX11_corner_44 rfl ?_
        refine v_aload_0 dX11_corner_47 rfl ?_
        refine v_getN fl_11_118 (MOK.t hM) rfl (zle rfl) rfl dX11_corner_48 rfl ?_
        refine v_iload_1 dX11_corner_51 rfl ?_
        refine v_iast (j := tn (N 11 0 m)) (ma_1 hM) h0.1 (h0.lt (zle rfl) c33) (zle rfl) dX11_corner_52 rfl ?_
        refine v_aload_0 dX11_corner_53 rfl ?_
        refine v_getP fl_11_13 (mp_2 hM) (MOK.t hM) rfl (zle rfl) rfl dX11_corner_54 rfl ?_
        refine v_aload_0 dX11_corner_57 rfl ?_
        refine v_getN fl_11_118 (MOK.t hM) rfl (zle rfl) rfl dX11_corner_58 rfl ?_
        refine v_iload_2 dX11_corner_61 rfl ?_
        refine v_iast (j := tn (N 11 0 m)) (ma_2 hM) h0.1 (h0.lt (zle rfl) c33) (zle rfl) dX11_corner_62 rfl ?_
        refine v_aload_0 dX11_corner_63 rfl ?_
        refine v_dup dX11_corner_64 rfl rfl ?_
        refine v_getN fl_11_118 (MOK.t hM) rfl (zle rfl) rfl dX11_corner_65 rfl ?_
        refine v_iconst (v := 1) dX11_corner_68 rfl rfl ?_
        refine v_iadd dX11_corner_69 rfl ?_
        refine v_putN fw_11_118 (MOK.t hM) rfl (zle rfl) rfl (fun h => by cases h) rfl rfl dX11_corner_70 rfl ?_
        refine v_aload_0 dX11_corner_73 rfl ?_
        refine v_getN fl_11_118 (MOK.t hM) rfl (zle rfl) rfl dX11_corner_74 rfl ?_
        rw [u3_self]
        refine v_iconst (v := 1) dX11_corner_77 rfl rfl ?_
        refine v_isub dX11_corner_78 rfl ?_
        exact v_ireturn rfl (mQ_go hM ((zi_t ⟨c7, c17⟩).trans (zi_f c33)) (i_ps _) (mf_set (by decide)) (by rw [mr_set hM (by decide) rfl, mr_set hM (by decide) rfl] <;> rfl) (Mfr.n (Mfr.i (Mfr.i Mfr.rf (by decide) rfl _ _) (by decide) rfl _ _) _ _ _)) (zle rfl) (zle rfl) dX11_corner_79
      · refine v_aload_0 dX11_corner_36 rfl ?_
        refine v_ldc dX11_corner_37 kc_11_136 rfl ?_
        refine v_callV (ci := 11) (F := TX11) (c_X11_finding _ _ (MOK.t hM)) yy_X11_finding im_X11_finding se_X11_finding lk_11_132 (MOK.t hM) (zle rfl) rfl (zle rfl) (zle rfl) (zle rfl) (zle rfl) rfl rfl (zle rfl) dX11_corner_39 rfl (zp.use ?_)
        exact v_ireturn rfl (mQ_fd hM ((zi_t ⟨c7, c17⟩).trans (zi_t c33))) (zle rfl) (zle rfl) dX11_corner_42
    · refine v_aload_0 dX11_corner_20 rfl ?_
      refine v_ldc dX11_corner_21 kc_11_131 rfl ?_
      refine v_callV (ci := 11) (F := TX11) (c_X11_finding _ _ (MOK.t hM)) yy_X11_finding im_X11_finding se_X11_finding lk_11_132 (MOK.t hM) (zle rfl) rfl (zle rfl) (zle rfl) (zle rfl) (zle rfl) rfl rfl (zle rfl) dX11_corner_23 rfl (zp.use ?_)
      exact v_ireturn rfl (mQ_fd hM (zi_f (fun h => c17 h.2))) (zle rfl) (zle rfl) dX11_corner_26
theorem c_X11_way {E : zE} {T : zT} {N : zN} {P : zP} {I : zI} {R : zR} (m : Nat) (ad : Nat → Nat) (a b l : Int32) (s : Prop) (hM : MOK T P m ad) (h3 : Nt (N 11 3 m) 15) : zC E yX11_way cX11_way 5 (some .int) (zr0 2 43) [.ref m, .int a, .int b, .int l, .int (zb s)] T N P I R (mQ m ad T N P I R (ac_way (mf N m) (mr I ad) a b l s)) := by
  refine zC.intro (ls := [some (.ref m), some (.int a), some (.int b), some (.int l), some (.int (zb s))]) pl_RX11 (zle rfl) 0 rfl (fun K => ?_)
  refine v_aload_0 dX11_way_0 rfl ?_
  refine v_iload_1 dX11_way_1 rfl ?_
  refine v_callV (ci := 11) (F := TX11) (c_X11_isCorner _ _ (MOK.t hM)) yy_X11_isCorner im_X11_isCorner se_X11_isCorner lk_11_137 (MOK.t hM) (zle rfl) rfl (zle rfl) (zle rfl) (zle rfl) (zle rfl) rfl rfl (zle rfl) dX11_way_2 rfl (zp.use ?_)
  refine v_ifz_eq (tgt := 31) dX11_way_5 (by decide) rfl (fun c5 => ?_) (fun c5 => ?_)
  · refine v_aload_0 dX11_way_31 rfl ?_
    refine v_ldc dX11_way_32 kc_11_131 rfl ?_
    refine v_callV (ci := 11) (F := TX11) (c_X11_finding _ _ (MOK.t hM)) yy_X11_finding im_X11_finding se_X11_finding lk_11_132 (MOK.t hM) (zle rfl) rfl (zle rfl) (zle rfl) (zle rfl) (zle rfl) rfl rfl (zle rfl) dX11_way_34 rfl (zp.use ?_)
    exact v_ireturn rfl (mQ_fd hM (zi_f (fun h => c5 h.1))) (zle rfl) (zle rfl) dX11_way_37
  · refine v_aload_0 dX11_way_8 rfl ?_
    refine v_iload_2 dX11_way_9 rfl ?_
    refine v_callV (ci := 11) (F := TX11) (c_X11_isCorner _ _ (MOK.t hM)) yy_X11_isCorner im_X11_isCorner se_X11_isCorner lk_11_137 (MOK.t hM) (zle rfl) rfl (zle rfl) (zle rfl) (zle rfl) (zle rfl) rfl rfl (zle rfl) dX11_way_10 rfl (zp.use ?_)
    refine v_ifz_eq (tgt := 31) dX11_way_13 (by decide) rfl (fun c13 => ?_) (fun c13 => ?_)
    · refine v_aload_0 dX11_way_31 rfl ?_
      refine v_ldc dX11_way_32 kc_11_131 rfl ?_
      refine v_callV (ci := 11) (F := TX11) (c_X11_finding _ _ (MOK.t hM)) yy_X11_finding im_X11_finding se_X11_finding lk_11_132 (MOK.t hM) (zle rfl) rfl (zle rfl) (zle rfl) (zle rfl) (zle rfl) rfl rfl (zle rfl) dX11_way_34 rfl (zp.use ?_)
      exact v_ireturn rfl (mQ_fd hM (zi_f (fun h => c13 h.2.1))) (zle rfl) (zle rfl) dX11_way_37
    · refine v_iload_1 dX11_way_16 rfl ?_
      refine v_iload_2 dX11_way_17 rfl ?_
      refine v_icmp_eq (tgt := 31) dX11_way_18 (by decide) rfl (fun c18 => ?_) (fun c18 => ?_)
      · refine v_aload_0 dX11_way_31 rfl ?_
        refine v_ldc dX11_way_32 kc_11_131 rfl ?_
        refine v_callV (ci := 11) (F := TX11) (c_X11_finding _ _ (MOK.t hM)) yy_X11_finding im_X11_finding se_X11_finding lk_11_132 (MOK.t hM) (zle rfl) rfl (zle rfl) (zle rfl) (zle rfl) (zle rfl) rfl rfl (zle rfl) dX11_way_34 rfl (zp.use ?_)
        exact v_ireturn rfl (mQ_fd hM (zi_f (fun h => h.2.2.1 c18))) (zle rfl) (zle rfl) dX11_way_37
      · refine v_iload_3 dX11_way_21 rfl ?_
        refine v_iconst (v := 1) dX11_way_22 rfl rfl ?_
        refine v_bipush (v := 20) dX11_way_23 rfl rfl ?_
        refine v_callS (c_X11_within _ _ _) yy_X11_within st_X11_within lk_11_121 (zle rfl) (zle rfl) (zle rfl) (zle rfl) rfl rfl (zle rfl) dX11_way_25 rfl (zp.use ?_)
        refine v_ifz_ne (tgt := 38) dX11_way_28 (by decide) rfl (fun c28 => ?_) (fun c28 => ?_)
        · refine v_aload_0 dX11_way_38 rfl ?_
          refine v_getN fl_11_125 (MOK.t hM) rfl (zle rfl) rfl dX11_way_39 rfl ?_
          refine v_bipush (v := 14) dX11_way_42 rfl rfl ?_
          refine v_icmp_ne (tgt := 54) dX11_way_44 (by decide) rfl (fun c44 => ?_) (fun c44 => ?_)
          · refine v_aload_0 dX11_way_54 rfl ?_
            refine v_getP fl_11_16 (mp_4 hM) (MOK.t hM) rfl (zle rfl) rfl dX11_way_55 rfl ?_
            refine v_aload_0 dX11_way_58 rfl ?_
            refine v_getN fl_11_125 (MOK.t hM) rfl (zle rfl) rfl dX11_way_59 rfl ?_
            refine v_iload_1 dX11_way_62 rfl ?_
            refine v_iast (j := tn (N 11 3 m)) (ma_4 hM) h3.1 (h3.lt (zle rfl) c44) (zle rfl) dX11_way_63 rfl ?_
            refine v_aload_0 dX11_way_64 rfl ?_
            refine v_getP fl_11_19 (mp_5 hM) (MOK.t hM) rfl (zle rfl) rfl dX11_way_65 rfl ?_
            refine v_aload_0 dX11_way_68 rfl ?_
            refine v_getN fl_11_125 (MOK.t hM) rfl (zle rfl) rfl dX11_way_69 rfl ?_
            refine v_iload_2 dX11_way_72 rfl ?_
            refine v_iast (j := tn (N 11 3 m)) (ma_5 hM) h3.1 (h3.lt (zle rfl) c44) (zle rfl) dX11_way_73 rfl ?_
            refine v_aload_0 dX11_way_74 rfl ?_
            refine v_getP fl_11_22 (mp_6 hM) (MOK.t hM) rfl (zle rfl) rfl dX11_way_75 rfl ?_
            refine v_aload_0 dX11_way_78 rfl ?_
            refine v_getN fl_11_125 (MOK.t hM) rfl (zle rfl) rfl dX11_way_79 rfl ?_
            refine v_iload_3 dX11_way_82 rfl ?_
            refine v_iast (j := tn (N 11 3 m)) (ma_6 hM) h3.1 (h3.lt (zle rfl) c44) (zle rfl) dX11_way_83 rfl ?_
            refine v_aload_0 dX11_way_84 rfl ?_
            refine v_getP fl_11_25 (mp_7 hM) (MOK.t hM) rfl (zle rfl) rfl dX11_way_85 rfl ?_
            refine v_aload_0 dX11_way_88 rfl ?_
            refine v_getN fl_11_125 (MOK.t hM) rfl (zle rfl) rfl dX11_way_89 rfl ?_
            refine v_iload_4 dX11_way_92 rfl ?_
            refine v_zast (j := tn (N 11 3 m)) (ma_7 hM) h3.1 (h3.lt (zle rfl) c44) (zle rfl) (zb_vp _) dX11_way_94 rfl ?_
            refine v_aload_0 dX11_way_95 rfl ?_
            refine v_dup dX11_way_96 rfl rfl ?_
            refine v_getN fl_11_125 (MOK.t hM) rfl (zle rfl) rfl dX11_way_97 rfl ?_
            refine v_iconst (v := 1) dX11_way_100 rfl rfl ?_
            refine v_iadd dX11_way_101 rfl ?_
            refine v_putN fw_11_125 (MOK.t hM) rfl (zle rfl) rfl (fun h => by cases h) rfl rfl dX11_way_102 rfl ?_
            refine v_aload_0 dX11_way_105 rfl ?_
            refine v_getN fl_11_125 (MOK.t hM) rfl (zle rfl) rfl dX11_way_106 rfl ?_
            rw [u3_self]
            refine v_iconst (v := 1) dX11_way_109 rfl rfl ?_
            refine v_isub dX11_way_110 rfl ?_
            exact v_ireturn rfl (mQ_go hM ((zi_t ⟨c5, c13, c18, c28⟩).trans (zi_f c44)) (i_ps _) (mf_set (by decide)) (by rw [mr_set hM (by decide) rfl, mr_set hM (by decide) rfl, mr_set hM (by decide) rfl, mr_set hM (by decide) rfl] <;> rfl) (Mfr.n (Mfr.i (Mfr.i (Mfr.i (Mfr.i Mfr.rf (by decide) rfl _ _) (by decide) rfl _ _) (by decide) rfl _ _) (by decide) rfl _ _) _ _ _)) (zle rfl) (zle rfl) dX11_way_111
          · refine v_aload_0 dX11_way_47 rfl ?_
            refine v_ldc dX11_way_48 kc_11_136 rfl ?_
            refine v_callV (ci := 11) (F := TX11) (c_X11_finding _ _ (MOK.t hM)) yy_X11_finding im_X11_finding se_X11_finding lk_11_132 (MOK.t hM) (zle rfl) rfl (zle rfl) (zle rfl) (zle rfl) (zle rfl) rfl rfl (zle rfl) dX11_way_50 rfl (zp.use ?_)
            exact v_ireturn rfl (mQ_fd hM ((zi_t ⟨c5, c13, c18, c28⟩).trans (zi_t c44))) (zle rfl) (zle rfl) dX11_way_53
        · refine v_aload_0 dX11_way_31 rfl ?_
          refine v_ldc dX11_way_32 kc_11_131 rfl ?_
          refine v_callV (ci := 11) (F := TX11) (c_X11_finding _ _ (MOK.t hM)) yy_X11_finding im_X11_finding se_X11_finding lk_11_132 (MOK.t hM) (zle rfl) rfl (zle rfl) (zle rfl) (zle rfl) (zle rfl) rfl rfl (zle rfl) dX11_way_34 rfl (zp.use ?_)
          exact v_ireturn rfl (mQ_fd hM (zi_f (fun h => c28 h.2.2.2))) (zle rfl) (zle rfl) dX11_way_37
theorem c_X11_shut {E : zE} {T : zT} {N : zN} {P : zP} {I : zI} {R : zR} (m : Nat) (ad : Nat → Nat) (w d : Int32) (hM : MOK T P m ad) (h3w : 0 ≤ w ∧ w ≤ N 11 3 m - 1 → Nt w (tn (N 11 3 m))) (h3 : tn (N 11 3 m) ≤ 14) : zC E yX11_shut cX11_shut 4 (some .int) (zr0 2 43) [.ref m, .int w, .int d] T N P I R (mQ m ad T N P I R (ac_shut (mf N m) (mr I ad) w d)) := by
  refine zC.intro (ls := [some (.ref m), some (.int w), some (.int d), none]) pl_RX11 (zle rfl) 1 rfl (fun K => ?_)
  refine v_aload_0 dX11_shut_0 rfl ?_
  refine v_iload_1 dX11_shut_1 rfl ?_
  refine v_callV (ci := 11) (F := TX11) (c_X11_isWay _ _ (MOK.t hM)) yy_X11_isWay im_X11_isWay se_X11_isWay lk_11_141 (MOK.t hM) (zle rfl) rfl (zle rfl) (zle rfl) (zle rfl) (zle rfl) rfl rfl (zle rfl) dX11_shut_2 rfl (zp.use ?_)
  refine v_ifz_eq (tgt := 18) dX11_shut_5 (by decide) rfl (fun c5 => ?_) (fun c5 => ?_)
  · refine v_aload_0 dX11_shut_18 rfl ?_
    refine v_ldc dX11_shut_19 kc_11_131 rfl ?_
    refine v_callV (ci := 11) (F := TX11) (c_X11_finding _ _ (MOK.t hM)) yy_X11_finding im_X11_finding se_X11_finding lk_11_132 (MOK.t hM) (zle rfl) rfl (zle rfl) (zle rfl) (zle rfl) (zle rfl) rfl rfl (zle rfl) dX11_shut_21 rfl (zp.use ?_)
    exact v_ireturn rfl (mQ_fd hM (zi_f (fun h => c5 h.1))) (zle rfl) (zle rfl) dX11_shut_24
  · refine v_iload_2 dX11_shut_8 rfl ?_
    refine v_iconst (v := 0) dX11_shut_9 rfl rfl ?_
    refine v_bipush (v := 127) dX11_shut_10 rfl rfl ?_
    refine v_callS (c_X11_within _ _ _) yy_X11_within st_X11_within lk_11_121 (zle rfl) (zle rfl) (zle rfl) (zle rfl) rfl rfl (zle rfl) dX11_shut_12 rfl (zp.use ?_)
    refine v_ifz_ne (tgt := 25) dX11_shut_15 (by decide) rfl (fun c15 => ?_) (fun c15 => ?_)
    · refine v_aload_0 dX11_shut_25 rfl ?_
      refine v_getP fl_11_29 (mp_8 hM) (MOK.t hM) rfl (zle rfl) rfl dX11_shut_26 rfl ?_
      refine v_iload_1 dX11_shut_29 rfl ?_
      refine v_iald (j := tn w) (ma_8 hM) (h3w c5).1 (Nat.lt_of_lt_of_le (h3w c5).2 h3) (zle rfl) dX11_shut_30 rfl ?_
      refine v_istore_3 dX11_shut_31 rfl (zle rfl) rfl ?_
      refine v_aload_0 dX11_shut_32 rfl ?_
      refine v_getP fl_11_29 (mp_8 hM) (MOK.t hM) rfl (zle rfl) rfl dX11_shut_33 rfl ?_
      refine v_iload_1 dX11_shut_36 rfl ?_
      refine v_iload_2 dX11_shut_37 rfl ?_
      refine v_iast (j := tn w) (ma_8 hM) (h3w c5).1 (Nat.lt_of_lt_of_le (h3w c5).2 h3) (zle rfl) dX11_shut_38 rfl ?_
      refine v_iload_3 dX11_shut_39 rfl ?_
      exact v_ireturn rfl (mQ_go hM (zi_t ⟨c5, c15⟩) rfl rfl (by rw [mr_set hM (by decide) rfl] <;> rfl) (Mfr.i Mfr.rf (by decide) rfl _ _)) (zle rfl) (zle rfl) dX11_shut_40
    · refine v_aload_0 dX11_shut_18 rfl ?_
      refine v_ldc dX11_shut_19 kc_11_131 rfl ?_
      refine v_callV (ci := 11) (F := TX11) (c_X11_finding _ _ (MOK.t hM)) yy_X11_finding im_X11_finding se_X11_finding lk_11_132 (MOK.t hM) (zle rfl) rfl (zle rfl) (zle rfl) (zle rfl) (zle rfl) rfl rfl (zle rfl) dX11_shut_21 rfl (zp.use ?_)
      exact v_ireturn rfl (mQ_fd hM (zi_f (fun h => c15 h.2))) (zle rfl) (zle rfl) dX11_shut_24
theorem c_X11_told {E : zE} {T : zT} {N : zN} {P : zP} {I : zI} {R : zR} (m : Nat) (ad : Nat → Nat) (w : Int32) (hM : MOK T P m ad) : zC E yX11_told cX11_told 2 (some .int) (zr0 1 21) [.ref m, .int w] T N P I R (mQ m ad T N P I R (ac_told (mf N m) (mr I ad) w)) := by
  refine zC.intro (ls := [some (.ref m), some (.int w)]) pl_RX11 (zle rfl) 0 rfl (fun K => ?_)
  refine v_iload_1 dX11_told_0 rfl ?_
  by_cases s1_0 : w = 0
  · refine v_tableIn (off := 43) (n := 44) dX11_told_1 (by rw [s1_0]; decide) (by rw [s1_0]; decide) (by rw [s1_0]; rfl) (by decide) ?_
    refine v_aload_0 dX11_told_44 rfl ?_
    refine v_getN fl_11_118 (MOK.t hM) rfl (zle rfl) rfl dX11_told_45 rfl ?_
    exact v_ireturn rfl (mQ_rd hM (zi_t s1_0)) (zle rfl) (zle rfl) dX11_told_48
  by_cases s1_1 : w = 1
  · refine v_tableIn (off := 48) (n := 49) dX11_told_1 (by rw [s1_1]; decide) (by rw [s1_1]; decide) (by rw [s1_1]; rfl) (by decide) ?_
    refine v_aload_0 dX11_told_49 rfl ?_
    refine v_getN fl_11_125 (MOK.t hM) rfl (zle rfl) rfl dX11_told_50 rfl ?_
    exact v_ireturn rfl (mQ_rd hM ((zi_f s1_0).trans (zi_t s1_1))) (zle rfl) (zle rfl) dX11_told_53
  by_cases s1_2 : w = 2
  · refine v_tableIn (off := 53) (n := 54) dX11_told_1 (by rw [s1_2]; decide) (by rw [s1_2]; decide) (by rw [s1_2]; rfl) (by decide) ?_
    refine v_aload_0 dX11_told_54 rfl ?_
    refine v_getN fl_11_184 (MOK.t hM) rfl (zle rfl) rfl dX11_told_55 rfl ?_
    exact v_ireturn rfl (mQ_rd hM (((zi_f s1_0).trans (zi_f s1_1)).trans (zi_t s1_2))) (zle rfl) (zle rfl) dX11_told_58
  by_cases s1_3 : w = 3
  · refine v_tableIn (off := 58) (n := 59) dX11_told_1 (by rw [s1_3]; decide) (by rw [s1_3]; decide) (by rw [s1_3]; rfl) (by decide) ?_
    refine v_aload_0 dX11_told_59 rfl ?_
    refine v_getN fl_11_128 (MOK.t hM) rfl (zle rfl) rfl dX11_told_60 rfl ?_
    exact v_ireturn rfl (mQ_rd hM ((((zi_f s1_0).trans (zi_f s1_1)).trans (zi_f s1_2)).trans (zi_t s1_3))) (zle rfl) (zle rfl) dX11_told_63
  by_cases s1_4 : w = 4
  · refine v_tableIn (off := 63) (n := 64) dX11_told_1 (by rw [s1_4]; decide) (by rw [s1_4]; decide) (by rw [s1_4]; rfl) (by decide) ?_
    refine v_aload_0 dX11_told_64 rfl ?_
    refine v_getN fl_11_245 (MOK.t hM) rfl (zle rfl) rfl dX11_told_65 rfl ?_
    exact v_ireturn rfl (mQ_rd hM (((((zi_f s1_0).trans (zi_f s1_1)).trans (zi_f s1_2)).trans (zi_f s1_3)).trans (zi_t s1_4))) (zle rfl) (zle rfl) dX11_told_68
  by_cases s1_5 : w = 5
  · refine v_tableIn (off := 68) (n := 69) dX11_told_1 (by rw [s1_5]; decide) (by rw [s1_5]; decide) (by rw [s1_5]; rfl) (by decide) ?_
    refine v_aload_0 dX11_told_69 rfl ?_
    refine v_getN fl_11_159 (MOK.t hM) rfl (zle rfl) rfl dX11_told_70 rfl ?_
    exact v_ireturn rfl (mQ_rd hM ((((((zi_f s1_0).trans (zi_f s1_1)).trans (zi_f s1_2)).trans (zi_f s1_3)).trans (zi_f s1_4)).trans (zi_t s1_5))) (zle rfl) (zle rfl) dX11_told_73
  by_cases s1_6 : w = 6
  · refine v_tableIn (off := 73) (n := 74) dX11_told_1 (by rw [s1_6]; decide) (by rw [s1_6]; decide) (by rw [s1_6]; rfl) (by decide) ?_
    refine v_aload_0 dX11_told_74 rfl ?_
    refine v_getN fl_11_114 (MOK.t hM) rfl (zle rfl) rfl dX11_told_75 rfl ?_
    exact v_ireturn rfl (mQ_rd hM (((((((zi_f s1_0).trans (zi_f s1_1)).trans (zi_f s1_2)).trans (zi_f s1_3)).trans (zi_f s1_4)).trans (zi_f s1_5)).trans (zi_t s1_6))) (zle rfl) (zle rfl) dX11_told_78
  refine v_tableOut (n := 79) dX11_told_1 (tb_out (k := 6) (fun j hj => by rcases (show j = 0 ∨ j = 1 ∨ j = 2 ∨ j = 3 ∨ j = 4 ∨ j = 5 ∨ j = 6 by omega) with rfl | rfl | rfl | rfl | rfl | rfl | rfl <;> first | exact s1_0 | exact s1_1 | exact s1_2 | exact s1_3 | exact s1_4 | exact s1_5 | exact s1_6)) (by decide) ?_
  refine v_aload_0 dX11_told_79 rfl ?_
  refine v_ldc dX11_told_80 kc_11_131 rfl ?_
  refine v_callV (ci := 11) (F := TX11) (c_X11_finding _ _ (MOK.t hM)) yy_X11_finding im_X11_finding se_X11_finding lk_11_132 (MOK.t hM) (zle rfl) rfl (zle rfl) (zle rfl) (zle rfl) (zle rfl) rfl rfl (zle rfl) dX11_told_82 rfl (zp.use ?_)
  exact v_ireturn rfl (mQ_fd hM (((((((zi_f s1_0).trans (zi_f s1_1)).trans (zi_f s1_2)).trans (zi_f s1_3)).trans (zi_f s1_4)).trans (zi_f s1_5)).trans (zi_f s1_6))) (zle rfl) (zle rfl) dX11_told_85
theorem c_X11_write {E : zE} {T : zT} {N : zN} {P : zP} {I : zI} {R : zR} (m : Nat) (ad : Nat → Nat) (s i v : Int32) (hM : MOK T P m ad) (hs : 0 ≤ s ∧ s ≤ 3 → s = nI (tn s) ∧ tn s < 4) (hx : 0 ≤ s ∧ s ≤ 3 → 0 ≤ i ∧ i ≤ I (ad 29) (tn s) - 1 → 12 * s + i = nI (12 * tn s + tn i) ∧ 12 * tn s + tn i < 48) : zC E yX11_write cX11_write 6 (some .int) (zr0 2 42) [.ref m, .int s, .int i, .int v] T N P I R (mQ m ad T N P I R (ac_write (mf N m) (mr I ad) s i v)) := by
  refine zC.intro (ls := [some (.ref m), some (.int s), some (.int i), some (.int v), none, none]) pl_RX11 (zle rfl) 2 rfl (fun K => ?_)
  refine v_iload_1 dX11_write_0 rfl ?_
  refine v_callS (c_X11_isSheet _) yy_X11_isSheet st_X11_isSheet lk_11_279 (zle rfl) (zle rfl) (zle rfl) (zle rfl) rfl rfl (zle rfl) dX11_write_1 rfl (zp.use ?_)
  refine v_ifz_ne (tgt := 14) dX11_write_4 (by decide) rfl (fun c4 => ?_) (fun c4 => ?_)
  · refine v_aload_0 dX11_write_14 rfl ?_
    refine v_getP fl_11_77 (mp_28 hM) (MOK.t hM) rfl (zle rfl) rfl dX11_write_15 rfl ?_
    refine v_iload_1 dX11_write_18 rfl ?_
    refine v_iald (j := tn s) (ma_28 hM) (hs c4).1 (hs c4).2 (zle rfl) dX11_write_19 rfl ?_
    refine v_if_ne (tgt := 31) dX11_write_20 (by decide) rfl (fun c20 => ?_) (fun c20 => ?_)
    · refine v_iload_2 dX11_write_31 rfl ?_
      refine v_iconst (v := 0) dX11_write_32 rfl rfl ?_
      refine v_aload_0 dX11_write_33 rfl ?_
      refine v_getP fl_11_80 (mp_29 hM) (MOK.t hM) rfl (zle rfl) rfl dX11_write_34 rfl ?_
      refine v_iload_1 dX11_write_37 rfl ?_
      refine v_iald (j := tn s) (ma_29 hM) (hs c4).1 (hs c4).2 (zle rfl) dX11_write_38 rfl ?_
      refine v_iconst (v := 1) dX11_write_39 rfl rfl ?_
      refine v_isub dX11_write_40 rfl ?_
      refine v_callS (c_X11_within _ _ _) yy_X11_within st_X11_within lk_11_121 (zle rfl) (zle rfl) (zle rfl) (zle rfl) rfl rfl (zle rfl) dX11_write_41 rfl (zp.use ?_)
      refine v_ifz_ne (tgt := 54) dX11_write_44 (by decide) rfl (fun c44 => ?_) (fun c44 => ?_)
      · refine v_aload_0 dX11_write_54 rfl ?_
        refine v_getP fl_11_83 (mp_30 hM) (MOK.t hM) rfl (zle rfl) rfl dX11_write_55 rfl ?_
        refine v_bipush (v := 12) dX11_write_58 rfl rfl ?_
        refine v_iload_1 dX11_write_60 rfl ?_
        refine v_imul dX11_write_61 rfl ?_
        refine v_iload_2 dX11_write_62 rfl ?_
        refine v_iadd dX11_write_63 rfl ?_
        refine v_iald (j := 12 * tn s + tn i) (ma_30 hM) (hx c4 c44).1 (hx c4 c44).2 (zle rfl) dX11_write_64 rfl ?_
        refine v_istore_4 dX11_write_65 rfl (zle rfl) rfl ?_
        refine v_bipush (v := 32) dX11_write_67 rfl rfl ?_
        refine v_aload_0 dX11_write_69 rfl ?_
        refine v_getP fl_11_77 (mp_28 hM) (MOK.t hM) rfl (zle rfl) rfl dX11_write_70 rfl ?_
        refine v_iload_1 dX11_write_73 rfl ?_
        refine v_iald (j := tn s) (ma_28 hM) (hs c4).1 (hs c4).2 (zle rfl) dX11_write_74 rfl ?_
        refine v_isub dX11_write_75 rfl ?_
        refine v_istore_5 dX11_write_76 rfl (zle rfl) rfl ?_
        refine v_aload_0 dX11_write_78 rfl ?_
        refine v_getP fl_11_83 (mp_30 hM) (MOK.t hM) rfl (zle rfl) rfl dX11_write_79 rfl ?_
        refine v_bipush (v := 12) dX11_write_82 rfl rfl ?_
        refine v_iload_1 dX11_write_84 rfl ?_
        refine v_imul dX11_write_85 rfl ?_
        refine v_iload_2 dX11_write_86 rfl ?_
        refine v_iadd dX11_write_87 rfl ?_
        refine v_iload_3 dX11_write_88 rfl ?_
        refine v_iload_5 dX11_write_89 rfl ?_
        refine v_ishl dX11_write_91 rfl ?_
        refine v_iload_5 dX11_write_92 rfl ?_
        refine v_ishr dX11_write_94 rfl ?_
        refine v_iast (j := 12 * tn s + tn i) (ma_30 hM) (hx c4 c44).1 (hx c4 c44).2 (zle rfl) dX11_write_95 rfl ?_
        refine v_iload_4 dX11_write_96 rfl ?_
        exact v_ireturn rfl (mQ_go hM (((zi_t c4).trans (zi_f c20)).trans (zi_t c44)) rfl rfl (by rw [mr_set hM (by decide) rfl] <;> rfl) (Mfr.i Mfr.rf (by decide) rfl _ _)) (zle rfl) (zle rfl) dX11_write_98
      · refine v_aload_0 dX11_write_47 rfl ?_
        refine v_ldc dX11_write_48 kc_11_131 rfl ?_
        refine v_callV (ci := 11) (F := TX11) (c_X11_finding _ _ (MOK.t hM)) yy_X11_finding im_X11_finding se_X11_finding lk_11_132 (MOK.t hM) (zle rfl) rfl (zle rfl) (zle rfl) (zle rfl) (zle rfl) rfl rfl (zle rfl) dX11_write_50 rfl (zp.use ?_)
        exact v_ireturn rfl (mQ_fd hM (((zi_t c4).trans (zi_f c20)).trans (zi_f c44))) (zle rfl) (zle rfl) dX11_write_53
    · refine v_aload_0 dX11_write_23 rfl ?_
      refine v_ldcw dX11_write_24 kc_11_283 rfl ?_
      refine v_callV (ci := 11) (F := TX11) (c_X11_finding _ _ (MOK.t hM)) yy_X11_finding im_X11_finding se_X11_finding lk_11_132 (MOK.t hM) (zle rfl) rfl (zle rfl) (zle rfl) (zle rfl) (zle rfl) rfl rfl (zle rfl) dX11_write_27 rfl (zp.use ?_)
      exact v_ireturn rfl (mQ_fd hM ((zi_t c4).trans (zi_t c20))) (zle rfl) (zle rfl) dX11_write_30
  · refine v_aload_0 dX11_write_7 rfl ?_
    refine v_ldc dX11_write_8 kc_11_131 rfl ?_
    refine v_callV (ci := 11) (F := TX11) (c_X11_finding _ _ (MOK.t hM)) yy_X11_finding im_X11_finding se_X11_finding lk_11_132 (MOK.t hM) (zle rfl) rfl (zle rfl) (zle rfl) (zle rfl) (zle rfl) rfl rfl (zle rfl) dX11_write_10 rfl (zp.use ?_)
    exact v_ireturn rfl (mQ_fd hM (zi_f c4)) (zle rfl) (zle rfl) dX11_write_13
end
section
/-! how the class's cells hold the common state. b: the book of addresses; g: the rows of the search have 2^g sets -/
def RX (T : zT) (N : zN) (P : zP) (x : Nat) (b : Nat → Nat → Nat) (f : zf) : Prop := (T x).1 = 20 ∧ P 10 0 x = some (b 0 0) ∧ P 10 1 x = some (b 0 1) ∧ P 10 2 x = some (b 0 2) ∧ P 10 3 x = some (b 0 3) ∧ P 10 4 x = some (b 0 4) ∧ P 10 5 x = some (b 0 5) ∧ T (b 0 2) = (30, 4) ∧ T (b 0 3) = (38, 6) ∧ T (b 0 4) = (35, 4) ∧ N 10 6 x = f 9 ∧ N 10 7 x = f 18 ∧ N 10 8 x = f 27 ∧ N 10 9 x = f 31
def RTw (T : zT) (N : zN) (R : zR) (b : Nat → Nat → Nat) (r : zg) (j : Nat) : Prop := R (b 0 8) j = some (b 2 j) ∧ (T (b 2 j)).1 = 19 ∧ N 9 0 (b 2 j) = r 4 j ∧ N 9 1 (b 2 j) = r 5 j ∧ N 9 2 (b 2 j) = r 6 j ∧ N 9 3 (b 2 j) = r 7 j ∧ N 9 4 (b 2 j) = r 8 j
def RT (T : zT) (N : zN) (P : zP) (I : zI) (R : zR) (b : Nat → Nat → Nat) (f : zf) (r : zg) : Prop := (T (b 0 0)).1 = 17 ∧ P 7 0 (b 0 0) = some (b 1 0) ∧ P 7 1 (b 0 0) = some (b 1 1) ∧ P 7 2 (b 0 0) = some (b 0 8) ∧ T (b 0 8) = (39, 14) ∧ N 7 3 (b 0 0) = f 0 ∧ N 7 4 (b 0 0) = f 3 ∧ (∀ j, j < tn (f 0) → I (b 1 0) j = r 1 j ∧ I (b 1 1) j = r 2 j) ∧ (∀ j, j < tn (f 3) → RTw T N R b r j) ∧ ∀ i j, i < tn (f 3) → j < tn (f 3) → b 2 i = b 2 j → i = j
/-- which of the class's rows of ints are there: 0 xs, 1 ys, 2 distances, 3 reached, 4 times, 5 steps, 6 neighbours, 7 + s a sheet's -/
def lvr (r : zg) (i : Nat) : Prop := i < 7 ∨ (i < 11 ∧ ¬ r 28 (i - 7) = 0)
def lnr (g : Nat) (r : zg) : Nat → Nat
  | 0 => 8
  | 1 => 8
  | 2 => 8
  | 3 => 2 ^ g
  | 4 => 2 ^ g * 8
  | 5 => 64
  | 6 => 8
  | i => tn (r 29 (i - 7))
def RA (T : zT) (Mn : Nat → Prop) (b : Nat → Nat → Nat) (g : Nat) (r : zg) : Prop := g ≤ 12 ∧ (∀ i, lvr r i → T (b 1 i) = (1, lnr g r i) ∧ ¬ Mn (b 1 i)) ∧ ∀ i j, lvr r i → lvr r j → b 1 i = b 1 j → i = j
def RP (T : zT) (N : zN) (P : zP) (I : zI) (b : Nat → Nat → Nat) (f : zf) (r : zg) : Prop := (T (b 0 1)).1 = 16 ∧ P 6 0 (b 0 1) = some (b 0 7) ∧ T (b 0 7) = (3, 200) ∧ N 6 1 (b 0 1) = f 17 ∧ ∀ j, j < tn (f 17) → I (b 0 7) j &&& 255 = r 16 j
/-- a piece's cell; an edition's: pa its row, pp its pieces; q: where its pieces stand in the rows -/
def REp (T : zT) (N : zN) (a : Nat) (r : zg) (i : Nat) : Prop := (T a).1 = 12 ∧ N 2 0 a = r 11 i ∧ N 2 1 a = r 12 i ∧ N 2 2 a = r 13 i ∧ N 2 3 a = r 14 i ∧ N 2 4 a = r 15 i
def REe (T : zT) (N : zN) (P : zP) (R : zR) (ea pa : Nat) (pp : Nat → Nat) (r : zg) (e : Nat) : Prop := (T ea).1 = 10 ∧ P 0 0 ea = some pa ∧ T pa = (32, 12) ∧ N 0 1 ea = r 10 e ∧ (∀ p, p < tn (r 10 e) → R pa p = some (pp p) ∧ REp T N (pp p) r (12 * e + p)) ∧ Nt (N 0 2 ea) 4096 ∧ ∀ p, p < 12 → ((tn (N 0 2 ea)).testBit p = true ↔ p < tn (r 10 e) ∧ r 11 (12 * e + p) = 3)
def RE (T : zT) (N : zN) (P : zP) (R : zR) (b : Nat → Nat → Nat) (f : zf) (r : zg) : Prop := ∀ e, e < tn (f 9) → R (b 0 2) e = some (b 3 e) ∧ REe T N P R (b 3 e) (b 4 e) (b (10 + e)) r e
def RWn (T : zT) (N : zN) (P : zP) (R : zR) (b : Nat → Nat → Nat) (r : zg) (n : Nat) : Prop := R (b 0 3) n = some (b 5 n) ∧ (T (b 5 n)).1 = 18 ∧ P 8 0 (b 5 n) = some (b 3 (tn (r 22 n))) ∧ N 8 1 (b 5 n) = r 22 n ∧ N 8 2 (b 5 n) = r 23 n ∧ N 8 3 (b 5 n) = r 19 n ∧ N 8 4 (b 5 n) = r 20 n ∧ N 8 5 (b 5 n) = r 21 n ∧ N 8 6 (b 5 n) = r 24 n ∧ N 8 8 (b 5 n) = r 26 n ∧ (¬ r 26 n = 0 → N 8 7 (b 5 n) = r 25 n)
def RW (T : zT) (N : zN) (P : zP) (R : zR) (b : Nat → Nat → Nat) (f : zf) (r : zg) : Prop := (∀ n, n < tn (f 18) → RWn T N P R b r n) ∧ ∀ i j, i < tn (f 18) → j < tn (f 18) → b 5 i = b 5 j → i = j
def RSs (T : zT) (N : zN) (P : zP) (I : zI) (R : zR) (b : Nat → Nat → Nat) (r : zg) (s : Nat) : Prop := (r 28 s = 0 → R (b 0 4) s = none) ∧ (¬ r 28 s = 0 → R (b 0 4) s = some (b 6 s) ∧ (T (b 6 s)).1 = 15 ∧ N 5 0 (b 6 s) = r 28 s ∧ P 5 1 (b 6 s) = some (b 1 (7 + s)) ∧ ∀ i, i < tn (r 29 s) → I (b 1 (7 + s)) i = r 30 (12 * s + i))
def RS (T : zT) (N : zN) (P : zP) (I : zI) (R : zR) (b : Nat → Nat → Nat) (r : zg) : Prop := ∀ s, s < 4 → RSs T N P I R b r s
def RQ (T : zT) (P : zP) (b : Nat → Nat → Nat) : Prop := (T (b 0 5)).1 = 14 ∧ P 4 0 (b 0 5) = some (b 0 6) ∧ (T (b 0 6)).1 = 11 ∧ P 1 0 (b 0 6) = some (b 1 5) ∧ P 1 1 (b 0 6) = some (b 1 6) ∧ P 4 1 (b 0 5) = some (b 1 2) ∧ P 4 2 (b 0 5) = some (b 1 3) ∧ P 4 3 (b 0 5) = some (b 1 4) ∧ ∃ e0, P 4 4 (b 0 5) = some e0 ∧ (T e0).1 = 10
def CR (T : zT) (N : zN) (P : zP) (I : zI) (R : zR) (x : Nat) (Mn : Nat → Prop) (b : Nat → Nat → Nat) (g : Nat) (f : zf) (r : zg) : Prop := RX T N P x b f ∧ RT T N P I R b f r ∧ RA T Mn b g r ∧ RP T N P I b f r ∧ RE T N P R b f r ∧ RW T N P R b f r ∧ RS T N P I R b r ∧ RQ T P b
/-- what the class's methods leave as it was of the reference's cells -/
def Cfr (Mn : Nat → Prop) (T : zT) (N : zN) (P : zP) (I : zI) (T' : zT) (N' : zN) (P' : zP) (I' : zI) : Prop := N' 11 = N 11 ∧ P' 11 = P 11 ∧ ∀ a, Mn a → I' a = I a ∧ T' a = T a
theorem Cfr.rf {Mn : Nat → Prop} {T : zT} {N : zN} {P : zP} {I : zI} : Cfr Mn T N P I T N P I := ⟨rfl, rfl, fun _ _ => ⟨rfl, rfl⟩⟩
theorem Cfr.tr {Mn : Nat → Prop} {T : zT} {N : zN} {P : zP} {I : zI} {T1 : zT} {N1 : zN} {P1 : zP} {I1 : zI} {T2 : zT} {N2 : zN} {P2 : zP} {I2 : zI} (h : Cfr Mn T N P I T1 N1 P1 I1) (g : Cfr Mn T1 N1 P1 I1 T2 N2 P2 I2) : Cfr Mn T N P I T2 N2 P2 I2 :=
  ⟨g.1.trans h.1, g.2.1.trans h.2.1, fun a ha => ⟨(g.2.2 a ha).1.trans (h.2.2 a ha).1, (g.2.2 a ha).2.trans (h.2.2 a ha).2⟩⟩
theorem Cfr.n {Mn : Nat → Prop} {T : zT} {N : zN} {P : zP} {I : zI} {T1 : zT} {N1 : zN} {P1 : zP} {I1 : zI} (h : Cfr Mn T N P I T1 N1 P1 I1) {c : Nat} (hc : ¬ 11 = c) (k a : Nat) (v : Int32) : Cfr Mn T N P I T1 (u3 N1 c k a v) P1 I1 :=
  ⟨by rw [← h.1]; funext j q; simp [u3, hc], h.2⟩
theorem Cfr.p {Mn : Nat → Prop} {T : zT} {N : zN} {P : zP} {I : zI} {T1 : zT} {N1 : zN} {P1 : zP} {I1 : zI} (h : Cfr Mn T N P I T1 N1 P1 I1) {c : Nat} (hc : ¬ 11 = c) (k a : Nat) (v : Option Nat) : Cfr Mn T N P I T1 N1 (u3 P1 c k a v) I1 :=
  ⟨h.1, by rw [← h.2.1]; funext j q; simp [u3, hc], h.2.2⟩
theorem Cfr.i {Mn : Nat → Prop} {T : zT} {N : zN} {P : zP} {I : zI} {T1 : zT} {N1 : zN} {P1 : zP} {I1 : zI} (h : Cfr Mn T N P I T1 N1 P1 I1) {a : Nat} (ha : ¬ Mn a) (j : Nat) (v : Int32) : Cfr Mn T N P I T1 N1 P1 (u2 I1 a j v) :=
  ⟨h.1, h.2.1, fun q hq => ⟨by rw [u2_off I1 v (show q ≠ a from fun e => ha (e ▸ hq))]; exact (h.2.2 q hq).1, (h.2.2 q hq).2⟩⟩
theorem Cfr.i1 {Mn : Nat → Prop} {T : zT} {N : zN} {P : zP} {I : zI} {T1 : zT} {N1 : zN} {P1 : zP} {I1 : zI} (h : Cfr Mn T N P I T1 N1 P1 I1) {a : Nat} (ha : ¬ Mn a) (w : Nat → Int32) : Cfr Mn T N P I T1 N1 P1 (u1 I1 a w) :=
  ⟨h.1, h.2.1, fun q hq => ⟨by rw [u1_na (show q ≠ a from fun e => ha (e ▸ hq))]; exact (h.2.2 q hq).1, (h.2.2 q hq).2⟩⟩
theorem Cfr.t {Mn : Nat → Prop} {T : zT} {N : zN} {P : zP} {I : zI} {T1 : zT} {N1 : zN} {P1 : zP} {I1 : zI} (h : Cfr Mn T N P I T1 N1 P1 I1) {a : Nat} (ha : ¬ Mn a) (w : Nat × Nat) : Cfr Mn T N P I (u1 T1 a w) N1 P1 I1 :=
  ⟨h.1, h.2.1, fun q hq => ⟨(h.2.2 q hq).1, by rw [u1_na (show q ≠ a from fun e => ha (e ▸ hq))]; exact (h.2.2 q hq).2⟩⟩
theorem Cfr.o {Mn : Nat → Prop} {T : zT} {N : zN} {P : zP} {I : zI} {T1 : zT} {N1 : zN} {P1 : zP} {I1 : zI} (h : Cfr Mn T N P I T1 N1 P1 I1) {c : Nat} (hc : ¬ 11 = c) (a : Nat) : Cfr Mn T N P I T1 (uo N1 c a 0) (uo P1 c a none) I1 :=
  ⟨by rw [← h.1]; funext j q; simp [uo, hc], by rw [← h.2.1]; funext j q; simp [uo, hc], h.2.2⟩
/-- the end of an act of the class -/
def cQ (x : Nat) (Mn : Nat → Prop) (T : zT) (N : zN) (P : zP) (I : zI) (R : zR) (o : zO) : Option Value → zT → zN → zP → zI → zR → Prop := fun v T' N' P' I' R' => v = some (.int o.1) ∧ (∃ (b' : Nat → Nat → Nat) (g' : Nat), CR T' N' P' I' R' x Mn b' g' o.2.1 o.2.2) ∧ Cfr Mn T N P I T' N' P' I'
theorem cQ_go {x : Nat} {Mn : Nat → Prop} {T : zT} {N : zN} {P : zP} {I : zI} {R : zR} {T' : zT} {N' : zN} {P' : zP} {I' : zI} {R' : zR} {o : zO} {v w : Int32} {f' : zf} {r' : zg} (b' : Nat → Nat → Nat) (g' : Nat) (ho : o = (w, f', r')) (hv : v = w) (hC : CR T' N' P' I' R' x Mn b' g' f' r') (hF : Cfr Mn T N P I T' N' P' I') : cQ x Mn T N P I R o (some (.int v)) T' N' P' I' R' := by
  subst ho; subst hv
  exact ⟨rfl, ⟨b', g', hC⟩, hF⟩
theorem cQ_fd {x : Nat} {Mn : Nat → Prop} {T : zT} {N : zN} {P : zP} {I : zI} {R : zR} {o : zO} {w : Int32} {b : Nat → Nat → Nat} {g : Nat} {f : zf} {r : zg} (h : CR T N P I R x Mn b g f r) (ho : o = fdg w f r) : cQ x Mn T N P I R o (some (.int w)) T (u3 N 10 9 x (N 10 9 x + 1)) P I R := by
  obtain ⟨⟨a1, a2, a3, a4, a5, a6, a7, a8, a9, a10, a11, a12, a13, a14⟩, h2, h3, h4, h5, h6, h7, h8⟩ := h
  refine cQ_go b g ho rfl ⟨⟨a1, a2, a3, a4, a5, a6, a7, a8, a9, a10, a11, a12, a13, ?_⟩, h2, h3, h4, h5, h6, h7, h8⟩ (Cfr.rf.n (by decide) _ _ _)
  rw [u3_self, a14, u1_self]
theorem cQ_rd {x : Nat} {Mn : Nat → Prop} {T : zT} {N : zN} {P : zP} {I : zI} {R : zR} {o : zO} {v w : Int32} {b : Nat → Nat → Nat} {g : Nat} {f : zf} {r : zg} (h : CR T N P I R x Mn b g f r) (ho : o = (w, f, r)) (hv : v = w) : cQ x Mn T N P I R o (some (.int v)) T N P I R := cQ_go b g ho hv h Cfr.rf
/-- growth: what was there stays -/
def Gr (T : zT) (N : zN) (P : zP) (I : zI) (R : zR) (T' : zT) (N' : zN) (P' : zP) (I' : zI) (R' : zR) : Prop := ∀ a, (T a).1 ≠ 0 → T' a = T a ∧ (∀ c k, N' c k a = N c k a) ∧ (∀ c k, P' c k a = P c k a) ∧ I' a = I a ∧ R' a = R a
theorem fr_ne {T : zT} {a q t : Nat} (hq : (T q).1 = 0) (h : (T a).1 = t) (ht : t ≠ 0) : a ≠ q := fun e => ht (by rw [← h, e, hq])
theorem CR.gr {T : zT} {N : zN} {P : zP} {I : zI} {R : zR} {T' : zT} {N' : zN} {P' : zP} {I' : zI} {R' : zR} {x : Nat} {Mn : Nat → Prop} {b : Nat → Nat → Nat} {g : Nat} {f : zf} {r : zg} (h : CR T N P I R x Mn b g f r) (hG : Gr T N P I R T' N' P' I' R') : CR T' N' P' I' R' x Mn b g f r := by
  have t1 : ∀ {a t : Nat}, (T a).1 = t → t ≠ 0 → (T' a).1 = t := fun e n => by rw [(hG _ (by rw [e]; exact n)).1]; exact e
  have t2 : ∀ {a t n : Nat}, T a = (t, n) → t ≠ 0 → T' a = (t, n) := fun e n => by rw [(hG _ (by rw [e]; exact n)).1]; exact e
  obtain ⟨⟨a1, a2, a3, a4, a5, a6, a7, a8, a9, a10, a11, a12, a13, a14⟩, ⟨b1, b2, b3, b4, b5, b6, b7, b8, b9, b10⟩, ⟨c1, c2, c3⟩, ⟨d1, d2, d3, d4, d5⟩, e1, ⟨w1, w2⟩, s1, ⟨q1, q2, q3, q4, q5, q6, q7, q8, e0, q9, q10⟩⟩ := h
  have n : ∀ {a t : Nat}, (T a).1 = t → t ≠ 0 → ∀ c k, N' c k a = N c k a := fun e n => (hG _ (by rw [e]; exact n)).2.1
  have p : ∀ {a t : Nat}, (T a).1 = t → t ≠ 0 → ∀ c k, P' c k a = P c k a := fun e n => (hG _ (by rw [e]; exact n)).2.2.1
  have i2 : ∀ {a t n : Nat}, T a = (t, n) → t ≠ 0 → I' a = I a := fun e n => (hG _ (by rw [e]; exact n)).2.2.2.1
  have r2 : ∀ {a t n : Nat}, T a = (t, n) → t ≠ 0 → R' a = R a := fun e n => (hG _ (by rw [e]; exact n)).2.2.2.2
  refine ⟨⟨t1 a1 (by decide), ?_, ?_, ?_, ?_, ?_, ?_, t2 a8 (by decide), t2 a9 (by decide), t2 a10 (by decide), ?_, ?_, ?_, ?_⟩, ⟨t1 b1 (by decide), ?_, ?_, ?_, t2 b5 (by decide), ?_, ?_, ?_, ?_, b10⟩, ⟨c1, fun i hi => ⟨t2 (c2 i hi).1 (by decide), (c2 i hi).2⟩, c3⟩, ⟨t1 d1 (by decide), ?_, t2 d3 (by decide), ?_, ?_⟩, ?_, ⟨?_, w2⟩, ?_, ⟨t1 q1 (by decide), ?_, t1 q3 (by decide), ?_, ?_, ?_, ?_, ?_, e0, ?_, t1 q10 (by decide)⟩⟩
  · rw [p a1 (by decide)]; exact a2
  · rw [p a1 (by decide)]; exact a3
  · rw [p a1 (by decide)]; exact a4
  · rw [p a1 (by decide)]; exact a5
  · rw [p a1 (by decide)]; exact a6
  · rw [p a1 (by decide)]; exact a7
  · rw [n a1 (by decide)]; exact a11
  · rw [n a1 (by decide)]; exact a12
  · rw [n a1 (by decide)]; exact a13
  · rw [n a1 (by decide)]; exact a14
  · rw [p b1 (by decide)]; exact b2
  · rw [p b1 (by decide)]; exact b3
  · rw [p b1 (by decide)]; exact b4
  · rw [n b1 (by decide)]; exact b6
  · rw [n b1 (by decide)]; exact b7
  · rw [i2 (c2 0 (Or.inl (by decide))).1 (by decide), i2 (c2 1 (Or.inl (by decide))).1 (by decide)]; exact b8
  · intro j hj
    obtain ⟨w1, w2, w3, w4, w5, w6, w7⟩ := b9 j hj
    exact ⟨by rw [r2 b5 (by decide)]; exact w1, t1 w2 (by decide), by rw [n w2 (by decide)]; exact w3, by rw [n w2 (by decide)]; exact w4, by rw [n w2 (by decide)]; exact w5, by rw [n w2 (by decide)]; exact w6, by rw [n w2 (by decide)]; exact w7⟩
  · rw [p d1 (by decide)]; exact d2
  · rw [n d1 (by decide)]; exact d4
  · rw [i2 d3 (by decide)]; exact d5
  · intro e he
    obtain ⟨f1, f2, f3, f4, f5, f6, f7, f8⟩ := e1 e he
    refine ⟨by rw [r2 a8 (by decide)]; exact f1, t1 f2 (by decide), by rw [p f2 (by decide)]; exact f3, t2 f4 (by decide), by rw [n f2 (by decide)]; exact f5, ?_, by rw [n f2 (by decide)]; exact f7, by rw [n f2 (by decide)]; exact f8⟩
    intro k hk
    obtain ⟨g1, g2, g3, g4, g5, g6, g7⟩ := f6 k hk
    exact ⟨by rw [r2 f4 (by decide)]; exact g1, t1 g2 (by decide), by rw [n g2 (by decide)]; exact g3, by rw [n g2 (by decide)]; exact g4, by rw [n g2 (by decide)]; exact g5, by rw [n g2 (by decide)]; exact g6, by rw [n g2 (by decide)]; exact g7⟩
  · intro j hj
    obtain ⟨f1, f2, f3, f4, f5, f6, f7, f8, f9, f10, f11⟩ := w1 j hj
    exact ⟨by rw [r2 a9 (by decide)]; exact f1, t1 f2 (by decide), by rw [p f2 (by decide)]; exact f3, by rw [n f2 (by decide)]; exact f4, by rw [n f2 (by decide)]; exact f5, by rw [n f2 (by decide)]; exact f6, by rw [n f2 (by decide)]; exact f7, by rw [n f2 (by decide)]; exact f8, by rw [n f2 (by decide)]; exact f9, by rw [n f2 (by decide)]; exact f10, by rw [n f2 (by decide)]; exact f11⟩
  · intro s hs
    obtain ⟨f1, f2⟩ := s1 s hs
    refine ⟨fun h0 => by rw [r2 a10 (by decide)]; exact f1 h0, fun h0 => ?_⟩
    obtain ⟨g1, g2, g3, g4, g5⟩ := f2 h0
    have hl := (c2 (7 + s) (Or.inr ⟨by omega, by rw [show 7 + s - 7 = s by omega]; exact h0⟩)).1
    exact ⟨by rw [r2 a10 (by decide)]; exact g1, t1 g2 (by decide), by rw [n g2 (by decide)]; exact g3, by rw [p g2 (by decide)]; exact g4, by rw [i2 hl (by decide)]; exact g5⟩
  · rw [p q1 (by decide)]; exact q2
  · rw [p q3 (by decide)]; exact q4
  · rw [p q3 (by decide)]; exact q5
  · rw [p q1 (by decide)]; exact q6
  · rw [p q1 (by decide)]; exact q7
  · rw [p q1 (by decide)]; exact q8
  · rw [p q1 (by decide)]; exact q9
section zabs
variable {E : zE} {y : MethodName} {cc : ByteArray} {nL : Nat} {ret : Option FieldType} {rm : Room} {K : zK E y cc nL ret rm} {Qf : State → Prop} {T : zT} {N : zN} {P : zP} {I : zI} {R : zR} {kc ks pc : Nat} {ls : List (Option Value)} {st : List Value}
theorem v_abs (F : zT → zN → zP → zI → zR → Prop) (h : F T N P I R) (k : ∀ (T : zT) (N : zN) (P : zP) (I : zI) (R : zR), F T N P I R → V K Qf T N P I R kc ks pc ls st) : V K Qf T N P I R kc ks pc ls st := k T N P I R h
end zabs
end
