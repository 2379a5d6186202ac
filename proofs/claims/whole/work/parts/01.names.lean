-- ===== PART A: goes FIRST, ahead of the names: the tables' words, and 'selects' of the private methods out of them =====
/-- a private method of a class that the tables say can be made, by its rows of tables_1 -/
def lw_okq (q : MethodName × Nat) : Prop := (q.1.cls ≠ "java/lang/invoke/MethodHandle" ∧ q.1.cls ≠ "java/lang/invoke/VarHandle") ∧ Cond.instantiable q.1.cls q.2 ∈ tables_1 ∧ Cond.privateMethod q.1 ∈ tables_1 ∧ Cond.instanceMethod q.1 ∈ tables_1
theorem lw_p0 : lw_okq (⟨"WalkTeller", "finding", "(I)I"⟩, 10) := ⟨⟨by decide +kernel, by decide +kernel⟩, List.mem_of_getElem? (i := 22) (by decide +kernel), List.mem_of_getElem? (i := 184) (by decide +kernel), List.mem_of_getElem? (i := 185) (by decide +kernel)⟩
theorem lw_p1 : lw_okq (⟨"WalkTeller$Net", "join", "(III)V"⟩, 2) := ⟨⟨by decide +kernel, by decide +kernel⟩, List.mem_of_getElem? (i := 87) (by decide +kernel), List.mem_of_getElem? (i := 275) (by decide +kernel), List.mem_of_getElem? (i := 276) (by decide +kernel)⟩
theorem lw_p2 : lw_okq (⟨"WalkTeller$Net", "lessenOne", "([III)Z"⟩, 2) := ⟨⟨by decide +kernel, by decide +kernel⟩, List.mem_of_getElem? (i := 87) (by decide +kernel), List.mem_of_getElem? (i := 289) (by decide +kernel), List.mem_of_getElem? (i := 290) (by decide +kernel)⟩
theorem lw_p3 : lw_okq (⟨"WalkTeller", "timeOrNone", "(I)I"⟩, 10) := ⟨⟨by decide +kernel, by decide +kernel⟩, List.mem_of_getElem? (i := 22) (by decide +kernel), List.mem_of_getElem? (i := 297) (by decide +kernel), List.mem_of_getElem? (i := 298) (by decide +kernel)⟩
theorem lw_p4 : lw_okq (⟨"WalkTeller$Reader", "readPiece", "()LWalkTeller$Piece;"⟩, 3) := ⟨⟨by decide +kernel, by decide +kernel⟩, List.mem_of_getElem? (i := 315) (by decide +kernel), List.mem_of_getElem? (i := 338) (by decide +kernel), List.mem_of_getElem? (i := 339) (by decide +kernel)⟩
theorem lw_p5 : lw_okq (⟨"WalkTeller$Reader", "takeOneOf", "(CI)I"⟩, 3) := ⟨⟨by decide +kernel, by decide +kernel⟩, List.mem_of_getElem? (i := 315) (by decide +kernel), List.mem_of_getElem? (i := 342) (by decide +kernel), List.mem_of_getElem? (i := 343) (by decide +kernel)⟩
theorem lw_p6 : lw_okq (⟨"WalkTeller$Reader", "takeKind", "()I"⟩, 3) := ⟨⟨by decide +kernel, by decide +kernel⟩, List.mem_of_getElem? (i := 315) (by decide +kernel), List.mem_of_getElem? (i := 352) (by decide +kernel), List.mem_of_getElem? (i := 353) (by decide +kernel)⟩
theorem lw_p7 : lw_okq (⟨"WalkTeller$Reader", "takeRising", "(CI)I"⟩, 3) := ⟨⟨by decide +kernel, by decide +kernel⟩, List.mem_of_getElem? (i := 315) (by decide +kernel), List.mem_of_getElem? (i := 405) (by decide +kernel), List.mem_of_getElem? (i := 406) (by decide +kernel)⟩
theorem lw_p8 : lw_okq (⟨"WalkTeller$Reader", "takeSign", "(C)Z"⟩, 3) := ⟨⟨by decide +kernel, by decide +kernel⟩, List.mem_of_getElem? (i := 315) (by decide +kernel), List.mem_of_getElem? (i := 409) (by decide +kernel), List.mem_of_getElem? (i := 410) (by decide +kernel)⟩
theorem lw_p9 : lw_okq (⟨"WalkTeller", "findPiece", "(II)LWalkTeller$Piece;"⟩, 10) := ⟨⟨by decide +kernel, by decide +kernel⟩, List.mem_of_getElem? (i := 22) (by decide +kernel), List.mem_of_getElem? (i := 452) (by decide +kernel), List.mem_of_getElem? (i := 453) (by decide +kernel)⟩
theorem lw_p10 : lw_okq (⟨"WalkTeller", "findEdition", "(I)LWalkTeller$Edition;"⟩, 10) := ⟨⟨by decide +kernel, by decide +kernel⟩, List.mem_of_getElem? (i := 22) (by decide +kernel), List.mem_of_getElem? (i := 456) (by decide +kernel), List.mem_of_getElem? (i := 457) (by decide +kernel)⟩
theorem lw_p11 : lw_okq (⟨"WalkTeller", "searchAnew", "(IIIZ)Z"⟩, 10) := ⟨⟨by decide +kernel, by decide +kernel⟩, List.mem_of_getElem? (i := 22) (by decide +kernel), List.mem_of_getElem? (i := 478) (by decide +kernel), List.mem_of_getElem? (i := 479) (by decide +kernel)⟩
theorem lw_p12 : lw_okq (⟨"WalkTeller$Search", "clearReached", "()V"⟩, 8) := ⟨⟨by decide +kernel, by decide +kernel⟩, List.mem_of_getElem? (i := 81) (by decide +kernel), List.mem_of_getElem? (i := 486) (by decide +kernel), List.mem_of_getElem? (i := 487) (by decide +kernel)⟩
theorem lw_p13 : lw_okq (⟨"WalkTeller$Search", "reachFrom", "(I)V"⟩, 8) := ⟨⟨by decide +kernel, by decide +kernel⟩, List.mem_of_getElem? (i := 81) (by decide +kernel), List.mem_of_getElem? (i := 490) (by decide +kernel), List.mem_of_getElem? (i := 491) (by decide +kernel)⟩
theorem lw_p14 : lw_okq (⟨"WalkTeller$Search", "reachNext", "(II)V"⟩, 8) := ⟨⟨by decide +kernel, by decide +kernel⟩, List.mem_of_getElem? (i := 81) (by decide +kernel), List.mem_of_getElem? (i := 499) (by decide +kernel), List.mem_of_getElem? (i := 500) (by decide +kernel)⟩
theorem lw_p15 : lw_okq (⟨"WalkTeller$Search", "timeSet", "(I)V"⟩, 8) := ⟨⟨by decide +kernel, by decide +kernel⟩, List.mem_of_getElem? (i := 81) (by decide +kernel), List.mem_of_getElem? (i := 512) (by decide +kernel), List.mem_of_getElem? (i := 513) (by decide +kernel)⟩
def lw_privs_1 : List (MethodName × Nat) := [(⟨"WalkTeller", "finding", "(I)I"⟩, 10), (⟨"WalkTeller$Net", "join", "(III)V"⟩, 2), (⟨"WalkTeller$Net", "lessenOne", "([III)Z"⟩, 2), (⟨"WalkTeller", "timeOrNone", "(I)I"⟩, 10), (⟨"WalkTeller$Reader", "readPiece", "()LWalkTeller$Piece;"⟩, 3), (⟨"WalkTeller$Reader", "takeOneOf", "(CI)I"⟩, 3), (⟨"WalkTeller$Reader", "takeKind", "()I"⟩, 3), (⟨"WalkTeller$Reader", "takeRising", "(CI)I"⟩, 3), (⟨"WalkTeller$Reader", "takeSign", "(C)Z"⟩, 3), (⟨"WalkTeller", "findPiece", "(II)LWalkTeller$Piece;"⟩, 10), (⟨"WalkTeller", "findEdition", "(I)LWalkTeller$Edition;"⟩, 10), (⟨"WalkTeller", "searchAnew", "(IIIZ)Z"⟩, 10), (⟨"WalkTeller$Search", "clearReached", "()V"⟩, 8), (⟨"WalkTeller$Search", "reachFrom", "(I)V"⟩, 8), (⟨"WalkTeller$Search", "reachNext", "(II)V"⟩, 8), (⟨"WalkTeller$Search", "timeSet", "(I)V"⟩, 8)]
theorem lw_r1 : ∀ q ∈ lw_privs_1, lw_okq q := List.forall_mem_cons.mpr ⟨lw_p0, List.forall_mem_cons.mpr ⟨lw_p1, List.forall_mem_cons.mpr ⟨lw_p2, List.forall_mem_cons.mpr ⟨lw_p3, List.forall_mem_cons.mpr ⟨lw_p4, List.forall_mem_cons.mpr ⟨lw_p5, List.forall_mem_cons.mpr ⟨lw_p6, List.forall_mem_cons.mpr ⟨lw_p7, List.forall_mem_cons.mpr ⟨lw_p8, List.forall_mem_cons.mpr ⟨lw_p9, List.forall_mem_cons.mpr ⟨lw_p10, List.forall_mem_cons.mpr ⟨lw_p11, List.forall_mem_cons.mpr ⟨lw_p12, List.forall_mem_cons.mpr ⟨lw_p13, List.forall_mem_cons.mpr ⟨lw_p14, List.forall_mem_cons.mpr ⟨lw_p15, fun _ h => absurd h List.not_mem_nil⟩⟩⟩⟩⟩⟩⟩⟩⟩⟩⟩⟩⟩⟩⟩⟩
theorem lw_p16 : lw_okq (⟨"WalkTeller$Search", "timeToldHere", "(II)I"⟩, 8) := ⟨⟨by decide +kernel, by decide +kernel⟩, List.mem_of_getElem? (i := 81) (by decide +kernel), List.mem_of_getElem? (i := 516) (by decide +kernel), List.mem_of_getElem? (i := 517) (by decide +kernel)⟩
theorem lw_p17 : lw_okq (⟨"WalkTeller$Search", "quickestStep", "(II)I"⟩, 8) := ⟨⟨by decide +kernel, by decide +kernel⟩, List.mem_of_getElem? (i := 81) (by decide +kernel), List.mem_of_getElem? (i := 566) (by decide +kernel), List.mem_of_getElem? (i := 567) (by decide +kernel)⟩
theorem lw_p18 : lw_okq (⟨"WalkTeller$Walker", "forgetSightings", "()V"⟩, 9) := ⟨⟨by decide +kernel, by decide +kernel⟩, List.mem_of_getElem? (i := 579) (by decide +kernel), List.mem_of_getElem? (i := 624) (by decide +kernel), List.mem_of_getElem? (i := 625) (by decide +kernel)⟩
theorem lw_p19 : lw_okq (⟨"WalkTeller", "findWalker", "(I)LWalkTeller$Walker;"⟩, 10) := ⟨⟨by decide +kernel, by decide +kernel⟩, List.mem_of_getElem? (i := 22) (by decide +kernel), List.mem_of_getElem? (i := 648) (by decide +kernel), List.mem_of_getElem? (i := 649) (by decide +kernel)⟩
theorem lw_p20 : lw_okq (⟨"WalkTeller", "searchFrom", "(LWalkTeller$Walker;)V"⟩, 10) := ⟨⟨by decide +kernel, by decide +kernel⟩, List.mem_of_getElem? (i := 22) (by decide +kernel), List.mem_of_getElem? (i := 671) (by decide +kernel), List.mem_of_getElem? (i := 672) (by decide +kernel)⟩
theorem lw_p21 : lw_okq (⟨"WalkTeller", "bestNextCorner", "(LWalkTeller$Walker;)I"⟩, 10) := ⟨⟨by decide +kernel, by decide +kernel⟩, List.mem_of_getElem? (i := 22) (by decide +kernel), List.mem_of_getElem? (i := 675) (by decide +kernel), List.mem_of_getElem? (i := 676) (by decide +kernel)⟩
theorem lw_p22 : lw_okq (⟨"WalkTeller", "countWalking", "(I)I"⟩, 10) := ⟨⟨by decide +kernel, by decide +kernel⟩, List.mem_of_getElem? (i := 22) (by decide +kernel), List.mem_of_getElem? (i := 680) (by decide +kernel), List.mem_of_getElem? (i := 681) (by decide +kernel)⟩
theorem lw_p23 : lw_okq (⟨"WalkTeller$Walker", "sight", "(LWalkTeller$Town;II)V"⟩, 9) := ⟨⟨by decide +kernel, by decide +kernel⟩, List.mem_of_getElem? (i := 579) (by decide +kernel), List.mem_of_getElem? (i := 717) (by decide +kernel), List.mem_of_getElem? (i := 718) (by decide +kernel)⟩
theorem lw_p24 : lw_okq (⟨"WalkTellerModel", "finding", "(I)I"⟩, 44) := ⟨⟨by decide +kernel, by decide +kernel⟩, List.mem_of_getElem? (i := 785) (by decide +kernel), List.mem_of_getElem? (i := 934) (by decide +kernel), List.mem_of_getElem? (i := 935) (by decide +kernel)⟩
theorem lw_p25 : lw_okq (⟨"WalkTellerModel", "isCorner", "(I)Z"⟩, 44) := ⟨⟨by decide +kernel, by decide +kernel⟩, List.mem_of_getElem? (i := 785) (by decide +kernel), List.mem_of_getElem? (i := 943) (by decide +kernel), List.mem_of_getElem? (i := 944) (by decide +kernel)⟩
theorem lw_p26 : lw_okq (⟨"WalkTellerModel", "isWay", "(I)Z"⟩, 44) := ⟨⟨by decide +kernel, by decide +kernel⟩, List.mem_of_getElem? (i := 785) (by decide +kernel), List.mem_of_getElem? (i := 951) (by decide +kernel), List.mem_of_getElem? (i := 952) (by decide +kernel)⟩
theorem lw_p27 : lw_okq (⟨"WalkTellerModel", "isOpen", "(IIZ)Z"⟩, 44) := ⟨⟨by decide +kernel, by decide +kernel⟩, List.mem_of_getElem? (i := 785) (by decide +kernel), List.mem_of_getElem? (i := 963) (by decide +kernel), List.mem_of_getElem? (i := 964) (by decide +kernel)⟩
theorem lw_p28 : lw_okq (⟨"WalkTellerModel", "newEdition", "()I"⟩, 44) := ⟨⟨by decide +kernel, by decide +kernel⟩, List.mem_of_getElem? (i := 785) (by decide +kernel), List.mem_of_getElem? (i := 978) (by decide +kernel), List.mem_of_getElem? (i := 979) (by decide +kernel)⟩
theorem lw_p29 : lw_okq (⟨"WalkTellerModel", "readsPiece", "()Z"⟩, 44) := ⟨⟨by decide +kernel, by decide +kernel⟩, List.mem_of_getElem? (i := 785) (by decide +kernel), List.mem_of_getElem? (i := 982) (by decide +kernel), List.mem_of_getElem? (i := 983) (by decide +kernel)⟩
theorem lw_p30 : lw_okq (⟨"WalkTellerModel", "byteAt", "(I)I"⟩, 44) := ⟨⟨by decide +kernel, by decide +kernel⟩, List.mem_of_getElem? (i := 785) (by decide +kernel), List.mem_of_getElem? (i := 986) (by decide +kernel), List.mem_of_getElem? (i := 987) (by decide +kernel)⟩
theorem lw_p31 : lw_okq (⟨"WalkTellerModel", "readsDays", "()Z"⟩, 44) := ⟨⟨by decide +kernel, by decide +kernel⟩, List.mem_of_getElem? (i := 785) (by decide +kernel), List.mem_of_getElem? (i := 993) (by decide +kernel), List.mem_of_getElem? (i := 994) (by decide +kernel)⟩
def lw_privs_2 : List (MethodName × Nat) := [(⟨"WalkTeller$Search", "timeToldHere", "(II)I"⟩, 8), (⟨"WalkTeller$Search", "quickestStep", "(II)I"⟩, 8), (⟨"WalkTeller$Walker", "forgetSightings", "()V"⟩, 9), (⟨"WalkTeller", "findWalker", "(I)LWalkTeller$Walker;"⟩, 10), (⟨"WalkTeller", "searchFrom", "(LWalkTeller$Walker;)V"⟩, 10), (⟨"WalkTeller", "bestNextCorner", "(LWalkTeller$Walker;)I"⟩, 10), (⟨"WalkTeller", "countWalking", "(I)I"⟩, 10), (⟨"WalkTeller$Walker", "sight", "(LWalkTeller$Town;II)V"⟩, 9), (⟨"WalkTellerModel", "finding", "(I)I"⟩, 44), (⟨"WalkTellerModel", "isCorner", "(I)Z"⟩, 44), (⟨"WalkTellerModel", "isWay", "(I)Z"⟩, 44), (⟨"WalkTellerModel", "isOpen", "(IIZ)Z"⟩, 44), (⟨"WalkTellerModel", "newEdition", "()I"⟩, 44), (⟨"WalkTellerModel", "readsPiece", "()Z"⟩, 44), (⟨"WalkTellerModel", "byteAt", "(I)I"⟩, 44), (⟨"WalkTellerModel", "readsDays", "()Z"⟩, 44)]
theorem lw_r2 : ∀ q ∈ lw_privs_2, lw_okq q := List.forall_mem_cons.mpr ⟨lw_p16, List.forall_mem_cons.mpr ⟨lw_p17, List.forall_mem_cons.mpr ⟨lw_p18, List.forall_mem_cons.mpr ⟨lw_p19, List.forall_mem_cons.mpr ⟨lw_p20, List.forall_mem_cons.mpr ⟨lw_p21, List.forall_mem_cons.mpr ⟨lw_p22, List.forall_mem_cons.mpr ⟨lw_p23, List.forall_mem_cons.mpr ⟨lw_p24, List.forall_mem_cons.mpr ⟨lw_p25, List.forall_mem_cons.mpr ⟨lw_p26, List.forall_mem_cons.mpr ⟨lw_p27, List.forall_mem_cons.mpr ⟨lw_p28, List.forall_mem_cons.mpr ⟨lw_p29, List.forall_mem_cons.mpr ⟨lw_p30, List.forall_mem_cons.mpr ⟨lw_p31, fun _ h => absurd h List.not_mem_nil⟩⟩⟩⟩⟩⟩⟩⟩⟩⟩⟩⟩⟩⟩⟩⟩
theorem lw_p32 : lw_okq (⟨"WalkTellerModel", "isPiece", "(II)Z"⟩, 44) := ⟨⟨by decide +kernel, by decide +kernel⟩, List.mem_of_getElem? (i := 785) (by decide +kernel), List.mem_of_getElem? (i := 1002) (by decide +kernel), List.mem_of_getElem? (i := 1003) (by decide +kernel)⟩
theorem lw_p33 : lw_okq (⟨"WalkTellerModel", "isEdition", "(I)Z"⟩, 44) := ⟨⟨by decide +kernel, by decide +kernel⟩, List.mem_of_getElem? (i := 785) (by decide +kernel), List.mem_of_getElem? (i := 1006) (by decide +kernel), List.mem_of_getElem? (i := 1007) (by decide +kernel)⟩
theorem lw_p34 : lw_okq (⟨"WalkTellerModel", "findMoments", "(IIIIZ)V"⟩, 44) := ⟨⟨by decide +kernel, by decide +kernel⟩, List.mem_of_getElem? (i := 785) (by decide +kernel), List.mem_of_getElem? (i := 1019) (by decide +kernel), List.mem_of_getElem? (i := 1020) (by decide +kernel)⟩
theorem lw_p35 : lw_okq (⟨"WalkTellerModel", "meets", "(I)V"⟩, 44) := ⟨⟨by decide +kernel, by decide +kernel⟩, List.mem_of_getElem? (i := 785) (by decide +kernel), List.mem_of_getElem? (i := 1026) (by decide +kernel), List.mem_of_getElem? (i := 1027) (by decide +kernel)⟩
theorem lw_p36 : lw_okq (⟨"WalkTellerModel", "isOver", "(II)Z"⟩, 44) := ⟨⟨by decide +kernel, by decide +kernel⟩, List.mem_of_getElem? (i := 785) (by decide +kernel), List.mem_of_getElem? (i := 1030) (by decide +kernel), List.mem_of_getElem? (i := 1031) (by decide +kernel)⟩
theorem lw_p37 : lw_okq (⟨"WalkTellerModel", "nextPiece", "(IIII)I"⟩, 44) := ⟨⟨by decide +kernel, by decide +kernel⟩, List.mem_of_getElem? (i := 785) (by decide +kernel), List.mem_of_getElem? (i := 1034) (by decide +kernel), List.mem_of_getElem? (i := 1035) (by decide +kernel)⟩
theorem lw_p38 : lw_okq (⟨"WalkTellerModel", "canTell", "(IIIII)Z"⟩, 44) := ⟨⟨by decide +kernel, by decide +kernel⟩, List.mem_of_getElem? (i := 785) (by decide +kernel), List.mem_of_getElem? (i := 1038) (by decide +kernel), List.mem_of_getElem? (i := 1039) (by decide +kernel)⟩
theorem lw_p39 : lw_okq (⟨"WalkTellerModel", "allHeard", "()I"⟩, 44) := ⟨⟨by decide +kernel, by decide +kernel⟩, List.mem_of_getElem? (i := 785) (by decide +kernel), List.mem_of_getElem? (i := 1042) (by decide +kernel), List.mem_of_getElem? (i := 1043) (by decide +kernel)⟩
theorem lw_p40 : lw_okq (⟨"WalkTellerModel", "findTimes", "(IIZ)V"⟩, 44) := ⟨⟨by decide +kernel, by decide +kernel⟩, List.mem_of_getElem? (i := 785) (by decide +kernel), List.mem_of_getElem? (i := 1046) (by decide +kernel), List.mem_of_getElem? (i := 1047) (by decide +kernel)⟩
theorem lw_p41 : lw_okq (⟨"WalkTellerModel", "comesNearer", "([ZIIII)V"⟩, 44) := ⟨⟨by decide +kernel, by decide +kernel⟩, List.mem_of_getElem? (i := 785) (by decide +kernel), List.mem_of_getElem? (i := 1050) (by decide +kernel), List.mem_of_getElem? (i := 1051) (by decide +kernel)⟩
theorem lw_p42 : lw_okq (⟨"WalkTellerModel", "manyCan", "(IIII)I"⟩, 44) := ⟨⟨by decide +kernel, by decide +kernel⟩, List.mem_of_getElem? (i := 785) (by decide +kernel), List.mem_of_getElem? (i := 1054) (by decide +kernel), List.mem_of_getElem? (i := 1055) (by decide +kernel)⟩
theorem lw_p43 : lw_okq (⟨"WalkTellerModel", "canAsk", "(III)Z"⟩, 44) := ⟨⟨by decide +kernel, by decide +kernel⟩, List.mem_of_getElem? (i := 785) (by decide +kernel), List.mem_of_getElem? (i := 1062) (by decide +kernel), List.mem_of_getElem? (i := 1063) (by decide +kernel)⟩
theorem lw_p44 : lw_okq (⟨"WalkTellerModel", "goesTo", "(IIIZ)I"⟩, 44) := ⟨⟨by decide +kernel, by decide +kernel⟩, List.mem_of_getElem? (i := 785) (by decide +kernel), List.mem_of_getElem? (i := 1070) (by decide +kernel), List.mem_of_getElem? (i := 1071) (by decide +kernel)⟩
theorem lw_p45 : lw_okq (⟨"WalkTellerModel", "listens", "(I)I"⟩, 44) := ⟨⟨by decide +kernel, by decide +kernel⟩, List.mem_of_getElem? (i := 785) (by decide +kernel), List.mem_of_getElem? (i := 1079) (by decide +kernel), List.mem_of_getElem? (i := 1080) (by decide +kernel)⟩
theorem lw_p46 : lw_okq (⟨"WalkTellerModel", "isWalker", "(I)Z"⟩, 44) := ⟨⟨by decide +kernel, by decide +kernel⟩, List.mem_of_getElem? (i := 785) (by decide +kernel), List.mem_of_getElem? (i := 1091) (by decide +kernel), List.mem_of_getElem? (i := 1092) (by decide +kernel)⟩
theorem lw_p47 : lw_okq (⟨"WalkTellerModel", "isDone", "(I)Z"⟩, 44) := ⟨⟨by decide +kernel, by decide +kernel⟩, List.mem_of_getElem? (i := 785) (by decide +kernel), List.mem_of_getElem? (i := 1095) (by decide +kernel), List.mem_of_getElem? (i := 1096) (by decide +kernel)⟩
def lw_privs_3 : List (MethodName × Nat) := [(⟨"WalkTellerModel", "isPiece", "(II)Z"⟩, 44), (⟨"WalkTellerModel", "isEdition", "(I)Z"⟩, 44), (⟨"WalkTellerModel", "findMoments", "(IIIIZ)V"⟩, 44), (⟨"WalkTellerModel", "meets", "(I)V"⟩, 44), (⟨"WalkTellerModel", "isOver", "(II)Z"⟩, 44), (⟨"WalkTellerModel", "nextPiece", "(IIII)I"⟩, 44), (⟨"WalkTellerModel", "canTell", "(IIIII)Z"⟩, 44), (⟨"WalkTellerModel", "allHeard", "()I"⟩, 44), (⟨"WalkTellerModel", "findTimes", "(IIZ)V"⟩, 44), (⟨"WalkTellerModel", "comesNearer", "([ZIIII)V"⟩, 44), (⟨"WalkTellerModel", "manyCan", "(IIII)I"⟩, 44), (⟨"WalkTellerModel", "canAsk", "(III)Z"⟩, 44), (⟨"WalkTellerModel", "goesTo", "(IIIZ)I"⟩, 44), (⟨"WalkTellerModel", "listens", "(I)I"⟩, 44), (⟨"WalkTellerModel", "isWalker", "(I)Z"⟩, 44), (⟨"WalkTellerModel", "isDone", "(I)Z"⟩, 44)]
theorem lw_r3 : ∀ q ∈ lw_privs_3, lw_okq q := List.forall_mem_cons.mpr ⟨lw_p32, List.forall_mem_cons.mpr ⟨lw_p33, List.forall_mem_cons.mpr ⟨lw_p34, List.forall_mem_cons.mpr ⟨lw_p35, List.forall_mem_cons.mpr ⟨lw_p36, List.forall_mem_cons.mpr ⟨lw_p37, List.forall_mem_cons.mpr ⟨lw_p38, List.forall_mem_cons.mpr ⟨lw_p39, List.forall_mem_cons.mpr ⟨lw_p40, List.forall_mem_cons.mpr ⟨lw_p41, List.forall_mem_cons.mpr ⟨lw_p42, List.forall_mem_cons.mpr ⟨lw_p43, List.forall_mem_cons.mpr ⟨lw_p44, List.forall_mem_cons.mpr ⟨lw_p45, List.forall_mem_cons.mpr ⟨lw_p46, List.forall_mem_cons.mpr ⟨lw_p47, fun _ h => absurd h List.not_mem_nil⟩⟩⟩⟩⟩⟩⟩⟩⟩⟩⟩⟩⟩⟩⟩⟩
theorem lw_p48 : lw_okq (⟨"WalkTellerModel", "comes", "(II)I"⟩, 44) := ⟨⟨by decide +kernel, by decide +kernel⟩, List.mem_of_getElem? (i := 785) (by decide +kernel), List.mem_of_getElem? (i := 1099) (by decide +kernel), List.mem_of_getElem? (i := 1100) (by decide +kernel)⟩
theorem lw_p49 : lw_okq (⟨"WalkTellerModel", "wayTo", "(II)I"⟩, 44) := ⟨⟨by decide +kernel, by decide +kernel⟩, List.mem_of_getElem? (i := 785) (by decide +kernel), List.mem_of_getElem? (i := 1111) (by decide +kernel), List.mem_of_getElem? (i := 1112) (by decide +kernel)⟩
theorem lw_p50 : lw_okq (⟨"WalkTellerModel", "othersAt", "(II)I"⟩, 44) := ⟨⟨by decide +kernel, by decide +kernel⟩, List.mem_of_getElem? (i := 785) (by decide +kernel), List.mem_of_getElem? (i := 1115) (by decide +kernel), List.mem_of_getElem? (i := 1116) (by decide +kernel)⟩
theorem lw_p51 : lw_okq (⟨"WalkTellerModel", "reads", "(IIII)V"⟩, 44) := ⟨⟨by decide +kernel, by decide +kernel⟩, List.mem_of_getElem? (i := 785) (by decide +kernel), List.mem_of_getElem? (i := 1131) (by decide +kernel), List.mem_of_getElem? (i := 1132) (by decide +kernel)⟩
theorem lw_p52 : lw_okq (⟨"WalkTellerModel", "isPossible", "(IIII)Z"⟩, 44) := ⟨⟨by decide +kernel, by decide +kernel⟩, List.mem_of_getElem? (i := 785) (by decide +kernel), List.mem_of_getElem? (i := 1135) (by decide +kernel), List.mem_of_getElem? (i := 1136) (by decide +kernel)⟩
def lw_privs_4 : List (MethodName × Nat) := [(⟨"WalkTellerModel", "comes", "(II)I"⟩, 44), (⟨"WalkTellerModel", "wayTo", "(II)I"⟩, 44), (⟨"WalkTellerModel", "othersAt", "(II)I"⟩, 44), (⟨"WalkTellerModel", "reads", "(IIII)V"⟩, 44), (⟨"WalkTellerModel", "isPossible", "(IIII)Z"⟩, 44)]
theorem lw_r4 : ∀ q ∈ lw_privs_4, lw_okq q := List.forall_mem_cons.mpr ⟨lw_p48, List.forall_mem_cons.mpr ⟨lw_p49, List.forall_mem_cons.mpr ⟨lw_p50, List.forall_mem_cons.mpr ⟨lw_p51, List.forall_mem_cons.mpr ⟨lw_p52, fun _ h => absurd h List.not_mem_nil⟩⟩⟩⟩⟩
def lw_privs : List (MethodName × Nat) := lw_privs_1 ++ (lw_privs_2 ++ (lw_privs_3 ++ (lw_privs_4)))
def lw_tbl : List Cond := k2_sels lw_privs ++ tables_1
theorem lw_privs_ok : ∀ q ∈ lw_privs, lw_okq q := by
  show ∀ q ∈ lw_privs_1 ++ (lw_privs_2 ++ (lw_privs_3 ++ (lw_privs_4))), lw_okq q
  exact List.forall_mem_append.mpr ⟨lw_r1, List.forall_mem_append.mpr ⟨lw_r2, List.forall_mem_append.mpr ⟨lw_r3, lw_r4⟩⟩⟩
def RX0 : String := "WalkTeller$Edition"
def TX0 : u_T := fun k => match k with
  | 0 => ("WalkTeller$Edition", "pieces", "[LWalkTeller$Piece;", true)
  | 1 => ("WalkTeller$Edition", "pieceCount", "I", false)
  | _ => ("WalkTeller$Edition", "ends", "I", false)
def tyX0 : Nat → FieldType := fun k => match k with
  | 0 => .array (.object "WalkTeller$Piece")
  | 1 => .int
  | _ => .int
abbrev wsX00 : List Cond := u_ws RX0 TX0 3
theorem nmX0 : ∀ a, a < 3 → ∀ b, b < 3 → a ≠ b → (TX0 a).2.1 ≠ (TX0 b).2.1 := by decide +kernel
theorem tyX0_ok : ∀ k, k < 3 → parseFieldDescriptor (TX0 k).2.2.1 = some (tyX0 k) := by decide +kernel
abbrev cX0_init : ByteArray := prog_2_method_1_code
def yX0_init : MethodName := ⟨RX0, "<init>", "()V"⟩
abbrev cX0_addPiece : ByteArray := prog_2_method_2_code
def yX0_addPiece : MethodName := ⟨RX0, "addPiece", "(LWalkTeller$Piece;)V"⟩
abbrev cX0_findPiece : ByteArray := prog_2_method_3_code
def yX0_findPiece : MethodName := ⟨RX0, "findPiece", "(I)LWalkTeller$Piece;"⟩
abbrev cX0_allPieces : ByteArray := prog_2_method_4_code
def yX0_allPieces : MethodName := ⟨RX0, "allPieces", "()I"⟩
abbrev cX0_isOver : ByteArray := prog_2_method_5_code
def yX0_isOver : MethodName := ⟨RX0, "isOver", "(I)Z"⟩
abbrev cX0_nextPiece : ByteArray := prog_2_method_6_code
def yX0_nextPiece : MethodName := ⟨RX0, "nextPiece", "(IIII)I"⟩
abbrev cX0_hasTwoVoices : ByteArray := prog_2_method_7_code
def yX0_hasTwoVoices : MethodName := ⟨RX0, "hasTwoVoices", "(III)Z"⟩
def RX1 : String := "WalkTeller$Net"
def TX1 : u_T := fun k => match k with
  | 0 => ("WalkTeller$Net", "steps", "[I", true)
  | _ => ("WalkTeller$Net", "neighbours", "[I", true)
def tyX1 : Nat → FieldType := fun k => match k with
  | 0 => .array .int
  | _ => .array .int
abbrev wsX10 : List Cond := u_ws RX1 TX1 2
theorem nmX1 : ∀ a, a < 2 → ∀ b, b < 2 → a ≠ b → (TX1 a).2.1 ≠ (TX1 b).2.1 := by decide +kernel
theorem tyX1_ok : ∀ k, k < 2 → parseFieldDescriptor (TX1 k).2.2.1 = some (tyX1 k) := by decide +kernel
abbrev cX1_init : ByteArray := prog_3_method_1_code
def yX1_init : MethodName := ⟨RX1, "<init>", "()V"⟩
abbrev cX1_lay : ByteArray := prog_3_method_2_code
def yX1_lay : MethodName := ⟨RX1, "lay", "(LWalkTeller$Town;IZ)V"⟩
abbrev cX1_join : ByteArray := prog_3_method_3_code
def yX1_join : MethodName := ⟨RX1, "join", "(III)V"⟩
abbrev cX1_step : ByteArray := prog_3_method_4_code
def yX1_step : MethodName := ⟨RX1, "step", "(II)I"⟩
abbrev cX1_lessen : ByteArray := prog_3_method_5_code
def yX1_lessen : MethodName := ⟨RX1, "lessen", "([III)V"⟩
abbrev cX1_lessenOne : ByteArray := prog_3_method_6_code
def yX1_lessenOne : MethodName := ⟨RX1, "lessenOne", "([III)Z"⟩
def RX2 : String := "WalkTeller$Piece"
def TX2 : u_T := fun k => match k with
  | 0 => ("WalkTeller$Piece", "kind", "I", true)
  | 1 => ("WalkTeller$Piece", "corner", "I", true)
  | 2 => ("WalkTeller$Piece", "length", "I", true)
  | 3 => ("WalkTeller$Piece", "needs", "I", true)
  | _ => ("WalkTeller$Piece", "days", "I", true)
def tyX2 : Nat → FieldType := fun k => match k with
  | 0 => .int
  | 1 => .int
  | 2 => .int
  | 3 => .int
  | _ => .int
abbrev wsX20 : List Cond := u_ws RX2 TX2 5
theorem nmX2 : ∀ a, a < 5 → ∀ b, b < 5 → a ≠ b → (TX2 a).2.1 ≠ (TX2 b).2.1 := by decide +kernel
theorem tyX2_ok : ∀ k, k < 5 → parseFieldDescriptor (TX2 k).2.2.1 = some (tyX2 k) := by decide +kernel
abbrev cX2_init : ByteArray := prog_4_method_1_code
def yX2_init : MethodName := ⟨RX2, "<init>", "(IIIII)V"⟩
abbrev cX2_isOfKind : ByteArray := prog_4_method_2_code
def yX2_isOfKind : MethodName := ⟨RX2, "isOfKind", "(I)Z"⟩
abbrev cX2_fits : ByteArray := prog_4_method_3_code
def yX2_fits : MethodName := ⟨RX2, "fits", "(III)Z"⟩
def RX3 : String := "WalkTeller$Reader"
def TX3 : u_T := fun k => match k with
  | 0 => ("WalkTeller$Reader", "tape", "LWalkTeller$Tape;", true)
  | 1 => ("WalkTeller$Reader", "cornerCount", "I", true)
  | _ => ("WalkTeller$Reader", "place", "I", false)
def tyX3 : Nat → FieldType := fun k => match k with
  | 0 => .object "WalkTeller$Tape"
  | 1 => .int
  | _ => .int
abbrev wsX30 : List Cond := u_ws RX3 TX3 3
theorem nmX3 : ∀ a, a < 3 → ∀ b, b < 3 → a ≠ b → (TX3 a).2.1 ≠ (TX3 b).2.1 := by decide +kernel
theorem tyX3_ok : ∀ k, k < 3 → parseFieldDescriptor (TX3 k).2.2.1 = some (tyX3 k) := by decide +kernel
abbrev cX3_init : ByteArray := prog_5_method_1_code
def yX3_init : MethodName := ⟨RX3, "<init>", "(LWalkTeller$Tape;I)V"⟩
abbrev cX3_readEdition : ByteArray := prog_5_method_2_code
def yX3_readEdition : MethodName := ⟨RX3, "readEdition", "()LWalkTeller$Edition;"⟩
abbrev cX3_readPiece : ByteArray := prog_5_method_3_code
def yX3_readPiece : MethodName := ⟨RX3, "readPiece", "()LWalkTeller$Piece;"⟩
abbrev cX3_takeSign : ByteArray := prog_5_method_4_code
def yX3_takeSign : MethodName := ⟨RX3, "takeSign", "(C)Z"⟩
abbrev cX3_takeKind : ByteArray := prog_5_method_5_code
def yX3_takeKind : MethodName := ⟨RX3, "takeKind", "()I"⟩
abbrev cX3_takeOneOf : ByteArray := prog_5_method_6_code
def yX3_takeOneOf : MethodName := ⟨RX3, "takeOneOf", "(CI)I"⟩
abbrev cX3_takeRising : ByteArray := prog_5_method_7_code
def yX3_takeRising : MethodName := ⟨RX3, "takeRising", "(CI)I"⟩
def RX4 : String := "WalkTeller$Search"
def TX4 : u_T := fun k => match k with
  | 0 => ("WalkTeller$Search", "net", "LWalkTeller$Net;", true)
  | 1 => ("WalkTeller$Search", "distances", "[I", true)
  | 2 => ("WalkTeller$Search", "reached", "[I", false)
  | 3 => ("WalkTeller$Search", "times", "[I", false)
  | 4 => ("WalkTeller$Search", "edition", "LWalkTeller$Edition;", false)
  | 5 => ("WalkTeller$Search", "day", "I", false)
  | 6 => ("WalkTeller$Search", "firstSet", "I", false)
  | _ => ("WalkTeller$Search", "setCount", "I", false)
def tyX4 : Nat → FieldType := fun k => match k with
  | 0 => .object "WalkTeller$Net"
  | 1 => .array .int
  | 2 => .array .int
  | 3 => .array .int
  | 4 => .object "WalkTeller$Edition"
  | 5 => .int
  | 6 => .int
  | _ => .int
abbrev wsX40 : List Cond := u_ws RX4 TX4 8
theorem nmX4 : ∀ a, a < 8 → ∀ b, b < 8 → a ≠ b → (TX4 a).2.1 ≠ (TX4 b).2.1 := by decide +kernel
theorem tyX4_ok : ∀ k, k < 8 → parseFieldDescriptor (TX4 k).2.2.1 = some (tyX4 k) := by decide +kernel
abbrev cX4_init : ByteArray := prog_6_method_1_code
def yX4_init : MethodName := ⟨RX4, "<init>", "()V"⟩
abbrev cX4_distance : ByteArray := prog_6_method_2_code
def yX4_distance : MethodName := ⟨RX4, "distance", "(LWalkTeller$Town;IIIZ)I"⟩
abbrev cX4_explore : ByteArray := prog_6_method_3_code
def yX4_explore : MethodName := ⟨RX4, "explore", "(LWalkTeller$Town;LWalkTeller$Edition;IIIZ)V"⟩
abbrev cX4_clearReached : ByteArray := prog_6_method_4_code
def yX4_clearReached : MethodName := ⟨RX4, "clearReached", "()V"⟩
abbrev cX4_reachFrom : ByteArray := prog_6_method_5_code
def yX4_reachFrom : MethodName := ⟨RX4, "reachFrom", "(I)V"⟩
abbrev cX4_reachNext : ByteArray := prog_6_method_6_code
def yX4_reachNext : MethodName := ⟨RX4, "reachNext", "(II)V"⟩
abbrev cX4_timeSet : ByteArray := prog_6_method_7_code
def yX4_timeSet : MethodName := ⟨RX4, "timeSet", "(I)V"⟩
abbrev cX4_timeToldHere : ByteArray := prog_6_method_8_code
def yX4_timeToldHere : MethodName := ⟨RX4, "timeToldHere", "(II)I"⟩
abbrev cX4_timeFrom : ByteArray := prog_6_method_9_code
def yX4_timeFrom : MethodName := ⟨RX4, "timeFrom", "(II)I"⟩
abbrev cX4_timeBy : ByteArray := prog_6_method_10_code
def yX4_timeBy : MethodName := ⟨RX4, "timeBy", "(III)I"⟩
abbrev cX4_countMoments : ByteArray := prog_6_method_11_code
def yX4_countMoments : MethodName := ⟨RX4, "countMoments", "()I"⟩
abbrev cX4_countDeadEnds : ByteArray := prog_6_method_12_code
def yX4_countDeadEnds : MethodName := ⟨RX4, "countDeadEnds", "()I"⟩
abbrev cX4_countTwoVoices : ByteArray := prog_6_method_13_code
def yX4_countTwoVoices : MethodName := ⟨RX4, "countTwoVoices", "()I"⟩
abbrev cX4_heardInSome : ByteArray := prog_6_method_14_code
def yX4_heardInSome : MethodName := ⟨RX4, "heardInSome", "()I"⟩
abbrev cX4_cornerOnQuickest : ByteArray := prog_6_method_15_code
def yX4_cornerOnQuickest : MethodName := ⟨RX4, "cornerOnQuickest", "(II)I"⟩
abbrev cX4_quickestStep : ByteArray := prog_6_method_16_code
def yX4_quickestStep : MethodName := ⟨RX4, "quickestStep", "(II)I"⟩
def RX5 : String := "WalkTeller$Sheet"
def TX5 : u_T := fun k => match k with
  | 0 => ("WalkTeller$Sheet", "bits", "I", true)
  | _ => ("WalkTeller$Sheet", "numbers", "[I", true)
def tyX5 : Nat → FieldType := fun k => match k with
  | 0 => .int
  | _ => .array .int
abbrev wsX50 : List Cond := u_ws RX5 TX5 2
theorem nmX5 : ∀ a, a < 2 → ∀ b, b < 2 → a ≠ b → (TX5 a).2.1 ≠ (TX5 b).2.1 := by decide +kernel
theorem tyX5_ok : ∀ k, k < 2 → parseFieldDescriptor (TX5 k).2.2.1 = some (tyX5 k) := by decide +kernel
abbrev cX5_init : ByteArray := prog_7_method_1_code
def yX5_init : MethodName := ⟨RX5, "<init>", "(II)V"⟩
abbrev cX5_lowestBits : ByteArray := prog_7_method_2_code
def yX5_lowestBits : MethodName := ⟨RX5, "lowestBits", "(I)I"⟩
abbrev cX5_hasRange : ByteArray := prog_7_method_3_code
def yX5_hasRange : MethodName := ⟨RX5, "hasRange", "(II)Z"⟩
def RX6 : String := "WalkTeller$Tape"
def TX6 : u_T := fun k => match k with
  | 0 => ("WalkTeller$Tape", "bytes", "[B", true)
  | _ => ("WalkTeller$Tape", "length", "I", false)
def tyX6 : Nat → FieldType := fun k => match k with
  | 0 => .array .byte
  | _ => .int
abbrev wsX60 : List Cond := u_ws RX6 TX6 2
theorem nmX6 : ∀ a, a < 2 → ∀ b, b < 2 → a ≠ b → (TX6 a).2.1 ≠ (TX6 b).2.1 := by decide +kernel
theorem tyX6_ok : ∀ k, k < 2 → parseFieldDescriptor (TX6 k).2.2.1 = some (tyX6 k) := by decide +kernel
abbrev cX6_init : ByteArray := prog_8_method_1_code
def yX6_init : MethodName := ⟨RX6, "<init>", "()V"⟩
abbrev cX6_append : ByteArray := prog_8_method_2_code
def yX6_append : MethodName := ⟨RX6, "append", "(JI)V"⟩
abbrev cX6_byteAt : ByteArray := prog_8_method_3_code
def yX6_byteAt : MethodName := ⟨RX6, "byteAt", "(I)I"⟩
def RX7 : String := "WalkTeller$Town"
def TX7 : u_T := fun k => match k with
  | 0 => ("WalkTeller$Town", "xs", "[I", true)
  | 1 => ("WalkTeller$Town", "ys", "[I", true)
  | 2 => ("WalkTeller$Town", "ways", "[LWalkTeller$Way;", true)
  | 3 => ("WalkTeller$Town", "cornerCount", "I", false)
  | _ => ("WalkTeller$Town", "wayCount", "I", false)
def tyX7 : Nat → FieldType := fun k => match k with
  | 0 => .array .int
  | 1 => .array .int
  | 2 => .array (.object "WalkTeller$Way")
  | 3 => .int
  | _ => .int
abbrev wsX70 : List Cond := u_ws RX7 TX7 5
theorem nmX7 : ∀ a, a < 5 → ∀ b, b < 5 → a ≠ b → (TX7 a).2.1 ≠ (TX7 b).2.1 := by decide +kernel
theorem tyX7_ok : ∀ k, k < 5 → parseFieldDescriptor (TX7 k).2.2.1 = some (tyX7 k) := by decide +kernel
abbrev cX7_init : ByteArray := prog_9_method_1_code
def yX7_init : MethodName := ⟨RX7, "<init>", "()V"⟩
abbrev cX7_addCorner : ByteArray := prog_9_method_2_code
def yX7_addCorner : MethodName := ⟨RX7, "addCorner", "(II)I"⟩
abbrev cX7_addWay : ByteArray := prog_9_method_3_code
def yX7_addWay : MethodName := ⟨RX7, "addWay", "(LWalkTeller$Way;)I"⟩
abbrev cX7_hasCorner : ByteArray := prog_9_method_4_code
def yX7_hasCorner : MethodName := ⟨RX7, "hasCorner", "(I)Z"⟩
abbrev cX7_findWay : ByteArray := prog_9_method_5_code
def yX7_findWay : MethodName := ⟨RX7, "findWay", "(I)LWalkTeller$Way;"⟩
abbrev cX7_isJoined : ByteArray := prog_9_method_6_code
def yX7_isJoined : MethodName := ⟨RX7, "isJoined", "(IIIZ)Z"⟩
abbrev cX7_possibleCorners : ByteArray := prog_9_method_7_code
def yX7_possibleCorners : MethodName := ⟨RX7, "possibleCorners", "(III)I"⟩
def RX8 : String := "WalkTeller$Walker"
def TX8 : u_T := fun k => match k with
  | 0 => ("WalkTeller$Walker", "edition", "LWalkTeller$Edition;", true)
  | 1 => ("WalkTeller$Walker", "editionNumber", "I", true)
  | 2 => ("WalkTeller$Walker", "stairs", "Z", true)
  | 3 => ("WalkTeller$Walker", "corner", "I", false)
  | 4 => ("WalkTeller$Walker", "heard", "I", false)
  | 5 => ("WalkTeller$Walker", "time", "I", false)
  | 6 => ("WalkTeller$Walker", "lastTold", "I", false)
  | 7 => ("WalkTeller$Walker", "sighted", "I", false)
  | _ => ("WalkTeller$Walker", "sightings", "I", false)
def tyX8 : Nat → FieldType := fun k => match k with
  | 0 => .object "WalkTeller$Edition"
  | 1 => .int
  | 2 => .boolean
  | 3 => .int
  | 4 => .int
  | 5 => .int
  | 6 => .int
  | 7 => .int
  | _ => .int
abbrev wsX80 : List Cond := u_ws RX8 TX8 9
theorem nmX8 : ∀ a, a < 9 → ∀ b, b < 9 → a ≠ b → (TX8 a).2.1 ≠ (TX8 b).2.1 := by decide +kernel
theorem tyX8_ok : ∀ k, k < 9 → parseFieldDescriptor (TX8 k).2.2.1 = some (tyX8 k) := by decide +kernel
abbrev cX8_init : ByteArray := prog_10_method_1_code
def yX8_init : MethodName := ⟨RX8, "<init>", "(LWalkTeller$Edition;IZ)V"⟩
abbrev cX8_isOver : ByteArray := prog_10_method_2_code
def yX8_isOver : MethodName := ⟨RX8, "isOver", "()Z"⟩
abbrev cX8_listen : ByteArray := prog_10_method_3_code
def yX8_listen : MethodName := ⟨RX8, "listen", "(I)I"⟩
abbrev cX8_arrive : ByteArray := prog_10_method_4_code
def yX8_arrive : MethodName := ⟨RX8, "arrive", "(II)I"⟩
abbrev cX8_takeReading : ByteArray := prog_10_method_5_code
def yX8_takeReading : MethodName := ⟨RX8, "takeReading", "(LWalkTeller$Town;IIII)V"⟩
abbrev cX8_sight : ByteArray := prog_10_method_6_code
def yX8_sight : MethodName := ⟨RX8, "sight", "(LWalkTeller$Town;II)V"⟩
abbrev cX8_forgetSightings : ByteArray := prog_10_method_7_code
def yX8_forgetSightings : MethodName := ⟨RX8, "forgetSightings", "()V"⟩
def RX9 : String := "WalkTeller$Way"
def TX9 : u_T := fun k => match k with
  | 0 => ("WalkTeller$Way", "a", "I", true)
  | 1 => ("WalkTeller$Way", "b", "I", true)
  | 2 => ("WalkTeller$Way", "length", "I", true)
  | 3 => ("WalkTeller$Way", "stairs", "Z", true)
  | _ => ("WalkTeller$Way", "shutDays", "I", false)
def tyX9 : Nat → FieldType := fun k => match k with
  | 0 => .int
  | 1 => .int
  | 2 => .int
  | 3 => .boolean
  | _ => .int
abbrev wsX90 : List Cond := u_ws RX9 TX9 5
theorem nmX9 : ∀ a, a < 5 → ∀ b, b < 5 → a ≠ b → (TX9 a).2.1 ≠ (TX9 b).2.1 := by decide +kernel
theorem tyX9_ok : ∀ k, k < 5 → parseFieldDescriptor (TX9 k).2.2.1 = some (tyX9 k) := by decide +kernel
abbrev cX9_init : ByteArray := prog_11_method_1_code
def yX9_init : MethodName := ⟨RX9, "<init>", "(IIIZ)V"⟩
abbrev cX9_leadsFrom : ByteArray := prog_11_method_2_code
def yX9_leadsFrom : MethodName := ⟨RX9, "leadsFrom", "(I)Z"⟩
abbrev cX9_otherEnd : ByteArray := prog_11_method_3_code
def yX9_otherEnd : MethodName := ⟨RX9, "otherEnd", "(I)I"⟩
abbrev cX9_isShut : ByteArray := prog_11_method_4_code
def yX9_isShut : MethodName := ⟨RX9, "isShut", "(I)Z"⟩
abbrev cX9_isFor : ByteArray := prog_11_method_5_code
def yX9_isFor : MethodName := ⟨RX9, "isFor", "(Z)Z"⟩
abbrev cX9_isOpen : ByteArray := prog_11_method_6_code
def yX9_isOpen : MethodName := ⟨RX9, "isOpen", "(IZ)Z"⟩
def RX10 : String := "WalkTeller"
def TX10 : u_T := fun k => match k with
  | 0 => ("WalkTeller", "town", "LWalkTeller$Town;", true)
  | 1 => ("WalkTeller", "tape", "LWalkTeller$Tape;", true)
  | 2 => ("WalkTeller", "editions", "[LWalkTeller$Edition;", true)
  | 3 => ("WalkTeller", "walkers", "[LWalkTeller$Walker;", true)
  | 4 => ("WalkTeller", "sheets", "[LWalkTeller$Sheet;", true)
  | 5 => ("WalkTeller", "search", "LWalkTeller$Search;", true)
  | 6 => ("WalkTeller", "editionCount", "I", false)
  | 7 => ("WalkTeller", "walkerCount", "I", false)
  | 8 => ("WalkTeller", "dayNow", "I", false)
  | _ => ("WalkTeller", "findings", "I", false)
def tyX10 : Nat → FieldType := fun k => match k with
  | 0 => .object "WalkTeller$Town"
  | 1 => .object "WalkTeller$Tape"
  | 2 => .array (.object "WalkTeller$Edition")
  | 3 => .array (.object "WalkTeller$Walker")
  | 4 => .array (.object "WalkTeller$Sheet")
  | 5 => .object "WalkTeller$Search"
  | 6 => .int
  | 7 => .int
  | 8 => .int
  | _ => .int
abbrev wsX100 : List Cond := u_ws RX10 TX10 10
theorem nmX10 : ∀ a, a < 10 → ∀ b, b < 10 → a ≠ b → (TX10 a).2.1 ≠ (TX10 b).2.1 := by decide +kernel
theorem tyX10_ok : ∀ k, k < 10 → parseFieldDescriptor (TX10 k).2.2.1 = some (tyX10 k) := by decide +kernel
abbrev cX10_init : ByteArray := prog_1_method_1_code
def yX10_init : MethodName := ⟨RX10, "<init>", "()V"⟩
abbrev cX10_corner : ByteArray := prog_1_method_2_code
def yX10_corner : MethodName := ⟨RX10, "corner", "(II)I"⟩
abbrev cX10_way : ByteArray := prog_1_method_3_code
def yX10_way : MethodName := ⟨RX10, "way", "(IIIZ)I"⟩
abbrev cX10_shut : ByteArray := prog_1_method_4_code
def yX10_shut : MethodName := ⟨RX10, "shut", "(II)I"⟩
abbrev cX10_far : ByteArray := prog_1_method_5_code
def yX10_far : MethodName := ⟨RX10, "far", "(IIIZ)I"⟩
abbrev cX10_feed : ByteArray := prog_1_method_6_code
def yX10_feed : MethodName := ⟨RX10, "feed", "(JI)I"⟩
abbrev cX10_story : ByteArray := prog_1_method_7_code
def yX10_story : MethodName := ⟨RX10, "story", "()I"⟩
abbrev cX10_as : ByteArray := prog_1_method_8_code
def yX10_as : MethodName := ⟨RX10, "as", "(III)I"⟩
abbrev cX10_of : ByteArray := prog_1_method_9_code
def yX10_of : MethodName := ⟨RX10, "of", "(III)I"⟩
abbrev cX10_check : ByteArray := prog_1_method_10_code
def yX10_check : MethodName := ⟨RX10, "check", "(IIIZI)I"⟩
abbrev cX10_quickest : ByteArray := prog_1_method_11_code
def yX10_quickest : MethodName := ⟨RX10, "quickest", "(IIIZ)I"⟩
abbrev cX10_route : ByteArray := prog_1_method_12_code
def yX10_route : MethodName := ⟨RX10, "route", "(IIIZI)I"⟩
abbrev cX10_walker : ByteArray := prog_1_method_13_code
def yX10_walker : MethodName := ⟨RX10, "walker", "(IZ)I"⟩
abbrev cX10_today : ByteArray := prog_1_method_14_code
def yX10_today : MethodName := ⟨RX10, "today", "(I)I"⟩
abbrev cX10_go : ByteArray := prog_1_method_15_code
def yX10_go : MethodName := ⟨RX10, "go", "(II)I"⟩
abbrev cX10_about : ByteArray := prog_1_method_16_code
def yX10_about : MethodName := ⟨RX10, "about", "(II)I"⟩
abbrev cX10_offer : ByteArray := prog_1_method_17_code
def yX10_offer : MethodName := ⟨RX10, "offer", "(I)I"⟩
abbrev cX10_rest : ByteArray := prog_1_method_18_code
def yX10_rest : MethodName := ⟨RX10, "rest", "(I)I"⟩
abbrev cX10_lost : ByteArray := prog_1_method_19_code
def yX10_lost : MethodName := ⟨RX10, "lost", "(I)I"⟩
abbrev cX10_seen : ByteArray := prog_1_method_20_code
def yX10_seen : MethodName := ⟨RX10, "seen", "(IIII)I"⟩
abbrev cX10_sheet : ByteArray := prog_1_method_21_code
def yX10_sheet : MethodName := ⟨RX10, "sheet", "(III)I"⟩
abbrev cX10_write : ByteArray := prog_1_method_22_code
def yX10_write : MethodName := ⟨RX10, "write", "(III)I"⟩
abbrev cX10_copy : ByteArray := prog_1_method_23_code
def yX10_copy : MethodName := ⟨RX10, "copy", "(IIIII)I"⟩
abbrev cX10_trace : ByteArray := prog_1_method_24_code
def yX10_trace : MethodName := ⟨RX10, "trace", "(II)I"⟩
abbrev cX10_told : ByteArray := prog_1_method_25_code
def yX10_told : MethodName := ⟨RX10, "told", "(I)I"⟩
abbrev cX10_finding : ByteArray := prog_1_method_26_code
def yX10_finding : MethodName := ⟨RX10, "finding", "(I)I"⟩
abbrev cX10_timeOrNone : ByteArray := prog_1_method_27_code
def yX10_timeOrNone : MethodName := ⟨RX10, "timeOrNone", "(I)I"⟩
abbrev cX10_findEdition : ByteArray := prog_1_method_28_code
def yX10_findEdition : MethodName := ⟨RX10, "findEdition", "(I)LWalkTeller$Edition;"⟩
abbrev cX10_findPiece : ByteArray := prog_1_method_29_code
def yX10_findPiece : MethodName := ⟨RX10, "findPiece", "(II)LWalkTeller$Piece;"⟩
abbrev cX10_findWalker : ByteArray := prog_1_method_30_code
def yX10_findWalker : MethodName := ⟨RX10, "findWalker", "(I)LWalkTeller$Walker;"⟩
abbrev cX10_searchAnew : ByteArray := prog_1_method_31_code
def yX10_searchAnew : MethodName := ⟨RX10, "searchAnew", "(IIIZ)Z"⟩
abbrev cX10_searchFrom : ByteArray := prog_1_method_32_code
def yX10_searchFrom : MethodName := ⟨RX10, "searchFrom", "(LWalkTeller$Walker;)V"⟩
abbrev cX10_bestNextCorner : ByteArray := prog_1_method_33_code
def yX10_bestNextCorner : MethodName := ⟨RX10, "bestNextCorner", "(LWalkTeller$Walker;)I"⟩
abbrev cX10_countWalking : ByteArray := prog_1_method_34_code
def yX10_countWalking : MethodName := ⟨RX10, "countWalking", "(I)I"⟩
abbrev cX10_isWithin : ByteArray := prog_1_method_35_code
def yX10_isWithin : MethodName := ⟨RX10, "isWithin", "(III)Z"⟩
abbrev cX10_isDay : ByteArray := prog_1_method_36_code
def yX10_isDay : MethodName := ⟨RX10, "isDay", "(I)Z"⟩
abbrev cX10_isDoubt : ByteArray := prog_1_method_37_code
def yX10_isDoubt : MethodName := ⟨RX10, "isDoubt", "(I)Z"⟩
abbrev cX10_isSheet : ByteArray := prog_1_method_38_code
def yX10_isSheet : MethodName := ⟨RX10, "isSheet", "(I)Z"⟩
abbrev cX10_isSheetBits : ByteArray := prog_1_method_39_code
def yX10_isSheetBits : MethodName := ⟨RX10, "isSheetBits", "(I)Z"⟩
abbrev cX10_has : ByteArray := prog_1_method_40_code
def yX10_has : MethodName := ⟨RX10, "has", "(II)Z"⟩
def RX11 : String := "WalkTellerModel"
def TX11 : u_T := fun k => match k with
  | 0 => ("WalkTellerModel", "corners", "I", false)
  | 1 => ("WalkTellerModel", "atX", "[I", true)
  | 2 => ("WalkTellerModel", "atY", "[I", true)
  | 3 => ("WalkTellerModel", "ways", "I", false)
  | 4 => ("WalkTellerModel", "oneEnd", "[I", true)
  | 5 => ("WalkTellerModel", "otherEnd", "[I", true)
  | 6 => ("WalkTellerModel", "lengths", "[I", true)
  | 7 => ("WalkTellerModel", "hasStairs", "[Z", true)
  | 8 => ("WalkTellerModel", "shuts", "[I", true)
  | 9 => ("WalkTellerModel", "editions", "I", false)
  | 10 => ("WalkTellerModel", "pieces", "[I", true)
  | 11 => ("WalkTellerModel", "kindOf", "[I", true)
  | 12 => ("WalkTellerModel", "cornerOf", "[I", true)
  | 13 => ("WalkTellerModel", "lengthOf", "[I", true)
  | 14 => ("WalkTellerModel", "needsOf", "[I", true)
  | 15 => ("WalkTellerModel", "daysOf", "[I", true)
  | 16 => ("WalkTellerModel", "tape", "[I", true)
  | 17 => ("WalkTellerModel", "taped", "I", false)
  | 18 => ("WalkTellerModel", "walkers", "I", false)
  | 19 => ("WalkTellerModel", "cornerNow", "[I", true)
  | 20 => ("WalkTellerModel", "heard", "[I", true)
  | 21 => ("WalkTellerModel", "took", "[I", true)
  | 22 => ("WalkTellerModel", "editionNow", "[I", true)
  | 23 => ("WalkTellerModel", "climbs", "[Z", true)
  | 24 => ("WalkTellerModel", "last", "[I", true)
  | 25 => ("WalkTellerModel", "alone", "[I", true)
  | 26 => ("WalkTellerModel", "often", "[I", true)
  | 27 => ("WalkTellerModel", "dayNow", "I", false)
  | 28 => ("WalkTellerModel", "bits", "[I", true)
  | 29 => ("WalkTellerModel", "sizes", "[I", true)
  | 30 => ("WalkTellerModel", "sheets", "[I", true)
  | 31 => ("WalkTellerModel", "findings", "I", false)
  | 32 => ("WalkTellerModel", "read", "I", false)
  | 33 => ("WalkTellerModel", "at", "I", false)
  | 34 => ("WalkTellerModel", "readKind", "[I", true)
  | 35 => ("WalkTellerModel", "readCorner", "[I", true)
  | 36 => ("WalkTellerModel", "readLength", "[I", true)
  | 37 => ("WalkTellerModel", "readNeeds", "[I", true)
  | 38 => ("WalkTellerModel", "readDays", "[I", true)
  | 39 => ("WalkTellerModel", "times", "[I", true)
  | 40 => ("WalkTellerModel", "met", "[Z", true)
  | 41 => ("WalkTellerModel", "row", "[I", true)
  | 42 => ("WalkTellerModel", "many", "I", false)
  | _ => ("WalkTellerModel", "carried", "[I", true)
def tyX11 : Nat → FieldType := fun k => match k with
  | 0 => .int
  | 1 => .array .int
  | 2 => .array .int
  | 3 => .int
  | 4 => .array .int
  | 5 => .array .int
  | 6 => .array .int
  | 7 => .array .boolean
  | 8 => .array .int
  | 9 => .int
  | 10 => .array .int
  | 11 => .array .int
  | 12 => .array .int
  | 13 => .array .int
  | 14 => .array .int
  | 15 => .array .int
  | 16 => .array .int
  | 17 => .int
  | 18 => .int
  | 19 => .array .int
  | 20 => .array .int
  | 21 => .array .int
  | 22 => .array .int
  | 23 => .array .boolean
  | 24 => .array .int
  | 25 => .array .int
  | 26 => .array .int
  | 27 => .int
  | 28 => .array .int
  | 29 => .array .int
  | 30 => .array .int
  | 31 => .int
  | 32 => .int
  | 33 => .int
  | 34 => .array .int
  | 35 => .array .int
  | 36 => .array .int
  | 37 => .array .int
  | 38 => .array .int
  | 39 => .array .int
  | 40 => .array .boolean
  | 41 => .array .int
  | 42 => .int
  | _ => .array .int
abbrev wsX110 : List Cond := u_ws RX11 TX11 44
theorem nmX11 : ∀ a, a < 44 → ∀ b, b < 44 → a ≠ b → (TX11 a).2.1 ≠ (TX11 b).2.1 := by decide +kernel
theorem tyX11_ok : ∀ k, k < 44 → parseFieldDescriptor (TX11 k).2.2.1 = some (tyX11 k) := by decide +kernel
abbrev cX11_init : ByteArray := prog_13_method_1_code
def yX11_init : MethodName := ⟨RX11, "<init>", "()V"⟩
abbrev cX11_finding : ByteArray := prog_13_method_2_code
def yX11_finding : MethodName := ⟨RX11, "finding", "(I)I"⟩
abbrev cX11_within : ByteArray := prog_13_method_3_code
def yX11_within : MethodName := ⟨RX11, "within", "(III)Z"⟩
abbrev cX11_isCorner : ByteArray := prog_13_method_4_code
def yX11_isCorner : MethodName := ⟨RX11, "isCorner", "(I)Z"⟩
abbrev cX11_isWay : ByteArray := prog_13_method_5_code
def yX11_isWay : MethodName := ⟨RX11, "isWay", "(I)Z"⟩
abbrev cX11_isWalker : ByteArray := prog_13_method_6_code
def yX11_isWalker : MethodName := ⟨RX11, "isWalker", "(I)Z"⟩
abbrev cX11_isDay : ByteArray := prog_13_method_7_code
def yX11_isDay : MethodName := ⟨RX11, "isDay", "(I)Z"⟩
abbrev cX11_corner : ByteArray := prog_13_method_8_code
def yX11_corner : MethodName := ⟨RX11, "corner", "(II)I"⟩
abbrev cX11_way : ByteArray := prog_13_method_9_code
def yX11_way : MethodName := ⟨RX11, "way", "(IIIZ)I"⟩
abbrev cX11_shut : ByteArray := prog_13_method_10_code
def yX11_shut : MethodName := ⟨RX11, "shut", "(II)I"⟩
abbrev cX11_isOpen : ByteArray := prog_13_method_11_code
def yX11_isOpen : MethodName := ⟨RX11, "isOpen", "(IIZ)Z"⟩
abbrev cX11_far : ByteArray := prog_13_method_12_code
def yX11_far : MethodName := ⟨RX11, "far", "(IIIZ)I"⟩
abbrev cX11_feed : ByteArray := prog_13_method_13_code
def yX11_feed : MethodName := ⟨RX11, "feed", "(JI)I"⟩
abbrev cX11_byteAt : ByteArray := prog_13_method_14_code
def yX11_byteAt : MethodName := ⟨RX11, "byteAt", "(I)I"⟩
abbrev cX11_kindBy : ByteArray := prog_13_method_15_code
def yX11_kindBy : MethodName := ⟨RX11, "kindBy", "(I)I"⟩
abbrev cX11_readsPiece : ByteArray := prog_13_method_16_code
def yX11_readsPiece : MethodName := ⟨RX11, "readsPiece", "()Z"⟩
abbrev cX11_readsDays : ByteArray := prog_13_method_17_code
def yX11_readsDays : MethodName := ⟨RX11, "readsDays", "()Z"⟩
abbrev cX11_newEdition : ByteArray := prog_13_method_18_code
def yX11_newEdition : MethodName := ⟨RX11, "newEdition", "()I"⟩
abbrev cX11_story : ByteArray := prog_13_method_19_code
def yX11_story : MethodName := ⟨RX11, "story", "()I"⟩
abbrev cX11_isEdition : ByteArray := prog_13_method_20_code
def yX11_isEdition : MethodName := ⟨RX11, "isEdition", "(I)Z"⟩
abbrev cX11_isPiece : ByteArray := prog_13_method_21_code
def yX11_isPiece : MethodName := ⟨RX11, "isPiece", "(II)Z"⟩
abbrev cX11_as : ByteArray := prog_13_method_22_code
def yX11_as : MethodName := ⟨RX11, "as", "(III)I"⟩
abbrev cX11_of : ByteArray := prog_13_method_23_code
def yX11_of : MethodName := ⟨RX11, "of", "(III)I"⟩
abbrev cX11_canTell : ByteArray := prog_13_method_24_code
def yX11_canTell : MethodName := ⟨RX11, "canTell", "(IIIII)Z"⟩
abbrev cX11_manyCan : ByteArray := prog_13_method_25_code
def yX11_manyCan : MethodName := ⟨RX11, "manyCan", "(IIII)I"⟩
abbrev cX11_nextPiece : ByteArray := prog_13_method_26_code
def yX11_nextPiece : MethodName := ⟨RX11, "nextPiece", "(IIII)I"⟩
abbrev cX11_isOver : ByteArray := prog_13_method_27_code
def yX11_isOver : MethodName := ⟨RX11, "isOver", "(II)Z"⟩
abbrev cX11_momentOf : ByteArray := prog_13_method_28_code
def yX11_momentOf : MethodName := ⟨RX11, "momentOf", "(II)I"⟩
abbrev cX11_findTimes : ByteArray := prog_13_method_29_code
def yX11_findTimes : MethodName := ⟨RX11, "findTimes", "(IIZ)V"⟩
abbrev cX11_comesNearer : ByteArray := prog_13_method_30_code
def yX11_comesNearer : MethodName := ⟨RX11, "comesNearer", "([ZIIII)V"⟩
abbrev cX11_meets : ByteArray := prog_13_method_31_code
def yX11_meets : MethodName := ⟨RX11, "meets", "(I)V"⟩
abbrev cX11_findMoments : ByteArray := prog_13_method_32_code
def yX11_findMoments : MethodName := ⟨RX11, "findMoments", "(IIIIZ)V"⟩
abbrev cX11_allHeard : ByteArray := prog_13_method_33_code
def yX11_allHeard : MethodName := ⟨RX11, "allHeard", "()I"⟩
abbrev cX11_check : ByteArray := prog_13_method_34_code
def yX11_check : MethodName := ⟨RX11, "check", "(IIIZI)I"⟩
abbrev cX11_canAsk : ByteArray := prog_13_method_35_code
def yX11_canAsk : MethodName := ⟨RX11, "canAsk", "(III)Z"⟩
abbrev cX11_quickest : ByteArray := prog_13_method_36_code
def yX11_quickest : MethodName := ⟨RX11, "quickest", "(IIIZ)I"⟩
abbrev cX11_goesTo : ByteArray := prog_13_method_37_code
def yX11_goesTo : MethodName := ⟨RX11, "goesTo", "(IIIZ)I"⟩
abbrev cX11_route : ByteArray := prog_13_method_38_code
def yX11_route : MethodName := ⟨RX11, "route", "(IIIZI)I"⟩
abbrev cX11_listens : ByteArray := prog_13_method_39_code
def yX11_listens : MethodName := ⟨RX11, "listens", "(I)I"⟩
abbrev cX11_isDone : ByteArray := prog_13_method_40_code
def yX11_isDone : MethodName := ⟨RX11, "isDone", "(I)Z"⟩
abbrev cX11_walker : ByteArray := prog_13_method_41_code
def yX11_walker : MethodName := ⟨RX11, "walker", "(IZ)I"⟩
abbrev cX11_today : ByteArray := prog_13_method_42_code
def yX11_today : MethodName := ⟨RX11, "today", "(I)I"⟩
abbrev cX11_comes : ByteArray := prog_13_method_43_code
def yX11_comes : MethodName := ⟨RX11, "comes", "(II)I"⟩
abbrev cX11_go : ByteArray := prog_13_method_44_code
def yX11_go : MethodName := ⟨RX11, "go", "(II)I"⟩
abbrev cX11_about : ByteArray := prog_13_method_45_code
def yX11_about : MethodName := ⟨RX11, "about", "(II)I"⟩
abbrev cX11_wayTo : ByteArray := prog_13_method_46_code
def yX11_wayTo : MethodName := ⟨RX11, "wayTo", "(II)I"⟩
abbrev cX11_othersAt : ByteArray := prog_13_method_47_code
def yX11_othersAt : MethodName := ⟨RX11, "othersAt", "(II)I"⟩
abbrev cX11_offer : ByteArray := prog_13_method_48_code
def yX11_offer : MethodName := ⟨RX11, "offer", "(I)I"⟩
abbrev cX11_rest : ByteArray := prog_13_method_49_code
def yX11_rest : MethodName := ⟨RX11, "rest", "(I)I"⟩
abbrev cX11_lost : ByteArray := prog_13_method_50_code
def yX11_lost : MethodName := ⟨RX11, "lost", "(I)I"⟩
abbrev cX11_isPossible : ByteArray := prog_13_method_51_code
def yX11_isPossible : MethodName := ⟨RX11, "isPossible", "(IIII)Z"⟩
abbrev cX11_reads : ByteArray := prog_13_method_52_code
def yX11_reads : MethodName := ⟨RX11, "reads", "(IIII)V"⟩
abbrev cX11_seen : ByteArray := prog_13_method_53_code
def yX11_seen : MethodName := ⟨RX11, "seen", "(IIII)I"⟩
abbrev cX11_isSheet : ByteArray := prog_13_method_54_code
def yX11_isSheet : MethodName := ⟨RX11, "isSheet", "(I)Z"⟩
abbrev cX11_sheet : ByteArray := prog_13_method_55_code
def yX11_sheet : MethodName := ⟨RX11, "sheet", "(III)I"⟩
abbrev cX11_write : ByteArray := prog_13_method_56_code
def yX11_write : MethodName := ⟨RX11, "write", "(III)I"⟩
abbrev cX11_copy : ByteArray := prog_13_method_57_code
def yX11_copy : MethodName := ⟨RX11, "copy", "(IIIII)I"⟩
abbrev cX11_trace : ByteArray := prog_13_method_58_code
def yX11_trace : MethodName := ⟨RX11, "trace", "(II)I"⟩
abbrev cX11_told : ByteArray := prog_13_method_59_code
def yX11_told : MethodName := ⟨RX11, "told", "(I)I"⟩
def RJ6 : String := "java/lang/Integer"
abbrev cJ6_numberOfTrailingZeros_0f7a4 : ByteArray := prog_14_method_48_code
def yJ6_numberOfTrailingZeros_0f7a4 : MethodName := ⟨RJ6, "numberOfTrailingZeros", "(I)I"⟩
abbrev cJ6_bitCount_0f7a4 : ByteArray := prog_14_method_49_code
def yJ6_bitCount_0f7a4 : MethodName := ⟨RJ6, "bitCount", "(I)I"⟩
def RJ9 : String := "java/lang/Math"
abbrev cJ9_abs_067f4 : ByteArray := prog_15_method_61_code
def yJ9_abs_067f4 : MethodName := ⟨RJ9, "abs", "(J)J"⟩
abbrev cJ9_max_7cf53 : ByteArray := prog_15_method_65_code
def yJ9_max_7cf53 : MethodName := ⟨RJ9, "max", "(II)I"⟩
abbrev cJ9_min_7cf53 : ByteArray := prog_15_method_69_code
def yJ9_min_7cf53 : MethodName := ⟨RJ9, "min", "(II)I"⟩
def RJ0 : String := "java/lang/String"
abbrev cJ0_length_8abf5 : ByteArray := prog_16_method_54_code
def yJ0_length_8abf5 : MethodName := ⟨RJ0, "length", "()I"⟩
abbrev cJ0_charAt_5068e : ByteArray := prog_16_method_56_code
def yJ0_charAt_5068e : MethodName := ⟨RJ0, "charAt", "(I)C"⟩
abbrev cJ0_coder_7d493 : ByteArray := prog_16_method_152_code
def yJ0_coder_7d493 : MethodName := ⟨RJ0, "coder", "()B"⟩
abbrev cJ0_isLatin1_aae02 : ByteArray := prog_16_method_154_code
def yJ0_isLatin1_aae02 : MethodName := ⟨RJ0, "isLatin1", "()Z"⟩
abbrev cJ0_checkIndex_df160 : ByteArray := prog_16_method_155_code
def yJ0_checkIndex_df160 : MethodName := ⟨RJ0, "checkIndex", "(II)V"⟩
def RJ1 : String := "java/lang/StringLatin1"
abbrev cJ1_charAt_3b067 : ByteArray := prog_17_method_2_code
def yJ1_charAt_3b067 : MethodName := ⟨RJ1, "charAt", "([BI)C"⟩
def RJ2 : String := "java/lang/StringUTF16"
abbrev cJ2_getChar_3b067 : ByteArray := prog_18_method_5_code
def yJ2_getChar_3b067 : MethodName := ⟨RJ2, "getChar", "([BI)C"⟩
abbrev cJ2_length_9d52b : ByteArray := prog_18_method_6_code
def yJ2_length_9d52b : MethodName := ⟨RJ2, "length", "([B)I"⟩
abbrev cJ2_charAt_3b067 : ByteArray := prog_18_method_83_code
def yJ2_charAt_3b067 : MethodName := ⟨RJ2, "charAt", "([BI)C"⟩
abbrev cJ2_checkIndex_2214a : ByteArray := prog_18_method_91_code
def yJ2_checkIndex_2214a : MethodName := ⟨RJ2, "checkIndex", "(I[B)V"⟩
def RJ10 : String := "java/lang/System"
def RJ7 : String := "java/util/Arrays"
abbrev cJ7_fill_53178 : ByteArray := prog_20_method_103_code
def yJ7_fill_53178 : MethodName := ⟨RJ7, "fill", "([II)V"⟩
def RJ3 : String := "jdk/internal/util/Preconditions"
abbrev cJ3_checkIndex_8e157 : ByteArray := prog_21_method_11_code
def yJ3_checkIndex_8e157 : MethodName := ⟨RJ3, "checkIndex", "(IILjava/util/function/BiFunction;)I"⟩
abbrev vwCl : List vw_C := [(RX0, TX0, 3), (RX1, TX1, 2), (RX2, TX2, 5), (RX3, TX3, 3), (RX4, TX4, 8), (RX5, TX5, 2), (RX6, TX6, 2), (RX7, TX7, 5), (RX8, TX8, 9), (RX9, TX9, 5), (RX10, TX10, 10), (RX11, TX11, 44)]
def R_law : String := "WalkTellerLaw"
