section
-- ===== PART A: goes FIRST, ahead of the names: the tables' words, and 'selects' of the private methods out of them =====
/-- a private method of a class that the tables say can be made, by its rows of tables_1 -/
def lw_okq (q : MethodName × Nat) : Prop := (q.1.cls ≠ "java/lang/invoke/MethodHandle" ∧ q.1.cls ≠ "java/lang/invoke/VarHandle") ∧ Cond.instantiable q.1.cls q.2 ∈ tables_1 ∧ Cond.privateMethod q.1 ∈ tables_1 ∧ Cond.instanceMethod q.1 ∈ tables_1
theorem lw_p0 : lw_okq (⟨"ScratchMap$InputText", "beginSpot", "()V"⟩, 9) := ⟨⟨by decide +kernel, by decide +kernel⟩, List.mem_of_getElem? (i := 138) (by decide +kernel), List.mem_of_getElem? (i := 212) (by decide +kernel), List.mem_of_getElem? (i := 213) (by decide +kernel)⟩
theorem lw_p1 : lw_okq (⟨"ScratchMap$InputText", "take", "(I)Z"⟩, 9) := ⟨⟨by decide +kernel, by decide +kernel⟩, List.mem_of_getElem? (i := 138) (by decide +kernel), List.mem_of_getElem? (i := 220) (by decide +kernel), List.mem_of_getElem? (i := 221) (by decide +kernel)⟩
theorem lw_p2 : lw_okq (⟨"ScratchMap$InputText", "takeMinus", "()Z"⟩, 9) := ⟨⟨by decide +kernel, by decide +kernel⟩, List.mem_of_getElem? (i := 138) (by decide +kernel), List.mem_of_getElem? (i := 224) (by decide +kernel), List.mem_of_getElem? (i := 225) (by decide +kernel)⟩
theorem lw_p3 : lw_okq (⟨"ScratchMap$InputText", "takeComma", "()Z"⟩, 9) := ⟨⟨by decide +kernel, by decide +kernel⟩, List.mem_of_getElem? (i := 138) (by decide +kernel), List.mem_of_getElem? (i := 228) (by decide +kernel), List.mem_of_getElem? (i := 229) (by decide +kernel)⟩
theorem lw_p4 : lw_okq (⟨"ScratchMap$InputText", "endSpot", "()Z"⟩, 9) := ⟨⟨by decide +kernel, by decide +kernel⟩, List.mem_of_getElem? (i := 138) (by decide +kernel), List.mem_of_getElem? (i := 232) (by decide +kernel), List.mem_of_getElem? (i := 233) (by decide +kernel)⟩
theorem lw_p5 : lw_okq (⟨"ScratchMap$InputText", "takeDigit", "(I)Z"⟩, 9) := ⟨⟨by decide +kernel, by decide +kernel⟩, List.mem_of_getElem? (i := 138) (by decide +kernel), List.mem_of_getElem? (i := 239) (by decide +kernel), List.mem_of_getElem? (i := 240) (by decide +kernel)⟩
theorem lw_p6 : lw_okq (⟨"ScratchMap", "numberOf", "(I)I"⟩, 7) := ⟨⟨by decide +kernel, by decide +kernel⟩, List.mem_of_getElem? (i := 17) (by decide +kernel), List.mem_of_getElem? (i := 312) (by decide +kernel), List.mem_of_getElem? (i := 313) (by decide +kernel)⟩
theorem lw_p7 : lw_okq (⟨"ScratchMap", "blocksWithValues", "()I"⟩, 7) := ⟨⟨by decide +kernel, by decide +kernel⟩, List.mem_of_getElem? (i := 17) (by decide +kernel), List.mem_of_getElem? (i := 316) (by decide +kernel), List.mem_of_getElem? (i := 317) (by decide +kernel)⟩
theorem lw_p8 : lw_okq (⟨"ScratchMap", "blocksInSpares", "()I"⟩, 7) := ⟨⟨by decide +kernel, by decide +kernel⟩, List.mem_of_getElem? (i := 17) (by decide +kernel), List.mem_of_getElem? (i := 320) (by decide +kernel), List.mem_of_getElem? (i := 321) (by decide +kernel)⟩
theorem lw_p9 : lw_okq (⟨"ScratchMap", "freeSpares", "()I"⟩, 7) := ⟨⟨by decide +kernel, by decide +kernel⟩, List.mem_of_getElem? (i := 17) (by decide +kernel), List.mem_of_getElem? (i := 327) (by decide +kernel), List.mem_of_getElem? (i := 328) (by decide +kernel)⟩
theorem lw_p10 : lw_okq (⟨"ScratchMap", "hashSpotsAndLines", "(J)J"⟩, 7) := ⟨⟨by decide +kernel, by decide +kernel⟩, List.mem_of_getElem? (i := 17) (by decide +kernel), List.mem_of_getElem? (i := 342) (by decide +kernel), List.mem_of_getElem? (i := 343) (by decide +kernel)⟩
theorem lw_p11 : lw_okq (⟨"ScratchMap", "lineProperty", "(LScratchMap$Line;I)I"⟩, 7) := ⟨⟨by decide +kernel, by decide +kernel⟩, List.mem_of_getElem? (i := 17) (by decide +kernel), List.mem_of_getElem? (i := 354) (by decide +kernel), List.mem_of_getElem? (i := 355) (by decide +kernel)⟩
theorem lw_p12 : lw_okq (⟨"ScratchMap", "takenCellsToAvoid", "(LScratchMap$Line;)I"⟩, 7) := ⟨⟨by decide +kernel, by decide +kernel⟩, List.mem_of_getElem? (i := 17) (by decide +kernel), List.mem_of_getElem? (i := 364) (by decide +kernel), List.mem_of_getElem? (i := 365) (by decide +kernel)⟩
theorem lw_p13 : lw_okq (⟨"ScratchMap$Line", "trackAt", "(I)I"⟩, 9) := ⟨⟨by decide +kernel, by decide +kernel⟩, List.mem_of_getElem? (i := 70) (by decide +kernel), List.mem_of_getElem? (i := 372) (by decide +kernel), List.mem_of_getElem? (i := 373) (by decide +kernel)⟩
theorem lw_p14 : lw_okq (⟨"ScratchMap$Line", "sectorAt", "(I)I"⟩, 9) := ⟨⟨by decide +kernel, by decide +kernel⟩, List.mem_of_getElem? (i := 70) (by decide +kernel), List.mem_of_getElem? (i := 376) (by decide +kernel), List.mem_of_getElem? (i := 377) (by decide +kernel)⟩
theorem lw_p15 : lw_okq (⟨"ScratchMap", "hashAvoidedCells", "(J)J"⟩, 7) := ⟨⟨by decide +kernel, by decide +kernel⟩, List.mem_of_getElem? (i := 17) (by decide +kernel), List.mem_of_getElem? (i := 380) (by decide +kernel), List.mem_of_getElem? (i := 381) (by decide +kernel)⟩
def lw_privs_1 : List (MethodName × Nat) := [(⟨"ScratchMap$InputText", "beginSpot", "()V"⟩, 9), (⟨"ScratchMap$InputText", "take", "(I)Z"⟩, 9), (⟨"ScratchMap$InputText", "takeMinus", "()Z"⟩, 9), (⟨"ScratchMap$InputText", "takeComma", "()Z"⟩, 9), (⟨"ScratchMap$InputText", "endSpot", "()Z"⟩, 9), (⟨"ScratchMap$InputText", "takeDigit", "(I)Z"⟩, 9), (⟨"ScratchMap", "numberOf", "(I)I"⟩, 7), (⟨"ScratchMap", "blocksWithValues", "()I"⟩, 7), (⟨"ScratchMap", "blocksInSpares", "()I"⟩, 7), (⟨"ScratchMap", "freeSpares", "()I"⟩, 7), (⟨"ScratchMap", "hashSpotsAndLines", "(J)J"⟩, 7), (⟨"ScratchMap", "lineProperty", "(LScratchMap$Line;I)I"⟩, 7), (⟨"ScratchMap", "takenCellsToAvoid", "(LScratchMap$Line;)I"⟩, 7), (⟨"ScratchMap$Line", "trackAt", "(I)I"⟩, 9), (⟨"ScratchMap$Line", "sectorAt", "(I)I"⟩, 9), (⟨"ScratchMap", "hashAvoidedCells", "(J)J"⟩, 7)]
theorem lw_r1 : ∀ q ∈ lw_privs_1, lw_okq q := List.forall_mem_cons.mpr ⟨lw_p0, List.forall_mem_cons.mpr ⟨lw_p1, List.forall_mem_cons.mpr ⟨lw_p2, List.forall_mem_cons.mpr ⟨lw_p3, List.forall_mem_cons.mpr ⟨lw_p4, List.forall_mem_cons.mpr ⟨lw_p5, List.forall_mem_cons.mpr ⟨lw_p6, List.forall_mem_cons.mpr ⟨lw_p7, List.forall_mem_cons.mpr ⟨lw_p8, List.forall_mem_cons.mpr ⟨lw_p9, List.forall_mem_cons.mpr ⟨lw_p10, List.forall_mem_cons.mpr ⟨lw_p11, List.forall_mem_cons.mpr ⟨lw_p12, List.forall_mem_cons.mpr ⟨lw_p13, List.forall_mem_cons.mpr ⟨lw_p14, List.forall_mem_cons.mpr ⟨lw_p15, fun _ h => absurd h List.not_mem_nil⟩⟩⟩⟩⟩⟩⟩⟩⟩⟩⟩⟩⟩⟩⟩⟩
theorem lw_p16 : lw_okq (⟨"ScratchMap", "hashBlocks", "(J)J"⟩, 7) := ⟨⟨by decide +kernel, by decide +kernel⟩, List.mem_of_getElem? (i := 17) (by decide +kernel), List.mem_of_getElem? (i := 384) (by decide +kernel), List.mem_of_getElem? (i := 385) (by decide +kernel)⟩
theorem lw_p17 : lw_okq (⟨"ScratchMap", "hashForecasts", "(J)J"⟩, 7) := ⟨⟨by decide +kernel, by decide +kernel⟩, List.mem_of_getElem? (i := 17) (by decide +kernel), List.mem_of_getElem? (i := 388) (by decide +kernel), List.mem_of_getElem? (i := 389) (by decide +kernel)⟩
theorem lw_p18 : lw_okq (⟨"ScratchMap", "tryFailing", "(I)Z"⟩, 7) := ⟨⟨by decide +kernel, by decide +kernel⟩, List.mem_of_getElem? (i := 17) (by decide +kernel), List.mem_of_getElem? (i := 394) (by decide +kernel), List.mem_of_getElem? (i := 395) (by decide +kernel)⟩
theorem lw_p19 : lw_okq (⟨"ScratchMap$LineMap", "clear", "()V"⟩, 8) := ⟨⟨by decide +kernel, by decide +kernel⟩, List.mem_of_getElem? (i := 63) (by decide +kernel), List.mem_of_getElem? (i := 422) (by decide +kernel), List.mem_of_getElem? (i := 423) (by decide +kernel)⟩
theorem lw_p20 : lw_okq (⟨"ScratchMap$LineMap", "takeSpots", "(LScratchMap$State;)V"⟩, 8) := ⟨⟨by decide +kernel, by decide +kernel⟩, List.mem_of_getElem? (i := 63) (by decide +kernel), List.mem_of_getElem? (i := 426) (by decide +kernel), List.mem_of_getElem? (i := 427) (by decide +kernel)⟩
theorem lw_p21 : lw_okq (⟨"ScratchMap$LineMap", "addLine", "(LScratchMap$State;II)Z"⟩, 8) := ⟨⟨by decide +kernel, by decide +kernel⟩, List.mem_of_getElem? (i := 63) (by decide +kernel), List.mem_of_getElem? (i := 431) (by decide +kernel), List.mem_of_getElem? (i := 432) (by decide +kernel)⟩
theorem lw_p22 : lw_okq (⟨"ScratchMap$LineMap", "spotsInLineWith", "(II)I"⟩, 8) := ⟨⟨by decide +kernel, by decide +kernel⟩, List.mem_of_getElem? (i := 63) (by decide +kernel), List.mem_of_getElem? (i := 435) (by decide +kernel), List.mem_of_getElem? (i := 436) (by decide +kernel)⟩
theorem lw_p23 : lw_okq (⟨"ScratchMap$LineMap", "trackOf", "(I)I"⟩, 8) := ⟨⟨by decide +kernel, by decide +kernel⟩, List.mem_of_getElem? (i := 63) (by decide +kernel), List.mem_of_getElem? (i := 439) (by decide +kernel), List.mem_of_getElem? (i := 440) (by decide +kernel)⟩
theorem lw_p24 : lw_okq (⟨"ScratchMap$LineMap", "sectorOf", "(I)I"⟩, 8) := ⟨⟨by decide +kernel, by decide +kernel⟩, List.mem_of_getElem? (i := 63) (by decide +kernel), List.mem_of_getElem? (i := 443) (by decide +kernel), List.mem_of_getElem? (i := 444) (by decide +kernel)⟩
theorem lw_p25 : lw_okq (⟨"ScratchMap$Line", "stepsTo", "(II)I"⟩, 9) := ⟨⟨by decide +kernel, by decide +kernel⟩, List.mem_of_getElem? (i := 70) (by decide +kernel), List.mem_of_getElem? (i := 463) (by decide +kernel), List.mem_of_getElem? (i := 464) (by decide +kernel)⟩
theorem lw_p26 : lw_okq (⟨"ScratchMap$LineMap", "hitCells", "(LScratchMap$Line;)V"⟩, 8) := ⟨⟨by decide +kernel, by decide +kernel⟩, List.mem_of_getElem? (i := 63) (by decide +kernel), List.mem_of_getElem? (i := 485) (by decide +kernel), List.mem_of_getElem? (i := 486) (by decide +kernel)⟩
theorem lw_p27 : lw_okq (⟨"ScratchMap", "forecast", "(I)I"⟩, 7) := ⟨⟨by decide +kernel, by decide +kernel⟩, List.mem_of_getElem? (i := 17) (by decide +kernel), List.mem_of_getElem? (i := 491) (by decide +kernel), List.mem_of_getElem? (i := 492) (by decide +kernel)⟩
theorem lw_p28 : lw_okq (⟨"ScratchMap", "hashText", "(J)J"⟩, 7) := ⟨⟨by decide +kernel, by decide +kernel⟩, List.mem_of_getElem? (i := 17) (by decide +kernel), List.mem_of_getElem? (i := 505) (by decide +kernel), List.mem_of_getElem? (i := 506) (by decide +kernel)⟩
theorem lw_p29 : lw_okq (⟨"java/lang/Throwable", "fillInStackTrace", "(I)Ljava/lang/Throwable;"⟩, 6) := ⟨⟨by decide +kernel, by decide +kernel⟩, List.mem_of_getElem? (i := 559) (by decide +kernel), List.mem_of_getElem? (i := 557) (by decide +kernel), List.mem_of_getElem? (i := 558) (by decide +kernel)⟩
theorem lw_p30 : lw_okq (⟨"ScratchMap", "saveState", "()V"⟩, 7) := ⟨⟨by decide +kernel, by decide +kernel⟩, List.mem_of_getElem? (i := 17) (by decide +kernel), List.mem_of_getElem? (i := 627) (by decide +kernel), List.mem_of_getElem? (i := 628) (by decide +kernel)⟩
theorem lw_p31 : lw_okq (⟨"ScratchMap", "moveOldestToEnd", "()V"⟩, 7) := ⟨⟨by decide +kernel, by decide +kernel⟩, List.mem_of_getElem? (i := 17) (by decide +kernel), List.mem_of_getElem? (i := 631) (by decide +kernel), List.mem_of_getElem? (i := 632) (by decide +kernel)⟩
def lw_privs_2 : List (MethodName × Nat) := [(⟨"ScratchMap", "hashBlocks", "(J)J"⟩, 7), (⟨"ScratchMap", "hashForecasts", "(J)J"⟩, 7), (⟨"ScratchMap", "tryFailing", "(I)Z"⟩, 7), (⟨"ScratchMap$LineMap", "clear", "()V"⟩, 8), (⟨"ScratchMap$LineMap", "takeSpots", "(LScratchMap$State;)V"⟩, 8), (⟨"ScratchMap$LineMap", "addLine", "(LScratchMap$State;II)Z"⟩, 8), (⟨"ScratchMap$LineMap", "spotsInLineWith", "(II)I"⟩, 8), (⟨"ScratchMap$LineMap", "trackOf", "(I)I"⟩, 8), (⟨"ScratchMap$LineMap", "sectorOf", "(I)I"⟩, 8), (⟨"ScratchMap$Line", "stepsTo", "(II)I"⟩, 9), (⟨"ScratchMap$LineMap", "hitCells", "(LScratchMap$Line;)V"⟩, 8), (⟨"ScratchMap", "forecast", "(I)I"⟩, 7), (⟨"ScratchMap", "hashText", "(J)J"⟩, 7), (⟨"java/lang/Throwable", "fillInStackTrace", "(I)Ljava/lang/Throwable;"⟩, 6), (⟨"ScratchMap", "saveState", "()V"⟩, 7), (⟨"ScratchMap", "moveOldestToEnd", "()V"⟩, 7)]
theorem lw_r2 : ∀ q ∈ lw_privs_2, lw_okq q := List.forall_mem_cons.mpr ⟨lw_p16, List.forall_mem_cons.mpr ⟨lw_p17, List.forall_mem_cons.mpr ⟨lw_p18, List.forall_mem_cons.mpr ⟨lw_p19, List.forall_mem_cons.mpr ⟨lw_p20, List.forall_mem_cons.mpr ⟨lw_p21, List.forall_mem_cons.mpr ⟨lw_p22, List.forall_mem_cons.mpr ⟨lw_p23, List.forall_mem_cons.mpr ⟨lw_p24, List.forall_mem_cons.mpr ⟨lw_p25, List.forall_mem_cons.mpr ⟨lw_p26, List.forall_mem_cons.mpr ⟨lw_p27, List.forall_mem_cons.mpr ⟨lw_p28, List.forall_mem_cons.mpr ⟨lw_p29, List.forall_mem_cons.mpr ⟨lw_p30, List.forall_mem_cons.mpr ⟨lw_p31, fun _ h => absurd h List.not_mem_nil⟩⟩⟩⟩⟩⟩⟩⟩⟩⟩⟩⟩⟩⟩⟩⟩
theorem lw_p32 : lw_okq (⟨"ScratchMap", "follow", "(I)Z"⟩, 7) := ⟨⟨by decide +kernel, by decide +kernel⟩, List.mem_of_getElem? (i := 17) (by decide +kernel), List.mem_of_getElem? (i := 738) (by decide +kernel), List.mem_of_getElem? (i := 739) (by decide +kernel)⟩
theorem lw_p33 : lw_okq (⟨"ScratchMapModel", "lay", "()V"⟩, 21) := ⟨⟨by decide +kernel, by decide +kernel⟩, List.mem_of_getElem? (i := 819) (by decide +kernel), List.mem_of_getElem? (i := 910) (by decide +kernel), List.mem_of_getElem? (i := 911) (by decide +kernel)⟩
theorem lw_p34 : lw_okq (⟨"ScratchMapModel", "layLine", "(II)V"⟩, 21) := ⟨⟨by decide +kernel, by decide +kernel⟩, List.mem_of_getElem? (i := 819) (by decide +kernel), List.mem_of_getElem? (i := 914) (by decide +kernel), List.mem_of_getElem? (i := 915) (by decide +kernel)⟩
theorem lw_p35 : lw_okq (⟨"ScratchMapModel", "tracksApart", "(II)I"⟩, 21) := ⟨⟨by decide +kernel, by decide +kernel⟩, List.mem_of_getElem? (i := 819) (by decide +kernel), List.mem_of_getElem? (i := 918) (by decide +kernel), List.mem_of_getElem? (i := 919) (by decide +kernel)⟩
theorem lw_p36 : lw_okq (⟨"ScratchMapModel", "spot", "(I)I"⟩, 21) := ⟨⟨by decide +kernel, by decide +kernel⟩, List.mem_of_getElem? (i := 819) (by decide +kernel), List.mem_of_getElem? (i := 922) (by decide +kernel), List.mem_of_getElem? (i := 923) (by decide +kernel)⟩
theorem lw_p37 : lw_okq (⟨"ScratchMapModel", "sectorsApart", "(II)I"⟩, 21) := ⟨⟨by decide +kernel, by decide +kernel⟩, List.mem_of_getElem? (i := 819) (by decide +kernel), List.mem_of_getElem? (i := 926) (by decide +kernel), List.mem_of_getElem? (i := 927) (by decide +kernel)⟩
theorem lw_p38 : lw_okq (⟨"ScratchMapModel", "isStraight", "(III)Z"⟩, 21) := ⟨⟨by decide +kernel, by decide +kernel⟩, List.mem_of_getElem? (i := 819) (by decide +kernel), List.mem_of_getElem? (i := 936) (by decide +kernel), List.mem_of_getElem? (i := 937) (by decide +kernel)⟩
theorem lw_p39 : lw_okq (⟨"ScratchMapModel", "stepsTo", "(II)I"⟩, 21) := ⟨⟨by decide +kernel, by decide +kernel⟩, List.mem_of_getElem? (i := 819) (by decide +kernel), List.mem_of_getElem? (i := 940) (by decide +kernel), List.mem_of_getElem? (i := 941) (by decide +kernel)⟩
theorem lw_p40 : lw_okq (⟨"ScratchMapModel", "areNear", "(II)Z"⟩, 21) := ⟨⟨by decide +kernel, by decide +kernel⟩, List.mem_of_getElem? (i := 819) (by decide +kernel), List.mem_of_getElem? (i := 947) (by decide +kernel), List.mem_of_getElem? (i := 948) (by decide +kernel)⟩
theorem lw_p41 : lw_okq (⟨"ScratchMapModel", "cellOf", "(II)I"⟩, 21) := ⟨⟨by decide +kernel, by decide +kernel⟩, List.mem_of_getElem? (i := 819) (by decide +kernel), List.mem_of_getElem? (i := 951) (by decide +kernel), List.mem_of_getElem? (i := 952) (by decide +kernel)⟩
theorem lw_p42 : lw_okq (⟨"ScratchMapModel", "goalOf", "(I)I"⟩, 21) := ⟨⟨by decide +kernel, by decide +kernel⟩, List.mem_of_getElem? (i := 819) (by decide +kernel), List.mem_of_getElem? (i := 958) (by decide +kernel), List.mem_of_getElem? (i := 959) (by decide +kernel)⟩
theorem lw_p43 : lw_okq (⟨"ScratchMapModel", "where", "(I)I"⟩, 21) := ⟨⟨by decide +kernel, by decide +kernel⟩, List.mem_of_getElem? (i := 819) (by decide +kernel), List.mem_of_getElem? (i := 962) (by decide +kernel), List.mem_of_getElem? (i := 963) (by decide +kernel)⟩
theorem lw_p44 : lw_okq (⟨"ScratchMapModel", "isGood", "(I)Z"⟩, 21) := ⟨⟨by decide +kernel, by decide +kernel⟩, List.mem_of_getElem? (i := 819) (by decide +kernel), List.mem_of_getElem? (i := 966) (by decide +kernel), List.mem_of_getElem? (i := 967) (by decide +kernel)⟩
theorem lw_p45 : lw_okq (⟨"ScratchMapModel", "freeSpare", "()I"⟩, 21) := ⟨⟨by decide +kernel, by decide +kernel⟩, List.mem_of_getElem? (i := 819) (by decide +kernel), List.mem_of_getElem? (i := 970) (by decide +kernel), List.mem_of_getElem? (i := 971) (by decide +kernel)⟩
theorem lw_p46 : lw_okq (⟨"ScratchMapModel", "taken", "(I)I"⟩, 21) := ⟨⟨by decide +kernel, by decide +kernel⟩, List.mem_of_getElem? (i := 819) (by decide +kernel), List.mem_of_getElem? (i := 974) (by decide +kernel), List.mem_of_getElem? (i := 975) (by decide +kernel)⟩
theorem lw_p47 : lw_okq (⟨"ScratchMapModel", "save", "()V"⟩, 21) := ⟨⟨by decide +kernel, by decide +kernel⟩, List.mem_of_getElem? (i := 819) (by decide +kernel), List.mem_of_getElem? (i := 978) (by decide +kernel), List.mem_of_getElem? (i := 979) (by decide +kernel)⟩
def lw_privs_3 : List (MethodName × Nat) := [(⟨"ScratchMap", "follow", "(I)Z"⟩, 7), (⟨"ScratchMapModel", "lay", "()V"⟩, 21), (⟨"ScratchMapModel", "layLine", "(II)V"⟩, 21), (⟨"ScratchMapModel", "tracksApart", "(II)I"⟩, 21), (⟨"ScratchMapModel", "spot", "(I)I"⟩, 21), (⟨"ScratchMapModel", "sectorsApart", "(II)I"⟩, 21), (⟨"ScratchMapModel", "isStraight", "(III)Z"⟩, 21), (⟨"ScratchMapModel", "stepsTo", "(II)I"⟩, 21), (⟨"ScratchMapModel", "areNear", "(II)Z"⟩, 21), (⟨"ScratchMapModel", "cellOf", "(II)I"⟩, 21), (⟨"ScratchMapModel", "goalOf", "(I)I"⟩, 21), (⟨"ScratchMapModel", "where", "(I)I"⟩, 21), (⟨"ScratchMapModel", "isGood", "(I)Z"⟩, 21), (⟨"ScratchMapModel", "freeSpare", "()I"⟩, 21), (⟨"ScratchMapModel", "taken", "(I)I"⟩, 21), (⟨"ScratchMapModel", "save", "()V"⟩, 21)]
theorem lw_r3 : ∀ q ∈ lw_privs_3, lw_okq q := List.forall_mem_cons.mpr ⟨lw_p32, List.forall_mem_cons.mpr ⟨lw_p33, List.forall_mem_cons.mpr ⟨lw_p34, List.forall_mem_cons.mpr ⟨lw_p35, List.forall_mem_cons.mpr ⟨lw_p36, List.forall_mem_cons.mpr ⟨lw_p37, List.forall_mem_cons.mpr ⟨lw_p38, List.forall_mem_cons.mpr ⟨lw_p39, List.forall_mem_cons.mpr ⟨lw_p40, List.forall_mem_cons.mpr ⟨lw_p41, List.forall_mem_cons.mpr ⟨lw_p42, List.forall_mem_cons.mpr ⟨lw_p43, List.forall_mem_cons.mpr ⟨lw_p44, List.forall_mem_cons.mpr ⟨lw_p45, List.forall_mem_cons.mpr ⟨lw_p46, List.forall_mem_cons.mpr ⟨lw_p47, fun _ h => absurd h List.not_mem_nil⟩⟩⟩⟩⟩⟩⟩⟩⟩⟩⟩⟩⟩⟩⟩⟩
theorem lw_p48 : lw_okq (⟨"ScratchMapModel", "writeIt", "(II)I"⟩, 21) := ⟨⟨by decide +kernel, by decide +kernel⟩, List.mem_of_getElem? (i := 819) (by decide +kernel), List.mem_of_getElem? (i := 982) (by decide +kernel), List.mem_of_getElem? (i := 983) (by decide +kernel)⟩
theorem lw_p49 : lw_okq (⟨"ScratchMapModel", "bringTo", "(II)V"⟩, 21) := ⟨⟨by decide +kernel, by decide +kernel⟩, List.mem_of_getElem? (i := 819) (by decide +kernel), List.mem_of_getElem? (i := 986) (by decide +kernel), List.mem_of_getElem? (i := 987) (by decide +kernel)⟩
theorem lw_p50 : lw_okq (⟨"ScratchMapModel", "lose", "(I)V"⟩, 21) := ⟨⟨by decide +kernel, by decide +kernel⟩, List.mem_of_getElem? (i := 819) (by decide +kernel), List.mem_of_getElem? (i := 998) (by decide +kernel), List.mem_of_getElem? (i := 999) (by decide +kernel)⟩
theorem lw_p51 : lw_okq (⟨"ScratchMapModel", "canFail", "(I)Z"⟩, 21) := ⟨⟨by decide +kernel, by decide +kernel⟩, List.mem_of_getElem? (i := 819) (by decide +kernel), List.mem_of_getElem? (i := 1006) (by decide +kernel), List.mem_of_getElem? (i := 1007) (by decide +kernel)⟩
theorem lw_p52 : lw_okq (⟨"ScratchMapModel", "spotAt", "(I)I"⟩, 21) := ⟨⟨by decide +kernel, by decide +kernel⟩, List.mem_of_getElem? (i := 819) (by decide +kernel), List.mem_of_getElem? (i := 1010) (by decide +kernel), List.mem_of_getElem? (i := 1011) (by decide +kernel)⟩
theorem lw_p53 : lw_okq (⟨"ScratchMapModel", "failIt", "(I)V"⟩, 21) := ⟨⟨by decide +kernel, by decide +kernel⟩, List.mem_of_getElem? (i := 819) (by decide +kernel), List.mem_of_getElem? (i := 1014) (by decide +kernel), List.mem_of_getElem? (i := 1015) (by decide +kernel)⟩
theorem lw_p54 : lw_okq (⟨"ScratchMapModel", "linesNow", "()I"⟩, 21) := ⟨⟨by decide +kernel, by decide +kernel⟩, List.mem_of_getElem? (i := 819) (by decide +kernel), List.mem_of_getElem? (i := 1018) (by decide +kernel), List.mem_of_getElem? (i := 1019) (by decide +kernel)⟩
theorem lw_p55 : lw_okq (⟨"ScratchMapModel", "healIt", "(I)V"⟩, 21) := ⟨⟨by decide +kernel, by decide +kernel⟩, List.mem_of_getElem? (i := 819) (by decide +kernel), List.mem_of_getElem? (i := 1026) (by decide +kernel), List.mem_of_getElem? (i := 1027) (by decide +kernel)⟩
theorem lw_p56 : lw_okq (⟨"ScratchMapModel", "tidyUp", "(I)I"⟩, 21) := ⟨⟨by decide +kernel, by decide +kernel⟩, List.mem_of_getElem? (i := 819) (by decide +kernel), List.mem_of_getElem? (i := 1034) (by decide +kernel), List.mem_of_getElem? (i := 1035) (by decide +kernel)⟩
theorem lw_p57 : lw_okq (⟨"ScratchMapModel", "tidyGoal", "(I)I"⟩, 21) := ⟨⟨by decide +kernel, by decide +kernel⟩, List.mem_of_getElem? (i := 819) (by decide +kernel), List.mem_of_getElem? (i := 1038) (by decide +kernel), List.mem_of_getElem? (i := 1039) (by decide +kernel)⟩
theorem lw_p58 : lw_okq (⟨"ScratchMapModel", "readBuffer", "()I"⟩, 21) := ⟨⟨by decide +kernel, by decide +kernel⟩, List.mem_of_getElem? (i := 819) (by decide +kernel), List.mem_of_getElem? (i := 1064) (by decide +kernel), List.mem_of_getElem? (i := 1065) (by decide +kernel)⟩
theorem lw_p59 : lw_okq (⟨"ScratchMapModel", "readOrder", "()V"⟩, 21) := ⟨⟨by decide +kernel, by decide +kernel⟩, List.mem_of_getElem? (i := 819) (by decide +kernel), List.mem_of_getElem? (i := 1068) (by decide +kernel), List.mem_of_getElem? (i := 1069) (by decide +kernel)⟩
theorem lw_p60 : lw_okq (⟨"ScratchMapModel", "letter", "()I"⟩, 21) := ⟨⟨by decide +kernel, by decide +kernel⟩, List.mem_of_getElem? (i := 819) (by decide +kernel), List.mem_of_getElem? (i := 1072) (by decide +kernel), List.mem_of_getElem? (i := 1073) (by decide +kernel)⟩
theorem lw_p61 : lw_okq (⟨"ScratchMapModel", "number", "()I"⟩, 21) := ⟨⟨by decide +kernel, by decide +kernel⟩, List.mem_of_getElem? (i := 819) (by decide +kernel), List.mem_of_getElem? (i := 1076) (by decide +kernel), List.mem_of_getElem? (i := 1077) (by decide +kernel)⟩
theorem lw_p62 : lw_okq (⟨"ScratchMapModel", "wants", "(Z)V"⟩, 21) := ⟨⟨by decide +kernel, by decide +kernel⟩, List.mem_of_getElem? (i := 819) (by decide +kernel), List.mem_of_getElem? (i := 1080) (by decide +kernel), List.mem_of_getElem? (i := 1081) (by decide +kernel)⟩
theorem lw_p63 : lw_okq (⟨"ScratchMapModel", "does", "(I)Z"⟩, 21) := ⟨⟨by decide +kernel, by decide +kernel⟩, List.mem_of_getElem? (i := 819) (by decide +kernel), List.mem_of_getElem? (i := 1088) (by decide +kernel), List.mem_of_getElem? (i := 1089) (by decide +kernel)⟩
def lw_privs_4 : List (MethodName × Nat) := [(⟨"ScratchMapModel", "writeIt", "(II)I"⟩, 21), (⟨"ScratchMapModel", "bringTo", "(II)V"⟩, 21), (⟨"ScratchMapModel", "lose", "(I)V"⟩, 21), (⟨"ScratchMapModel", "canFail", "(I)Z"⟩, 21), (⟨"ScratchMapModel", "spotAt", "(I)I"⟩, 21), (⟨"ScratchMapModel", "failIt", "(I)V"⟩, 21), (⟨"ScratchMapModel", "linesNow", "()I"⟩, 21), (⟨"ScratchMapModel", "healIt", "(I)V"⟩, 21), (⟨"ScratchMapModel", "tidyUp", "(I)I"⟩, 21), (⟨"ScratchMapModel", "tidyGoal", "(I)I"⟩, 21), (⟨"ScratchMapModel", "readBuffer", "()I"⟩, 21), (⟨"ScratchMapModel", "readOrder", "()V"⟩, 21), (⟨"ScratchMapModel", "letter", "()I"⟩, 21), (⟨"ScratchMapModel", "number", "()I"⟩, 21), (⟨"ScratchMapModel", "wants", "(Z)V"⟩, 21), (⟨"ScratchMapModel", "does", "(I)Z"⟩, 21)]
theorem lw_r4 : ∀ q ∈ lw_privs_4, lw_okq q := List.forall_mem_cons.mpr ⟨lw_p48, List.forall_mem_cons.mpr ⟨lw_p49, List.forall_mem_cons.mpr ⟨lw_p50, List.forall_mem_cons.mpr ⟨lw_p51, List.forall_mem_cons.mpr ⟨lw_p52, List.forall_mem_cons.mpr ⟨lw_p53, List.forall_mem_cons.mpr ⟨lw_p54, List.forall_mem_cons.mpr ⟨lw_p55, List.forall_mem_cons.mpr ⟨lw_p56, List.forall_mem_cons.mpr ⟨lw_p57, List.forall_mem_cons.mpr ⟨lw_p58, List.forall_mem_cons.mpr ⟨lw_p59, List.forall_mem_cons.mpr ⟨lw_p60, List.forall_mem_cons.mpr ⟨lw_p61, List.forall_mem_cons.mpr ⟨lw_p62, List.forall_mem_cons.mpr ⟨lw_p63, fun _ h => absurd h List.not_mem_nil⟩⟩⟩⟩⟩⟩⟩⟩⟩⟩⟩⟩⟩⟩⟩⟩
theorem lw_p64 : lw_okq (⟨"ScratchMapModel", "toldCell", "(II)I"⟩, 21) := ⟨⟨by decide +kernel, by decide +kernel⟩, List.mem_of_getElem? (i := 819) (by decide +kernel), List.mem_of_getElem? (i := 1096) (by decide +kernel), List.mem_of_getElem? (i := 1097) (by decide +kernel)⟩
theorem lw_p65 : lw_okq (⟨"ScratchMapModel", "toldBlock", "(II)I"⟩, 21) := ⟨⟨by decide +kernel, by decide +kernel⟩, List.mem_of_getElem? (i := 819) (by decide +kernel), List.mem_of_getElem? (i := 1104) (by decide +kernel), List.mem_of_getElem? (i := 1105) (by decide +kernel)⟩
theorem lw_p66 : lw_okq (⟨"ScratchMapModel", "toldLine", "(II)I"⟩, 21) := ⟨⟨by decide +kernel, by decide +kernel⟩, List.mem_of_getElem? (i := 819) (by decide +kernel), List.mem_of_getElem? (i := 1112) (by decide +kernel), List.mem_of_getElem? (i := 1113) (by decide +kernel)⟩
theorem lw_p67 : lw_okq (⟨"ScratchMapModel", "cellsOf", "(IZ)I"⟩, 21) := ⟨⟨by decide +kernel, by decide +kernel⟩, List.mem_of_getElem? (i := 819) (by decide +kernel), List.mem_of_getElem? (i := 1116) (by decide +kernel), List.mem_of_getElem? (i := 1117) (by decide +kernel)⟩
theorem lw_p68 : lw_okq (⟨"ScratchMapModel", "isAvoided", "(I)Z"⟩, 21) := ⟨⟨by decide +kernel, by decide +kernel⟩, List.mem_of_getElem? (i := 819) (by decide +kernel), List.mem_of_getElem? (i := 1120) (by decide +kernel), List.mem_of_getElem? (i := 1121) (by decide +kernel)⟩
theorem lw_p69 : lw_okq (⟨"ScratchMapModel", "counted", "(I)I"⟩, 21) := ⟨⟨by decide +kernel, by decide +kernel⟩, List.mem_of_getElem? (i := 819) (by decide +kernel), List.mem_of_getElem? (i := 1128) (by decide +kernel), List.mem_of_getElem? (i := 1129) (by decide +kernel)⟩
theorem lw_p70 : lw_okq (⟨"ScratchMapModel", "avoidedMany", "()I"⟩, 21) := ⟨⟨by decide +kernel, by decide +kernel⟩, List.mem_of_getElem? (i := 819) (by decide +kernel), List.mem_of_getElem? (i := 1132) (by decide +kernel), List.mem_of_getElem? (i := 1133) (by decide +kernel)⟩
theorem lw_p71 : lw_okq (⟨"ScratchMapModel", "blocks", "(I)I"⟩, 21) := ⟨⟨by decide +kernel, by decide +kernel⟩, List.mem_of_getElem? (i := 819) (by decide +kernel), List.mem_of_getElem? (i := 1136) (by decide +kernel), List.mem_of_getElem? (i := 1137) (by decide +kernel)⟩
theorem lw_p72 : lw_okq (⟨"ScratchMapModel", "freeSpares", "()I"⟩, 21) := ⟨⟨by decide +kernel, by decide +kernel⟩, List.mem_of_getElem? (i := 819) (by decide +kernel), List.mem_of_getElem? (i := 1140) (by decide +kernel), List.mem_of_getElem? (i := 1141) (by decide +kernel)⟩
theorem lw_p73 : lw_okq (⟨"ScratchMapModel", "wouldFail", "(II)I"⟩, 21) := ⟨⟨by decide +kernel, by decide +kernel⟩, List.mem_of_getElem? (i := 819) (by decide +kernel), List.mem_of_getElem? (i := 1152) (by decide +kernel), List.mem_of_getElem? (i := 1153) (by decide +kernel)⟩
theorem lw_p74 : lw_okq (⟨"ScratchMapModel", "putAside", "()V"⟩, 21) := ⟨⟨by decide +kernel, by decide +kernel⟩, List.mem_of_getElem? (i := 819) (by decide +kernel), List.mem_of_getElem? (i := 1156) (by decide +kernel), List.mem_of_getElem? (i := 1157) (by decide +kernel)⟩
theorem lw_p75 : lw_okq (⟨"ScratchMapModel", "bringBack", "()V"⟩, 21) := ⟨⟨by decide +kernel, by decide +kernel⟩, List.mem_of_getElem? (i := 819) (by decide +kernel), List.mem_of_getElem? (i := 1160) (by decide +kernel), List.mem_of_getElem? (i := 1161) (by decide +kernel)⟩
theorem lw_p76 : lw_okq (⟨"ScratchMapModel", "worstCell", "()I"⟩, 21) := ⟨⟨by decide +kernel, by decide +kernel⟩, List.mem_of_getElem? (i := 819) (by decide +kernel), List.mem_of_getElem? (i := 1168) (by decide +kernel), List.mem_of_getElem? (i := 1169) (by decide +kernel)⟩
theorem lw_p77 : lw_okq (⟨"ScratchMapModel", "wouldMove", "()I"⟩, 21) := ⟨⟨by decide +kernel, by decide +kernel⟩, List.mem_of_getElem? (i := 819) (by decide +kernel), List.mem_of_getElem? (i := 1176) (by decide +kernel), List.mem_of_getElem? (i := 1177) (by decide +kernel)⟩
theorem lw_p78 : lw_okq (⟨"ScratchMapModel", "blockWith", "(I)I"⟩, 21) := ⟨⟨by decide +kernel, by decide +kernel⟩, List.mem_of_getElem? (i := 819) (by decide +kernel), List.mem_of_getElem? (i := 1184) (by decide +kernel), List.mem_of_getElem? (i := 1185) (by decide +kernel)⟩
theorem lw_p79 : lw_okq (⟨"ScratchMapModel", "share", "()D"⟩, 21) := ⟨⟨by decide +kernel, by decide +kernel⟩, List.mem_of_getElem? (i := 819) (by decide +kernel), List.mem_of_getElem? (i := 1192) (by decide +kernel), List.mem_of_getElem? (i := 1193) (by decide +kernel)⟩
def lw_privs_5 : List (MethodName × Nat) := [(⟨"ScratchMapModel", "toldCell", "(II)I"⟩, 21), (⟨"ScratchMapModel", "toldBlock", "(II)I"⟩, 21), (⟨"ScratchMapModel", "toldLine", "(II)I"⟩, 21), (⟨"ScratchMapModel", "cellsOf", "(IZ)I"⟩, 21), (⟨"ScratchMapModel", "isAvoided", "(I)Z"⟩, 21), (⟨"ScratchMapModel", "counted", "(I)I"⟩, 21), (⟨"ScratchMapModel", "avoidedMany", "()I"⟩, 21), (⟨"ScratchMapModel", "blocks", "(I)I"⟩, 21), (⟨"ScratchMapModel", "freeSpares", "()I"⟩, 21), (⟨"ScratchMapModel", "wouldFail", "(II)I"⟩, 21), (⟨"ScratchMapModel", "putAside", "()V"⟩, 21), (⟨"ScratchMapModel", "bringBack", "()V"⟩, 21), (⟨"ScratchMapModel", "worstCell", "()I"⟩, 21), (⟨"ScratchMapModel", "wouldMove", "()I"⟩, 21), (⟨"ScratchMapModel", "blockWith", "(I)I"⟩, 21), (⟨"ScratchMapModel", "share", "()D"⟩, 21)]
theorem lw_r5 : ∀ q ∈ lw_privs_5, lw_okq q := List.forall_mem_cons.mpr ⟨lw_p64, List.forall_mem_cons.mpr ⟨lw_p65, List.forall_mem_cons.mpr ⟨lw_p66, List.forall_mem_cons.mpr ⟨lw_p67, List.forall_mem_cons.mpr ⟨lw_p68, List.forall_mem_cons.mpr ⟨lw_p69, List.forall_mem_cons.mpr ⟨lw_p70, List.forall_mem_cons.mpr ⟨lw_p71, List.forall_mem_cons.mpr ⟨lw_p72, List.forall_mem_cons.mpr ⟨lw_p73, List.forall_mem_cons.mpr ⟨lw_p74, List.forall_mem_cons.mpr ⟨lw_p75, List.forall_mem_cons.mpr ⟨lw_p76, List.forall_mem_cons.mpr ⟨lw_p77, List.forall_mem_cons.mpr ⟨lw_p78, List.forall_mem_cons.mpr ⟨lw_p79, fun _ h => absurd h List.not_mem_nil⟩⟩⟩⟩⟩⟩⟩⟩⟩⟩⟩⟩⟩⟩⟩⟩
theorem lw_p80 : lw_okq (⟨"ScratchMapModel", "mix", "(J)V"⟩, 21) := ⟨⟨by decide +kernel, by decide +kernel⟩, List.mem_of_getElem? (i := 819) (by decide +kernel), List.mem_of_getElem? (i := 1202) (by decide +kernel), List.mem_of_getElem? (i := 1203) (by decide +kernel)⟩
theorem lw_p81 : lw_okq (⟨"ScratchMapModel", "mixMap", "()V"⟩, 21) := ⟨⟨by decide +kernel, by decide +kernel⟩, List.mem_of_getElem? (i := 819) (by decide +kernel), List.mem_of_getElem? (i := 1207) (by decide +kernel), List.mem_of_getElem? (i := 1208) (by decide +kernel)⟩
theorem lw_p82 : lw_okq (⟨"ScratchMapModel", "mixFailed", "(I)V"⟩, 21) := ⟨⟨by decide +kernel, by decide +kernel⟩, List.mem_of_getElem? (i := 819) (by decide +kernel), List.mem_of_getElem? (i := 1211) (by decide +kernel), List.mem_of_getElem? (i := 1212) (by decide +kernel)⟩
def lw_privs_6 : List (MethodName × Nat) := [(⟨"ScratchMapModel", "mix", "(J)V"⟩, 21), (⟨"ScratchMapModel", "mixMap", "()V"⟩, 21), (⟨"ScratchMapModel", "mixFailed", "(I)V"⟩, 21)]
theorem lw_r6 : ∀ q ∈ lw_privs_6, lw_okq q := List.forall_mem_cons.mpr ⟨lw_p80, List.forall_mem_cons.mpr ⟨lw_p81, List.forall_mem_cons.mpr ⟨lw_p82, fun _ h => absurd h List.not_mem_nil⟩⟩⟩
def lw_privs : List (MethodName × Nat) := lw_privs_1 ++ (lw_privs_2 ++ (lw_privs_3 ++ (lw_privs_4 ++ (lw_privs_5 ++ (lw_privs_6)))))
def lw_tbl : List Cond := k2_sels lw_privs ++ tables_1
theorem lw_privs_ok : ∀ q ∈ lw_privs, lw_okq q := by
  show ∀ q ∈ lw_privs_1 ++ (lw_privs_2 ++ (lw_privs_3 ++ (lw_privs_4 ++ (lw_privs_5 ++ (lw_privs_6))))), lw_okq q
  exact List.forall_mem_append.mpr ⟨lw_r1, List.forall_mem_append.mpr ⟨lw_r2, List.forall_mem_append.mpr ⟨lw_r3, List.forall_mem_append.mpr ⟨lw_r4, List.forall_mem_append.mpr ⟨lw_r5, lw_r6⟩⟩⟩⟩⟩
/-- the streams that the claim lets the run draw from -/
abbrev lw_cs : List Choice := [Jvm.Choice.named "NaN.bits"]
theorem lw_bits : nanBits ∈ lw_cs := by first | decide | exact List.mem_cons_self | simp [lw_cs, nanBits]
/-! ===== BEGIN words of one list among another's, by their places ===== -/
theorem goodIn_r {big : List Cond} (ws : List Cond) (ps : List Nat) (hp : ws = ps.filterMap (fun i => big[i]?)) (h : ws.all goodWord = true) : GoodIn big ws := by
  intro w hw
  have h1 := List.all_eq_true.mp h w hw
  rw [hp] at hw
  obtain ⟨i, -, hi⟩ := List.mem_filterMap.mp hw
  have hm : w ∈ big := by first | exact List.mem_of_getElem? hi | exact List.getElem?_mem hi
  exact ⟨hm, good_of_word h1⟩
theorem goodIn_app {big a b : List Cond} (ha : GoodIn big a) (hb : GoodIn big b) : GoodIn big (a ++ b) := fun w h => (List.mem_append.mp h).elim (ha w) (hb w)
theorem goodIn_ca {big a b : List Cond} {c : Cond} (ha : GoodIn big (c :: a)) (hb : GoodIn big b) : GoodIn big (c :: (a ++ b)) := fun w h => (List.mem_cons.mp h).elim (fun e => ha w (List.mem_cons.mpr (Or.inl e))) (fun h => (List.mem_append.mp h).elim (fun h => ha w (List.mem_cons.mpr (Or.inr h))) (hb w))
theorem goodIn_sub {big ws : List Cond} (hm : ∀ w ∈ ws, w ∈ big) (h : ws.all goodWord = true) : GoodIn big ws := fun w hw => ⟨hm w hw, good_of_word (List.all_eq_true.mp h w hw)⟩
/-! ===== END ===== -/

/-! ===== BEGIN exceptions that leave a method, and their catching by the caller (launches without stack traces) ===== -/
section VXA
/-! The laws vx_back, vx_callV, vx_callS, vx_callSW, vx_throw0, vx_throwS follow proofs of the library, with one case more: JvmDerived/Free/Laws.lean (Back.of_free), Shelf42/LK1.lean (callV, callS), Shelf/KitTraced.lean (throwNew0V, throwNewS). -/
/-- where a method has thrown q: the class by its name, the cell, what was written, the world -/
def vx_T (XC : String → State → State → Prop) (st : State) (q : Addr) (t : State) (mc ms : Nat) (free : Addr → Prop) : Prop :=
  ∃ (E : String) (ce : Cell) (L : List Loc), XC E st t ∧ t.heap[q]? = some ce ∧ ce.vm = .none ∧ st.vm.findClass E = some ce.cls ∧ st.WarmedH t.vm ∧ st.sameButNew ({ t with vm := st.vm } : State) L mc ms ∧ ∀ z ∈ L, free z.base
def vx_Q (Qc : Array Value → State → Outcome → State → Prop) (XC : String → State → State → Prop) (mc ms : Nat) (free : Addr → Prop) : Array Value → State → Outcome → State → Prop := fun a st o t =>
  (Qc a st o t ∧ ∃ L, FrameEnd st o t L mc ms ∧ ∀ q ∈ L, free q.base) ∨ ∃ q, o = .threw q ∧ vx_T XC st q t mc ms free
/-- a callee that returns or throws -/
def vx_Met (l : Launch) (y : MethodName) (ws : List Cond) (rm : Room) (Pc : Array Value → State → Prop) (Qc : Array Value → State → Outcome → State → Prop) (XC : String → State → State → Prop) (mc ms : Nat) (free : Addr → Prop) : Prop :=
  MetFree l y (headSpec ws rm) Pc (fun _ _ _ _ _ => True) (vx_Q Qc XC mc ms free)
def vx_Post (XC : String → State → State → Prop) (mc ms : Nat) (free : Addr → Prop) : Pt → Array Value → Addr → Pt → Prop := fun A a q B =>
  ∃ (g : JFrame) (mk : MethodId) (t : State) (L : List Loc) (E : String) (ce : Cell), B.U.heap = t.heap ∧ B.U.vm = t.vm ∧ XC E (A.U.calling g mk a) t ∧ t.heap[q]? = some ce ∧ ce.vm = .none ∧ A.U.vm.findClass E = some ce.cls ∧ B.locs = A.locs ++ L ∧ (∀ z ∈ L, free z.base) ∧ B.cells = A.cells + mc ∧ B.slots = A.slots + ms
def vx_Back (l : Launch) (R : Room) (p : Program) (e : Env) (below : List Frame) (s : State) (sargs : Array Value) (y : MethodName) (len W9 : Nat)
    (Pre : Pt → Array Value → Prop) (Post : Pt → Array Value → Option Value → Pt → Prop) (PostX : Pt → Array Value → Addr → Pt → Prop) : Prop :=
  ∀ (m : MethodId) (meth : Method) (c : Code) (A : Pt) (g : JFrame) (ig : Instr) (mk : MethodId) (a : Array Value),
    Stand p l e R s m sargs below meth c A.U A.locs A.cells A.slots → g.method = m → g.locals.size = c.maxLocals → decode c.code g.pc = .ok (ig, len) →
    2 * g.monitorRoom + (g.stack.map fun v => v.category).sum ≤ W9 → A.U.methodNamed? y = some mk → Pre A a →
    (∃ (v : Option Value) (B : Pt), Stand p l e R s m sargs below meth c B.U B.locs B.cells B.slots ∧ Post A a v B ∧
      Steps p.tables e below (doInvoke e (A.U.setTop g) [] mk a).1 (B.U.setTop { g with pc := g.pc + len, stack := v.toList ++ g.stack })) ∨
    (∃ (q : Addr) (B : Pt), Stand p l e R s m sargs below meth c B.U B.locs B.cells B.slots ∧ PostX A a q B ∧
      Steps p.tables e below (doInvoke e (A.U.setTop g) [] mk a).1 ((B.U.setTop g).pushFrame (.throwing q)))
section Payer
variable {l : Launch} {R : Room} {p : Program} {e : Env} {below : List Frame} {s : State} {sargs : Array Value} {y : MethodName} {len W9 : Nat}
theorem vx_back {ws : List Cond} {rm : Room} {Pc : Array Value → State → Prop} {Qc : Array Value → State → Outcome → State → Prop} {XC : String → State → State → Prop} {mc ms : Nat} {free : Addr → Prop} {bytes : ByteArray} {maxL : Nat} {ret : Option FieldType}
    (hM : vx_Met l y ws rm Pc Qc XC mc ms free) (hblind : FrameBlind Pc) (hrc : rm.cells = mc) (hrs : rm.slots = ms)
    (hframes : rm.frames + 1 ≤ R.frames) (hlocals : W9 + (maxL + 11) + rm.locals ≤ R.locals)
    (hws : ∀ w ∈ ws, ∀ a' U, s.WarmedH U.vm → w.before a' U = true) (hcode : Cond.code y bytes maxL ret ∈ ws) (hinit : ∀ a' U, s.WarmedH U.vm → (Cond.initialized y.cls).before a' U = true) :
    vx_Back l R p e below s sargs y len W9 (PreOf R mc ms Pc) (PostOf Qc mc ms free) (vx_Post XC mc ms free) := by
  intro m meth c A g ig mk a X hg hsize hdg hW hn hp
  have h1 : (headSpec ws rm).pre.before a A.U = true := atoms_intro fun w hw => hws w hw _ _ X.warmed
  have h2 : (Cond.code y bytes maxL ret).before a A.U = true := hws _ hcode _ _ X.warmed
  have h3 : (Cond.initialized y.cls).before a A.U = true := hinit _ _ X.warmed
  have h4 : A.cells + (headSpec ws rm).room.cells ≤ R.cells := by rw [show (headSpec ws rm).room.cells = mc from hrc]; exact hp.1
  have h5 : A.slots + (headSpec ws rm).room.slots ≤ R.slots := by rw [show (headSpec ws rm).room.slots = ms from hrs]; exact hp.2.1
  have hPc : Pc a (A.U.calling g mk a) := hblind _ _ _ _ hp.2.2
  obtain ⟨U, Ls, c0, s0⟩ := A
  dsimp only [Pt.U, Pt.locs, Pt.cells, Pt.slots] at h1 h2 h3 h4 h5 X hn hPc ⊢
  obtain ⟨methY, cY, hmY, hcY, -, hlY, -, -, -, -⟩ := Cond.code_spec hn h2
  obtain ⟨kY, hkY, -⟩ := className_of_methodNamed hn
  have hinitY : kY.init = .initialized := Cond.initialized_spec (findClass_of_methodNamed hn) hkY h3
  have h : At U g.method c below := by rw [hg]; exact X.here
  have hlocals9 : W9 + (maxL + 11) + (headSpec ws rm).room.locals ≤ R.locals := hlocals
  have happ : (headSpec ws rm).appliesLoose y e.platform (U.calling g mk a) = true :=
    Spec.appliesLoose_calling (g := g) h hdg hn hkY hinitY
      (X.room_calling (g := g) (R' := (headSpec ws rm).room) hsize hmY hcY hframes (by rw [hlY]; omega) h4 h5) h1
  obtain ⟨mid, hmid⟩ := h.above
  have hfr : (U.setTop g).frames = (.java g :: mid) ++ below := by rw [State.frames_setTop' g h.top, hmid]; rfl
  obtain ⟨o, s₂, hsteps, -, hend, hq⟩ := Steps.callFree hM p X.admits X.cas X.clock (acts := []) hfr happ hPc trivial
  have hq' : vx_Q Qc XC mc ms free a (U.calling g mk a) o s₂ := hq
  rw [State.frames_setTop' g h.top] at hend
  obtain ⟨g₀, hg0⟩ := Option.isSome_iff_exists.mp h.top
  obtain ⟨r, hr⟩ := State.topJava?_eq_some.mp hg0
  have hr' : (({ U with heap := s₂.heap, slotsUsed := s₂.slotsUsed } : State).setVm s₂.vm).frames = .java g₀ :: r := hr
  rcases hq' with ⟨hqc, L, hfe, hL⟩ | ⟨q, rfl, E, ce, L, hx, hce, hcv, hcl, hW₂, hsm, hL⟩
  · obtain ⟨⟨v, rfl⟩, hW₂, e2, q2, q3, q4, q5, q6⟩ := id hfe
    have e3 : s₂ = ({ (U.calling g mk a).setFrames s₂.frames with heap := s₂.heap, slotsUsed := s₂.slotsUsed } : State).setVm s₂.vm := by
      have : s₂ = ({ s₂ with vm := (U.calling g mk a).vm } : State).setVm s₂.vm := rfl
      rw [e2] at this
      exact this
    obtain ⟨c₂, i₂, len₂, hc₂, hd₂, hf₂⟩ := hend
    have hW' : U.WarmedH s₂.vm := hW₂
    have hcc : c₂ = c := by
      have h1 : s₂.code? g.method = U.code? g.method := by
        rw [State.code?_eq, State.code?_eq, hW'.alike.method?]
      exact Option.some.inj (hc₂.symm.trans (h1.trans h.code))
    subst hcc
    have hlen : len₂ = len := by rw [hdg] at hd₂; cases hd₂; rfl
    subst hlen
    have hs₂ : s₂ = (({ U with heap := s₂.heap, slotsUsed := s₂.slotsUsed } : State).setVm s₂.vm).setTop { g with pc := g.pc + len₂, stack := v.toList ++ g.stack } := by
      refine e3.trans ?_
      rw [hf₂, State.calling_eq h.top, State.setFrames_setFrames, State.setTop_of_frames _ hr', hr]
      rfl
    have hsame : U.sameButNew ({ U with heap := s₂.heap, slotsUsed := s₂.slotsUsed } : State) L mc ms := by
      refine ⟨?_, q2, q3, q4, q5, q6⟩
      obtain ⟨t, ht, -⟩ := State.frames_cons hr
      show ({ U with heap := s₂.heap, slotsUsed := s₂.slotsUsed } : State) = { U.setFrames U.frames with heap := s₂.heap, slotsUsed := s₂.slotsUsed }
      rw [State.setFrames_self ht]
    subst hg
    refine Or.inl ⟨v, ⟨(({ U with heap := s₂.heap, slotsUsed := s₂.slotsUsed } : State).setVm s₂.vm), Ls ++ L, c0 + mc, s0 + ms⟩,
      ⟨X.admits, X.cas, X.clock, X.frames, X.room, X.hears, X.method, X.code, (X.here.setHeapUsed s₂.heap s₂.slotsUsed).setVm hW'.alike, X.tail, State.WarmedH.trans X.warmed hW', X.limits, X.bytes, X.same.trans (hsame.setVm s.vm)⟩,
      ⟨g, mk, s₂, L, rfl, rfl, hqc, rfl, hL, rfl, rfl⟩, ?_⟩
    show Steps p.tables e below _ ((({ U with heap := s₂.heap, slotsUsed := s₂.slotsUsed } : State).setVm s₂.vm).setTop { g with pc := g.pc + len₂, stack := v.toList ++ g.stack })
    rw [← hs₂]
    exact hsteps
  · obtain ⟨e2, q2, q3, q4, q5, q6⟩ := id hsm
    have e3 : s₂ = ({ (U.calling g mk a).setFrames s₂.frames with heap := s₂.heap, slotsUsed := s₂.slotsUsed } : State).setVm s₂.vm := by
      have : s₂ = ({ s₂ with vm := (U.calling g mk a).vm } : State).setVm s₂.vm := rfl
      rw [e2] at this
      exact this
    have hf₂ : s₂.frames = .throwing q :: .java g :: U.frames.tail := hend
    have hW' : U.WarmedH s₂.vm := hW₂
    have hs₂ : s₂ = ((({ U with heap := s₂.heap, slotsUsed := s₂.slotsUsed } : State).setVm s₂.vm).setTop g).pushFrame (.throwing q) := by
      refine e3.trans ?_
      rw [hf₂, State.calling_eq h.top, State.setFrames_setFrames, State.pushFrame, State.frames_setTop _ hr', State.setTop_of_frames _ hr', State.setFrames_setFrames, hr]
      rfl
    have hsame : U.sameButNew ({ U with heap := s₂.heap, slotsUsed := s₂.slotsUsed } : State) L mc ms := by
      refine ⟨?_, q2, q3, q4, q5, q6⟩
      obtain ⟨t, ht, -⟩ := State.frames_cons hr
      show ({ U with heap := s₂.heap, slotsUsed := s₂.slotsUsed } : State) = { U.setFrames U.frames with heap := s₂.heap, slotsUsed := s₂.slotsUsed }
      rw [State.setFrames_self ht]
    subst hg
    refine Or.inr ⟨q, ⟨(({ U with heap := s₂.heap, slotsUsed := s₂.slotsUsed } : State).setVm s₂.vm), Ls ++ L, c0 + mc, s0 + ms⟩,
      ⟨X.admits, X.cas, X.clock, X.frames, X.room, X.hears, X.method, X.code, (X.here.setHeapUsed s₂.heap s₂.slotsUsed).setVm hW'.alike, X.tail, State.WarmedH.trans X.warmed hW', X.limits, X.bytes, X.same.trans (hsame.setVm s.vm)⟩,
      ⟨g, mk, s₂, L, E, ce, rfl, rfl, hx, hce, hcv, hcl, rfl, hL, rfl, rfl⟩, ?_⟩
    show Steps p.tables e below _ (((({ U with heap := s₂.heap, slotsUsed := s₂.slotsUsed } : State).setVm s₂.vm).setTop g).pushFrame (.throwing q))
    rw [← hs₂]
    exact hsteps
end Payer
section Calls
variable {p : Program} {l : Launch} {e : Env} {R : Room} {s : State} {m : MethodId} {args : Array Value} {below : List Frame} {meth : Method} {c : Code} {T : State} {locs : List Loc} {cells slots : Nat}
theorem vx_callV (X : Stand p l e R s m args below meth c T locs cells slots) (hexec : p.tables.exec = Jvm.exec) {own C : String} {index : Nat} {y : MethodName} {bytes : ByteArray} {maxL : Nat} {ret : Option FieldType}
    (hown : s.vm.findClass own = some m.cls) (hlink : (Cond.methodLink own index y).before args s = true) (hinst : (Cond.instanceMethod y).before args s = true) (hsel : (Cond.selects C y y).before args s = true)
    (hcode : (Cond.code y bytes maxL ret).before args s = true) (hy : y.cls ≠ "java/lang/invoke/MethodHandle" ∧ y.cls ≠ "java/lang/invoke/VarHandle")
    {W9 : Nat} {Pre : Pt → Array Value → Prop} {Post : Pt → Array Value → Option Value → Pt → Prop} {PostX : Pt → Array Value → Addr → Pt → Prop} (hK : vx_Back l R p e below s args y 3 W9 Pre Post PostX)
    {b : Addr} {cellB : Cell} (hcell : T.heap[b]? = some cellB) (hobj : cellB.vm.isStatics = false) (hcls : s.vm.findClass C = some cellB.cls)
    {g : JFrame} (hg : g.method = m) (hsize : g.locals.size = c.maxLocals) {argsL rest : List Value} (hlen : ∀ sig, parseMethodDescriptor y.desc = some sig → argsL.length = sig.parameters.length)
    (hstack : g.stack = argsL.reverse ++ .ref b :: rest) (hW : 2 * g.monitorRoom + (rest.map fun v => v.category).sum ≤ W9) (hdg : decode c.code g.pc = .ok (.invokevirtual index, 3))
    (hpre : ∀ vm₁, s.WarmedH vm₁ → Pre ⟨T.setVm vm₁, locs, cells, slots⟩ (Value.ref b :: argsL).toArray) :
    (∃ (v : Option Value) (vm₁ : Vm) (B : Pt), s.WarmedH vm₁ ∧ Stand p l e R s m args below meth c B.U B.locs B.cells B.slots ∧ Post ⟨T.setVm vm₁, locs, cells, slots⟩ (Value.ref b :: argsL).toArray v B ∧
      ∀ target, Steps p.tables e below (B.U.setTop { g with pc := g.pc + 3, stack := v.toList ++ rest }) target → Steps p.tables e below (T.setTop g) target) ∨
    (∃ (q : Addr) (vm₁ : Vm) (B : Pt), s.WarmedH vm₁ ∧ Stand p l e R s m args below meth c B.U B.locs B.cells B.slots ∧ PostX ⟨T.setVm vm₁, locs, cells, slots⟩ (Value.ref b :: argsL).toArray q B ∧
      Steps p.tables e below (T.setTop g) ((B.U.setTop { g with stack := rest }).pushFrame (.throwing q))) := by
  obtain ⟨mk, methM, hnamed, hmethM, hstM, habM⟩ := Cond.instanceMethod_spec hinst
  obtain ⟨methM', cM, hmethM', -, -, -, -, -, -, hsigM⟩ := Cond.code_spec hnamed hcode
  cases hmethM.symm.trans hmethM'
  obtain ⟨c2, r2, m2, q1, q2, q3, q4, kP, hkP, hkPi⟩ := Cond.selects_spec hsel
  cases hcls.symm.trans q1
  cases (State.methodFound?_of_named hnamed hy).symm.trans q2
  cases hnamed.symm.trans q3
  have hselP : selectMethod e.platform s.vm cellB.cls mk = .method mk := by rw [Launch.admits_selectMethod X.admits]; exact q4
  obtain ⟨vm₁, X₁, hstep₁⟩ := X.invokevirtual hexec hown hlink hnamed hmethM hstM hkP hkPi hy (a := b) (cell := cellB) hcell
    (fun z h => by rw [h] at hobj; cases hobj) hselP hmethM habM hkP hkPi (g := g) hg (argsL := argsL) (rest := rest) (hlen _ hsigM) hstack hdg
  rcases hK m meth c ⟨T.setVm vm₁, locs, cells, slots⟩ { g with stack := rest } (.invokevirtual index) mk (Value.ref b :: argsL).toArray X₁ hg hsize hdg hW (X₁.named hnamed) (hpre vm₁ X₁.warmed) with ⟨v, B, X', hpost, hsteps⟩ | ⟨q, B, X', hpost, hsteps⟩
  · exact Or.inl ⟨v, vm₁, B, X₁.warmed, X', hpost, fun target h => hstep₁ _ fun acts => by rw [doInvoke_state]; exact hsteps.trans h⟩
  · exact Or.inr ⟨q, vm₁, B, X₁.warmed, X', hpost, hstep₁ _ fun acts => by rw [doInvoke_state]; exact hsteps⟩
theorem vx_callS (X : Stand p l e R s m args below meth c T locs cells slots) (hexec : p.tables.exec = Jvm.exec) {own : String} {index : Nat} {y : MethodName} {bytes : ByteArray} {maxL : Nat} {ret : Option FieldType}
    (hown : s.vm.findClass own = some m.cls) (hlink : (Cond.methodLink own index y).before args s = true) (hstat : (Cond.static y).before args s = true) (hinit : (Cond.initialized y.cls).before args s = true)
    (hcode : (Cond.code y bytes maxL ret).before args s = true) (hy : y.cls ≠ "java/lang/invoke/MethodHandle" ∧ y.cls ≠ "java/lang/invoke/VarHandle")
    {W9 : Nat} {Pre : Pt → Array Value → Prop} {Post : Pt → Array Value → Option Value → Pt → Prop} {PostX : Pt → Array Value → Addr → Pt → Prop} (hK : vx_Back l R p e below s args y 3 W9 Pre Post PostX)
    {g : JFrame} (hg : g.method = m) (hsize : g.locals.size = c.maxLocals) {argsL rest : List Value} (hlen : ∀ sig, parseMethodDescriptor y.desc = some sig → argsL.length = sig.parameters.length)
    (hstack : g.stack = argsL.reverse ++ rest) (hW : 2 * g.monitorRoom + (rest.map fun v => v.category).sum ≤ W9) (hdg : decode c.code g.pc = .ok (.invokestatic index, 3))
    (hpre : ∀ vm₁, s.WarmedH vm₁ → Pre ⟨T.setVm vm₁, locs, cells, slots⟩ argsL.toArray) :
    (∃ (v : Option Value) (vm₁ : Vm) (B : Pt), s.WarmedH vm₁ ∧ Stand p l e R s m args below meth c B.U B.locs B.cells B.slots ∧ Post ⟨T.setVm vm₁, locs, cells, slots⟩ argsL.toArray v B ∧
      ∀ target, Steps p.tables e below (B.U.setTop { g with pc := g.pc + 3, stack := v.toList ++ rest }) target → Steps p.tables e below (T.setTop g) target) ∨
    (∃ (q : Addr) (vm₁ : Vm) (B : Pt), s.WarmedH vm₁ ∧ Stand p l e R s m args below meth c B.U B.locs B.cells B.slots ∧ PostX ⟨T.setVm vm₁, locs, cells, slots⟩ argsL.toArray q B ∧
      Steps p.tables e below (T.setTop g) ((B.U.setTop { g with stack := rest }).pushFrame (.throwing q))) := by
  obtain ⟨mk, hnamed⟩ := Cond.code_named hcode
  obtain ⟨methM, cM, hmethM, -, -, -, -, -, -, hsigM⟩ := Cond.code_spec hnamed hcode
  have hstatic : methM.isStatic = true := Cond.static_spec hnamed hmethM hstat
  obtain ⟨kP, hkP, -⟩ := className_of_methodNamed hnamed
  have hinitP : kP.init = .initialized := Cond.initialized_spec (findClass_of_methodNamed hnamed) hkP hinit
  obtain ⟨vm₁, X₁, hstep₁⟩ := X.invokestatic hexec hown hlink hnamed hmethM hstatic hkP hinitP hy (g := g) hg (argsL := argsL) (rest := rest) (hlen _ hsigM) hstack hdg
  rcases hK m meth c ⟨T.setVm vm₁, locs, cells, slots⟩ { g with stack := rest } (.invokestatic index) mk argsL.toArray X₁ hg hsize hdg hW (X₁.named hnamed) (hpre vm₁ X₁.warmed) with ⟨v, B, X', hpost, hsteps⟩ | ⟨q, B, X', hpost, hsteps⟩
  · exact Or.inl ⟨v, vm₁, B, X₁.warmed, X', hpost, fun target h => hstep₁ _ fun acts => by rw [doInvoke_state]; exact hsteps.trans h⟩
  · exact Or.inr ⟨q, vm₁, B, X₁.warmed, X', hpost, hstep₁ _ fun acts => by rw [doInvoke_state]; exact hsteps⟩
end Calls
theorem vx_cls {s : State} {T : State} {vm₁ : Vm} {E : String} {k : ClassId} (hW : s.WarmedH vm₁) (h : (T.setVm vm₁).vm.findClass E = some k) : s.vm.findClass E = some k := by
  have h1 : vm₁.findClass E = some k := h
  rw [hW.alike.findClass] at h1
  exact h1
/-- the method's frame g, with q thrown over it -/
def vx_W (p : Program) (l : Launch) (e : Env) (R : Room) (s : State) (m : MethodId) (args : Array Value) (below : List Frame) (meth : Method) (c : Code) (H : Heap) (locs : List Loc) (cells slots : Nat) (Q : State → Prop) (g : JFrame) (q : Addr) : Prop :=
  ∀ T : State, T.heap = H → Stand p l e R s m args below meth c T locs cells slots → ∃ t, Steps p.tables e below ((T.setTop g).pushFrame (.throwing q)) t ∧ Q t
def vx_Run (p : Program) (l : Launch) (e : Env) (R : Room) (s : State) (m : MethodId) (args : Array Value) (below : List Frame) (meth : Method) (c : Code) (H : Heap) (locs : List Loc) (cells slots mc ms : Nat) (g : JFrame) (rest : List Value) (Qa : State → Outcome → State → Prop) (XC : String → State → State → Prop) (free : Addr → Prop) : Prop :=
  ∀ T : State, T.heap = H → Stand p l e R s m args below meth c T locs cells slots →
    (∃ (v : Option Value) (st₀ t T' : State) (L : List Loc), st₀.heap = H ∧ Stand p l e R s m args below meth c T' (locs ++ L) (cells + mc) (slots + ms) ∧ (∀ q ∈ L, free q.base) ∧ T'.heap = t.heap ∧ T'.vm = t.vm ∧ Qa st₀ (.returned v) t ∧
      Goes p e below T g T' { g with pc := g.pc + 3, stack := v.toList ++ rest }) ∨
    (∃ (q : Addr) (st₀ t T' : State) (L : List Loc) (E : String) (ce : Cell), st₀.heap = H ∧ Stand p l e R s m args below meth c T' (locs ++ L) (cells + mc) (slots + ms) ∧ (∀ z ∈ L, free z.base) ∧ T'.heap = t.heap ∧ T'.vm = t.vm ∧ XC E st₀ t ∧ t.heap[q]? = some ce ∧ ce.vm = .none ∧ s.vm.findClass E = some ce.cls ∧
      Steps p.tables e below (T.setTop g) ((T'.setTop { g with stack := rest }).pushFrame (.throwing q)))
def vx_X {S : Type} (px : S → Prop) (B : String → S → State → Prop) (A : Nat → Prop) : String → State → State → Prop := fun E st t => ∃ u : S, px u ∧ B E u t ∧ va_F A st t
section Runs
variable {p : Program} {l : Launch} {e : Env} {R : Room} {s : State} {m : MethodId} {args : Array Value} {below : List Frame} {meth : Method} {c : Code} {H : Heap} {locs : List Loc} {cells slots : Nat}
variable {y : MethodName} {bytes cc : ByteArray} {maxL nL mc ms n index : Nat} {ret : Option FieldType} {ws : List Cond} {rm : Room} {Pc : Array Value → State → Prop} {Qc : Array Value → State → Outcome → State → Prop} {XC : String → State → State → Prop} {free : Addr → Prop} {Ts : List Cond} {own C : String} {b : Addr} {As rest : List Value} {g : JFrame}
theorem vx_callBack (cb : CallB R s args own index y bytes maxL ret ws rm mc ms n) (hM : vx_Met l y ws rm Pc Qc XC mc ms free) (hbl : FrameBlind Pc) : vx_Back l R p e below s args y 3 8 (PreOf R mc ms Pc) (PostOf Qc mc ms free) (vx_Post XC mc ms free) := by
  obtain ⟨hrc, hrs, hfr, hlo, hws, hcw, -, hini, -⟩ := cb
  exact vx_back (bytes := bytes) (maxL := maxL) (ret := ret) hM hbl hrc hrs hfr hlo hws hcw (fun a' U hW => word_at hW (Or.inl (by first | rfl | simp [Cond.onTables, Cond.keeps, Cond.steady])) hini)
theorem vx_runV (S : CallFix p m c cc nL s args Ts own) (hM : vx_Met l y ws rm Pc Qc XC mc ms free) (cw : CallW R s args own C index y bytes maxL ret ws rm mc ms n) (hp : PreV s H C b Pc As)
    (hg : g.method = m) (hn : As.length = n) (hsize : g.locals.size = nL) (hstack : g.stack = As.reverse ++ .ref b :: rest) (hW : 2 * g.monitorRoom + (rest.map fun v => v.category).sum ≤ 8) (hdg : decode cc g.pc = .ok (.invokevirtual index, 3)) (hf : cells + mc ≤ R.cells ∧ slots + ms ≤ R.slots) :
    vx_Run p l e R s m args below meth c H locs cells slots mc ms g rest (Qc (Value.ref b :: As).toArray) XC free := by
  have hK : vx_Back l R p e below s args y 3 8 (PreOf R mc ms Pc) (PostOf Qc mc ms free) (vx_Post XC mc ms free) := vx_callBack cw.1 hM hp.1
  obtain ⟨⟨-, -, -, -, -, -, hcode, -, hy, hlen, hl⟩, hin, hse⟩ := cw
  obtain ⟨hx, hb, hml, ho, -⟩ := S
  obtain ⟨-, ⟨cellB, hcB, hoB, hclB⟩, hPc⟩ := hp
  intro T hT X
  rcases vx_callV X hx (C := C) (bytes := bytes) (maxL := maxL) (ret := ret) ho hl hin hse hcode hy hK (by rw [hT]; exact hcB) hoB hclB hg (hsize.trans hml.symm) (argsL := As) (rest := rest) (fun sig h => hn.trans (hlen sig h)) hstack hW (by rw [hb]; exact hdg)
    (fun vm₁ hW₁ => ⟨hf.1, hf.2, hPc (T.setVm vm₁) hT hW₁⟩) with ⟨v, vm₁, ⟨U', l2, c2, s2⟩, hW₁, X', ⟨g', mk, t, L, e1, e2, hq, h1, hL, h2, h3⟩, st⟩ | ⟨q, vm₁, ⟨U', l2, c2, s2⟩, hW₁, X', ⟨g', mk, t, L, E, ce, e1, e2, hq, hce, hcv, hcl, h1, hL, h2, h3⟩, st⟩
  · dsimp only [Pt.U, Pt.locs, Pt.cells, Pt.slots] at X' e1 e2 h1 h2 h3 st
    subst h1; subst h2; subst h3
    exact Or.inl ⟨v, (T.setVm vm₁).calling g' mk (Value.ref b :: As).toArray, t, U', L, hT, X', hL, e1, e2, hq, st⟩
  · dsimp only [Pt.U, Pt.locs, Pt.cells, Pt.slots] at X' e1 e2 h1 h2 h3 st hcl
    subst h1; subst h2; subst h3
    exact Or.inr ⟨q, (T.setVm vm₁).calling g' mk (Value.ref b :: As).toArray, t, U', L, E, ce, hT, X', hL, e1, e2, hq, hce, hcv, vx_cls hW₁ hcl, st⟩
theorem vx_runS (S : CallFix p m c cc nL s args Ts own) (hM : vx_Met l y ws rm Pc Qc XC mc ms free) (cw : CallB R s args own index y bytes maxL ret ws rm mc ms n ∧ (Cond.static y).before args s = true) (hp : PreS s H Pc As)
    (hg : g.method = m) (hn : As.length = n) (hsize : g.locals.size = nL) (hstack : g.stack = As.reverse ++ rest) (hW : 2 * g.monitorRoom + (rest.map fun v => v.category).sum ≤ 8) (hdg : decode cc g.pc = .ok (.invokestatic index, 3)) (hf : cells + mc ≤ R.cells ∧ slots + ms ≤ R.slots) :
    vx_Run p l e R s m args below meth c H locs cells slots mc ms g rest (Qc As.toArray) XC free := by
  have hK : vx_Back l R p e below s args y 3 8 (PreOf R mc ms Pc) (PostOf Qc mc ms free) (vx_Post XC mc ms free) := vx_callBack cw.1 hM hp.1
  obtain ⟨⟨-, -, -, -, -, -, hcode, hini, hy, hlen, hl⟩, hstt⟩ := cw
  obtain ⟨hx, hb, hml, ho, -⟩ := S
  intro T hT X
  rcases vx_callS X hx (bytes := bytes) (maxL := maxL) (ret := ret) ho hl hstt hini hcode hy hK hg (hsize.trans hml.symm) (argsL := As) (rest := rest) (fun sig h => hn.trans (hlen sig h)) hstack hW (by rw [hb]; exact hdg)
    (fun vm₁ hW₁ => ⟨hf.1, hf.2, hp.2 (T.setVm vm₁) hT hW₁⟩) with ⟨v, vm₁, ⟨U', l2, c2, s2⟩, hW₁, X', ⟨g', mk, t, L, e1, e2, hq, h1, hL, h2, h3⟩, st⟩ | ⟨q, vm₁, ⟨U', l2, c2, s2⟩, hW₁, X', ⟨g', mk, t, L, E, ce, e1, e2, hq, hce, hcv, hcl, h1, hL, h2, h3⟩, st⟩
  · dsimp only [Pt.U, Pt.locs, Pt.cells, Pt.slots] at X' e1 e2 h1 h2 h3 st
    subst h1; subst h2; subst h3
    exact Or.inl ⟨v, (T.setVm vm₁).calling g' mk As.toArray, t, U', L, hT, X', hL, e1, e2, hq, st⟩
  · dsimp only [Pt.U, Pt.locs, Pt.cells, Pt.slots] at X' e1 e2 h1 h2 h3 st hcl
    subst h1; subst h2; subst h3
    exact Or.inr ⟨q, (T.setVm vm₁).calling g' mk As.toArray, t, U', L, E, ce, hT, X', hL, e1, e2, hq, hce, hcv, vx_cls hW₁ hcl, st⟩
end Runs
section Rows
variable {p : Program} {l : Launch} {e : Env} {R : Room} {s : State} {m : MethodId} {args : Array Value} {below : List Frame} {meth : Method} {c : Code} {H : Heap} {locs : List Loc} {cells slots : Nat} {Q : State → Prop}
variable {mc ms : Nat} {free : Addr → Prop} {A0 A1 : Nat → Prop} {H0 : Heap} {a : Array Value} {pc : Nat} {ls : Array Slot} {st0 rest : List Value}
theorem vx_keep {st₀ t T' : State} {L : List Loc} (h0 : st₀.heap = H) (e1 : T'.heap = t.heap) (hS : va_S A0 H0 H locs) (hA : ∀ q, q < H.size → A1 q → A0 q) (hf : ∀ q, free q → A0 q) (hL : ∀ q ∈ L, free q.base) (hF : va_F A1 st₀ t) :
    H.size ≤ T'.heap.size ∧ (∀ q : Nat, q < H.size → ¬ A1 q → T'.heap[q]? = H[q]?) ∧ va_S A0 H0 T'.heap (locs ++ L) := by
  obtain ⟨hz, hk⟩ := hF
  rw [h0] at hz hk
  exact ⟨by rw [e1]; exact hz, fun q h1 h2 => by rw [e1]; exact hk q h1 h2,
    ⟨Nat.le_trans hS.1 (by rw [e1]; exact hz), fun q h1 h2 => by rw [e1, hk q (Nat.lt_of_lt_of_le h1 hS.1) (fun z => h2 (hA q (Nat.lt_of_lt_of_le h1 hS.1) z))]; exact hS.2.1 q h1 h2, fun q hq => by
      rcases List.mem_append.mp hq with h | h
      · exact hS.2.2 q h
      · exact hf _ (hL q h)⟩⟩
theorem vx_calli {S SX : Type} {post : Int32 → S → Prop} {px : SX → Prop} {B : S → State → Prop} {BX : String → SX → State → Prop} {AX : Nat → Prop} (hr : vx_Run p l e R s m args below meth c H locs cells slots mc ms (F0 m pc ls st0) rest (va_Qi post B A1 a) (vx_X px BX AX) free) (hS : va_S A0 H0 H locs) (hA : ∀ q, q < H.size → A1 q → A0 q) (hf : ∀ q, free q → A0 q) (hAX : ∀ q, q < H.size → AX q → A0 q)
    (kx : ∀ (E : String) (ce : Cell) (q9 : Addr) (u : SX) (t : State) (H1 : Heap) (locs1 : List Loc), t.heap = H1 → s.vm.Alike t.vm → px u → BX E u t → H.size ≤ H1.size → (∀ q : Nat, q < H.size → ¬ AX q → H1[q]? = H[q]?) → va_S A0 H0 H1 locs1 → H1[q9]? = some ce → ce.vm = .none → s.vm.findClass E = some ce.cls → vx_W p l e R s m args below meth c H1 locs1 (cells + mc) (slots + ms) Q (F0 m pc ls rest) q9)
    (kk : ∀ (r : Int32) (u : S) (t : State) (H1 : Heap) (locs1 : List Loc), t.heap = H1 → s.vm.Alike t.vm → post r u → B u t → H.size ≤ H1.size → (∀ q : Nat, q < H.size → ¬ A1 q → H1[q]? = H[q]?) → va_S A0 H0 H1 locs1 → W p l e R s m args below meth c H1 locs1 (cells + mc) (slots + ms) Q (F0 m (pc + 3) ls (.int r :: rest))) : W p l e R s m args below meth c H locs cells slots Q (F0 m pc ls st0) := by
  intro T hT X
  rcases hr T hT X with ⟨v, st₀, t, T', L, h0, X', hL, e1, e2, ⟨⟨r, u, hv, hp, hb⟩, hF⟩, st⟩ | ⟨q, st₀, t, T', L, E, ce, h0, X', hL, e1, e2, ⟨u, hp, hb, hF⟩, hce, hcv, hcl, st⟩
  · cases hv
    obtain ⟨k1, k2, k3⟩ := vx_keep h0 e1 hS hA hf hL hF
    obtain ⟨t2, a1, b1⟩ := kk r u t T'.heap (locs ++ L) e1.symm (by rw [← e2]; exact X'.warmed.alike) hp hb k1 k2 k3 T' rfl X'
    exact ⟨t2, st t2 a1, b1⟩
  · obtain ⟨k1, k2, k3⟩ := vx_keep h0 e1 hS hAX hf hL hF
    obtain ⟨t2, a1, b1⟩ := kx E ce q u t T'.heap (locs ++ L) e1.symm (by rw [← e2]; exact X'.warmed.alike) hp hb k1 k2 k3 (by rw [e1]; exact hce) hcv hcl T' rfl X'
    exact ⟨t2, st.trans a1, b1⟩
theorem vx_calll {S SX : Type} {post : Int64 → S → Prop} {px : SX → Prop} {B : S → State → Prop} {BX : String → SX → State → Prop} {AX : Nat → Prop} (hr : vx_Run p l e R s m args below meth c H locs cells slots mc ms (F0 m pc ls st0) rest (va_Ql post B A1 a) (vx_X px BX AX) free) (hS : va_S A0 H0 H locs) (hA : ∀ q, q < H.size → A1 q → A0 q) (hf : ∀ q, free q → A0 q) (hAX : ∀ q, q < H.size → AX q → A0 q)
    (kx : ∀ (E : String) (ce : Cell) (q9 : Addr) (u : SX) (t : State) (H1 : Heap) (locs1 : List Loc), t.heap = H1 → s.vm.Alike t.vm → px u → BX E u t → H.size ≤ H1.size → (∀ q : Nat, q < H.size → ¬ AX q → H1[q]? = H[q]?) → va_S A0 H0 H1 locs1 → H1[q9]? = some ce → ce.vm = .none → s.vm.findClass E = some ce.cls → vx_W p l e R s m args below meth c H1 locs1 (cells + mc) (slots + ms) Q (F0 m pc ls rest) q9)
    (kk : ∀ (r : Int64) (u : S) (t : State) (H1 : Heap) (locs1 : List Loc), t.heap = H1 → s.vm.Alike t.vm → post r u → B u t → H.size ≤ H1.size → (∀ q : Nat, q < H.size → ¬ A1 q → H1[q]? = H[q]?) → va_S A0 H0 H1 locs1 → W p l e R s m args below meth c H1 locs1 (cells + mc) (slots + ms) Q (F0 m (pc + 3) ls (.long r :: rest))) : W p l e R s m args below meth c H locs cells slots Q (F0 m pc ls st0) := by
  intro T hT X
  rcases hr T hT X with ⟨v, st₀, t, T', L, h0, X', hL, e1, e2, ⟨⟨r, u, hv, hp, hb⟩, hF⟩, st⟩ | ⟨q, st₀, t, T', L, E, ce, h0, X', hL, e1, e2, ⟨u, hp, hb, hF⟩, hce, hcv, hcl, st⟩
  · cases hv
    obtain ⟨k1, k2, k3⟩ := vx_keep h0 e1 hS hA hf hL hF
    obtain ⟨t2, a1, b1⟩ := kk r u t T'.heap (locs ++ L) e1.symm (by rw [← e2]; exact X'.warmed.alike) hp hb k1 k2 k3 T' rfl X'
    exact ⟨t2, st t2 a1, b1⟩
  · obtain ⟨k1, k2, k3⟩ := vx_keep h0 e1 hS hAX hf hL hF
    obtain ⟨t2, a1, b1⟩ := kx E ce q u t T'.heap (locs ++ L) e1.symm (by rw [← e2]; exact X'.warmed.alike) hp hb k1 k2 k3 (by rw [e1]; exact hce) hcv hcl T' rfl X'
    exact ⟨t2, st.trans a1, b1⟩
theorem vx_callf {S SX : Type} {post : UInt32 → S → Prop} {px : SX → Prop} {B : S → State → Prop} {BX : String → SX → State → Prop} {AX : Nat → Prop} (hr : vx_Run p l e R s m args below meth c H locs cells slots mc ms (F0 m pc ls st0) rest (va_Qf post B A1 a) (vx_X px BX AX) free) (hS : va_S A0 H0 H locs) (hA : ∀ q, q < H.size → A1 q → A0 q) (hf : ∀ q, free q → A0 q) (hAX : ∀ q, q < H.size → AX q → A0 q)
    (kx : ∀ (E : String) (ce : Cell) (q9 : Addr) (u : SX) (t : State) (H1 : Heap) (locs1 : List Loc), t.heap = H1 → s.vm.Alike t.vm → px u → BX E u t → H.size ≤ H1.size → (∀ q : Nat, q < H.size → ¬ AX q → H1[q]? = H[q]?) → va_S A0 H0 H1 locs1 → H1[q9]? = some ce → ce.vm = .none → s.vm.findClass E = some ce.cls → vx_W p l e R s m args below meth c H1 locs1 (cells + mc) (slots + ms) Q (F0 m pc ls rest) q9)
    (kk : ∀ (r : UInt32) (u : S) (t : State) (H1 : Heap) (locs1 : List Loc), t.heap = H1 → s.vm.Alike t.vm → post r u → B u t → H.size ≤ H1.size → (∀ q : Nat, q < H.size → ¬ A1 q → H1[q]? = H[q]?) → va_S A0 H0 H1 locs1 → W p l e R s m args below meth c H1 locs1 (cells + mc) (slots + ms) Q (F0 m (pc + 3) ls (.float r :: rest))) : W p l e R s m args below meth c H locs cells slots Q (F0 m pc ls st0) := by
  intro T hT X
  rcases hr T hT X with ⟨v, st₀, t, T', L, h0, X', hL, e1, e2, ⟨⟨r, u, hv, hp, hb⟩, hF⟩, st⟩ | ⟨q, st₀, t, T', L, E, ce, h0, X', hL, e1, e2, ⟨u, hp, hb, hF⟩, hce, hcv, hcl, st⟩
  · cases hv
    obtain ⟨k1, k2, k3⟩ := vx_keep h0 e1 hS hA hf hL hF
    obtain ⟨t2, a1, b1⟩ := kk r u t T'.heap (locs ++ L) e1.symm (by rw [← e2]; exact X'.warmed.alike) hp hb k1 k2 k3 T' rfl X'
    exact ⟨t2, st t2 a1, b1⟩
  · obtain ⟨k1, k2, k3⟩ := vx_keep h0 e1 hS hAX hf hL hF
    obtain ⟨t2, a1, b1⟩ := kx E ce q u t T'.heap (locs ++ L) e1.symm (by rw [← e2]; exact X'.warmed.alike) hp hb k1 k2 k3 (by rw [e1]; exact hce) hcv hcl T' rfl X'
    exact ⟨t2, st.trans a1, b1⟩
theorem vx_calld {S SX : Type} {post : UInt64 → S → Prop} {px : SX → Prop} {B : S → State → Prop} {BX : String → SX → State → Prop} {AX : Nat → Prop} (hr : vx_Run p l e R s m args below meth c H locs cells slots mc ms (F0 m pc ls st0) rest (va_Qd post B A1 a) (vx_X px BX AX) free) (hS : va_S A0 H0 H locs) (hA : ∀ q, q < H.size → A1 q → A0 q) (hf : ∀ q, free q → A0 q) (hAX : ∀ q, q < H.size → AX q → A0 q)
    (kx : ∀ (E : String) (ce : Cell) (q9 : Addr) (u : SX) (t : State) (H1 : Heap) (locs1 : List Loc), t.heap = H1 → s.vm.Alike t.vm → px u → BX E u t → H.size ≤ H1.size → (∀ q : Nat, q < H.size → ¬ AX q → H1[q]? = H[q]?) → va_S A0 H0 H1 locs1 → H1[q9]? = some ce → ce.vm = .none → s.vm.findClass E = some ce.cls → vx_W p l e R s m args below meth c H1 locs1 (cells + mc) (slots + ms) Q (F0 m pc ls rest) q9)
    (kk : ∀ (r : UInt64) (u : S) (t : State) (H1 : Heap) (locs1 : List Loc), t.heap = H1 → s.vm.Alike t.vm → post r u → B u t → H.size ≤ H1.size → (∀ q : Nat, q < H.size → ¬ A1 q → H1[q]? = H[q]?) → va_S A0 H0 H1 locs1 → W p l e R s m args below meth c H1 locs1 (cells + mc) (slots + ms) Q (F0 m (pc + 3) ls (.double r :: rest))) : W p l e R s m args below meth c H locs cells slots Q (F0 m pc ls st0) := by
  intro T hT X
  rcases hr T hT X with ⟨v, st₀, t, T', L, h0, X', hL, e1, e2, ⟨⟨r, u, hv, hp, hb⟩, hF⟩, st⟩ | ⟨q, st₀, t, T', L, E, ce, h0, X', hL, e1, e2, ⟨u, hp, hb, hF⟩, hce, hcv, hcl, st⟩
  · cases hv
    obtain ⟨k1, k2, k3⟩ := vx_keep h0 e1 hS hA hf hL hF
    obtain ⟨t2, a1, b1⟩ := kk r u t T'.heap (locs ++ L) e1.symm (by rw [← e2]; exact X'.warmed.alike) hp hb k1 k2 k3 T' rfl X'
    exact ⟨t2, st t2 a1, b1⟩
  · obtain ⟨k1, k2, k3⟩ := vx_keep h0 e1 hS hAX hf hL hF
    obtain ⟨t2, a1, b1⟩ := kx E ce q u t T'.heap (locs ++ L) e1.symm (by rw [← e2]; exact X'.warmed.alike) hp hb k1 k2 k3 (by rw [e1]; exact hce) hcv hcl T' rfl X'
    exact ⟨t2, st.trans a1, b1⟩
theorem vx_callv {S SX : Type} {post : S → Prop} {px : SX → Prop} {B : S → State → Prop} {BX : String → SX → State → Prop} {AX : Nat → Prop} (hr : vx_Run p l e R s m args below meth c H locs cells slots mc ms (F0 m pc ls st0) rest (va_Qv post B A1 a) (vx_X px BX AX) free) (hS : va_S A0 H0 H locs) (hA : ∀ q, q < H.size → A1 q → A0 q) (hf : ∀ q, free q → A0 q) (hAX : ∀ q, q < H.size → AX q → A0 q)
    (kx : ∀ (E : String) (ce : Cell) (q9 : Addr) (u : SX) (t : State) (H1 : Heap) (locs1 : List Loc), t.heap = H1 → s.vm.Alike t.vm → px u → BX E u t → H.size ≤ H1.size → (∀ q : Nat, q < H.size → ¬ AX q → H1[q]? = H[q]?) → va_S A0 H0 H1 locs1 → H1[q9]? = some ce → ce.vm = .none → s.vm.findClass E = some ce.cls → vx_W p l e R s m args below meth c H1 locs1 (cells + mc) (slots + ms) Q (F0 m pc ls rest) q9)
    (kk : ∀ (u : S) (t : State) (H1 : Heap) (locs1 : List Loc), t.heap = H1 → s.vm.Alike t.vm → post u → B u t → H.size ≤ H1.size → (∀ q : Nat, q < H.size → ¬ A1 q → H1[q]? = H[q]?) → va_S A0 H0 H1 locs1 → W p l e R s m args below meth c H1 locs1 (cells + mc) (slots + ms) Q (F0 m (pc + 3) ls (rest))) : W p l e R s m args below meth c H locs cells slots Q (F0 m pc ls st0) := by
  intro T hT X
  rcases hr T hT X with ⟨v, st₀, t, T', L, h0, X', hL, e1, e2, ⟨⟨u, hv, hp, hb⟩, hF⟩, st⟩ | ⟨q, st₀, t, T', L, E, ce, h0, X', hL, e1, e2, ⟨u, hp, hb, hF⟩, hce, hcv, hcl, st⟩
  · cases hv
    obtain ⟨k1, k2, k3⟩ := vx_keep h0 e1 hS hA hf hL hF
    obtain ⟨t2, a1, b1⟩ := kk u t T'.heap (locs ++ L) e1.symm (by rw [← e2]; exact X'.warmed.alike) hp hb k1 k2 k3 T' rfl X'
    exact ⟨t2, st t2 a1, b1⟩
  · obtain ⟨k1, k2, k3⟩ := vx_keep h0 e1 hS hAX hf hL hF
    obtain ⟨t2, a1, b1⟩ := kx E ce q u t T'.heap (locs ++ L) e1.symm (by rw [← e2]; exact X'.warmed.alike) hp hb k1 k2 k3 (by rw [e1]; exact hce) hcv hcl T' rfl X'
    exact ⟨t2, st.trans a1, b1⟩
/-- caught by the row x of this method's table; the rows ahead don't take it -/
theorem vx_catch {own name : String} {E : String} {ce : Cell} {q : Addr} (hown : s.vm.findClass own = some m.cls) (pre : List ExceptionTableEntry) (x : ExceptionTableEntry) (suf : List ExceptionTableEntry) (hsplit : c.exceptionTable.toList = pre ++ x :: suf)
    (hpass : ∀ z ∈ pre, covers z pc = false ∨ (z.catchType ≠ 0 ∧ ∃ nm : String, (Cond.classLink own z.catchType nm).before args s = true ∧ va_Nc E nm s)) (hx : covers x pc = true) (h0 : x.catchType ≠ 0)
    (hlink : (Cond.classLink own x.catchType name).before args s = true) (hcast : (Cond.castable E name).before args s = true) (hcell : H[q]? = some ce) (hv : ce.vm = .none) (hcl : s.vm.findClass E = some ce.cls)
    (kk : W p l e R s m args below meth c H locs cells slots Q (F0 m x.handlerPc ls [.ref q])) : vx_W p l e R s m args below meth c H locs cells slots Q (F0 m pc ls rest) q := by
  intro T hT X
  have hpl : e.platform.magicAccessors = ({} : Platform).magicAccessors := by rw [X.admits.platform]
  obtain ⟨c3, c4, hc3, hc4, hasg⟩ := Cond.castable_spec hcast
  cases Option.some.inj (hc3.symm.trans hcl)
  obtain ⟨c5, hc5, hcl5⟩ := Cond.classLink_spec hown hlink e.platform hpl
  cases Option.some.inj (hc4.symm.trans hc5)
  obtain ⟨vm', X', st⟩ := X.thenCaughtThrough q (g := F0 m pc ls rest) rfl (Steps.refl _) (by rw [hT]; exact hcell) (by rw [hv]; rfl) (by obtain ⟨k9, h9, -⟩ := Vm.findClass_spec hcl; exact ⟨k9, h9⟩) pre x suf hsplit
    (fun z hz => by
      rcases hpass z hz with h | ⟨hz0, nm, hl1, hn1⟩
      · exact Or.inl h
      · obtain ⟨c6, hc6, hcl6⟩ := Cond.classLink_spec hown hl1 e.platform hpl
        obtain ⟨a8, b8, h1, h2, h3⟩ := hn1
        cases Option.some.inj (h1.symm.trans hcl)
        cases Option.some.inj (h2.symm.trans hc6)
        exact Or.inr ⟨hz0, _, hcl6, h3⟩) hx (Or.inr ⟨h0, c4, hcl5, hasg⟩)
  obtain ⟨t, a1, b1⟩ := kk (T.setVm vm') hT X'
  exact ⟨t, st.trans a1, b1⟩
end Rows
section Ends
variable {p : Program} {l : Launch} {e : Env} {R : Room} {s : State} {m : MethodId} {args : Array Value} {below : List Frame} {meth : Method} {c : Code} {H : Heap} {locs : List Loc} {cells slots : Nat} {Q : State → Prop}
variable {mc ms : Nat} {free : Addr → Prop} {A0 A1 : Nat → Prop} {H0 : Heap} {a : Array Value} {ls : Array Slot} {st0 rest : List Value}
variable {Qc : Array Value → State → Outcome → State → Prop} {XC : String → State → State → Prop}
/-- what a body that may throw owes at its end -/
def vx_MQ (below : List Frame) (Qc : Array Value → State → Outcome → State → Prop) (XC : String → State → State → Prop) (a : Array Value) (s : State) (mc ms : Nat) (free : Addr → Prop) : State → Prop := fun t =>
  ∃ o, t.status = .running ∧ Ended t below o ∧ vx_Q Qc XC mc ms free a s o t
theorem vx_ret {g : JFrame} {mc ms : Nat} (k : W p l e R s m args below meth c H locs cells slots (MQ below Qc args s mc ms free) g) : W p l e R s m args below meth c H locs cells slots (vx_MQ below Qc XC args s mc ms free) g := by
  intro T hT X
  obtain ⟨t, a1, o, b1, b2, b3, b4⟩ := k T hT X
  exact ⟨t, a1, o, b1, b2, Or.inl ⟨b3, b4⟩⟩
/-- not caught here: it goes on to the caller -/
theorem vx_widen {g : JFrame} {q : Addr} {k n : Nat} (h1 : cells ≤ k) (h2 : slots ≤ n) (kk : vx_W p l e R s m args below meth c H locs k n Q g q) : vx_W p l e R s m args below meth c H locs cells slots Q g q := fun T hT X => kk T hT (stand_widen X h1 h2)
theorem vx_out {pc : Nat} {E : String} {ce : Cell} {q : Addr} {mc ms : Nat} (hout : ∀ x ∈ c.exceptionTable.toList, covers x pc = false) (hlocks : meth.locks = false) (hcell : H[q]? = some ce) (hv : ce.vm = .none) (hcl : s.vm.findClass E = some ce.cls)
    (hx : ∀ t : State, t.heap = H → s.vm.Alike t.vm → XC E s t) (hf : ∀ z ∈ locs, free z.base) (hc : cells ≤ mc) (hs : slots ≤ ms) :
    vx_W p l e R s m args below meth c H locs cells slots (vx_MQ below Qc XC args s mc ms free) (F0 m pc ls rest) q := by
  intro T hT X
  obtain ⟨st1, hrun, hend, hW, hsm⟩ := X.leaveThrown q (g := F0 m pc ls rest) rfl rfl rfl hout hlocks
  have hcell9 : (T.setFrames (.throwing q :: below)).heap[q]? = some ce := by
    show T.heap[q]? = some ce
    rw [hT]; exact hcell
  exact ⟨_, st1, .threw q, hrun, hend, Or.inr ⟨q, rfl, E, ce, locs, hx _ hT hW.alike, hcell9, hv, hcl, hW, hsm.mono hc hs, hf⟩⟩
theorem vx_frame {U : State} {k n : Nat} (h : s.sameButNew ({ U with vm := s.vm } : State) locs k n) : s.heap.size ≤ U.heap.size ∧ ∀ q : Nat, q < s.heap.size → (∀ z ∈ locs, z.base ≠ q) → U.heap[q]? = s.heap[q]? := by
  obtain ⟨-, h2, -, -, -, h6⟩ := h
  refine ⟨h2, fun q hq hz => ?_⟩
  obtain ⟨c9, e1, e2, e3, e4⟩ := h6 q _ (Array.getElem?_eq_getElem hq)
  have hs : c9.slots = (s.heap[q]).slots := Array.ext_getElem? fun i => e4 i fun hm => hz _ hm rfl
  have h9 : c9 = s.heap[q] := by
    rw [hs] at e2
    exact e2
  have e5 : U.heap[q]? = some c9 := e1
  rw [e5, h9, Array.getElem?_eq_getElem hq]
/-- the words of a throw but the four that speak of the heap -/
def vx_no (w : Cond) : Bool := decide (w ≠ .isRef (.static Bundle.tN "UNASSIGNED_STACK" Bundle.steD)) && decide (w ≠ .isRef (.static Bundle.tN "SUPPRESSED_SENTINEL" Bundle.listD)) && decide (w ≠ .laysStatic Bundle.tN "UNASSIGNED_STACK" Bundle.steD) && decide (w ≠ .laysStatic Bundle.tN "SUPPRESSED_SENTINEL" Bundle.listD)
def vx_at0 (own : String) (ic : Nat) (X : String) (names : List String) : List Cond := (Bundle.ownAtoms0 own ic X names).filter vx_no
def vx_atS (own : String) (ic : Nat) (X : String) (names : List String) : List Cond := (Bundle.ownAtoms own ic X names).filter vx_no
/-- a word that the tables alone decide, or a good one -/
def vx_ot (w : Cond) : Bool := w.onTables || goodWord w
theorem vx_ot_at {args a' : Array Value} {s U : State} {w : Cond} (hW : s.WarmedH U.vm) (hvm : s.vm = U.vm) (hg : vx_ot w = true) (h : w.before args s = true) : w.before a' U = true := by
  simp only [vx_ot, Bool.or_eq_true] at hg
  rcases hg with hg | hg
  · exact va_tabs hg hvm h
  · exact word_at hW (good_of_word hg) h
/-- a list's words: the good ones out of the method's own list, the others by premises of their own -/
theorem vx_hat {args : Array Value} {s : State} {L B : List Cond} (h1 : ∀ w ∈ L.filter goodWord, w.before args s = true) (h2 : ∀ w ∈ L.filter (fun w => !goodWord w), w ∈ B) (h3 : ∀ w ∈ B, w.before args s = true) : ∀ w ∈ L, w.before args s = true := by
  intro w hw
  by_cases g : goodWord w = true
  · exact h1 w (List.mem_filter.mpr ⟨hw, g⟩)
  · refine h3 w (h2 w (List.mem_filter.mpr ⟨hw, ?_⟩))
    show (!goodWord w) = true
    cases hgw : goodWord w
    · rfl
    · exact absurd hgw g
theorem vx_c {args : Array Value} {s : State} {w : Cond} {B : List Cond} (h : w.before args s = true) (t : ∀ w ∈ B, w.before args s = true) : ∀ w' ∈ w :: B, w'.before args s = true := fun w' h' => (List.mem_cons.mp h').elim (fun e => by rw [e]; exact h) (t w')
theorem vx_n {args : Array Value} {s : State} : ∀ w ∈ ([] : List Cond), w.before args s = true := fun _ h => nomatch h
theorem vx_own {args : Array Value} {s : State} {L : List Cond} (h1 : ∀ w ∈ L.filter vx_no, w.before args s = true)
    (hU : (Cond.isRef (.static Bundle.tN "UNASSIGNED_STACK" Bundle.steD)).before args s = true) (hN : (Cond.isRef (.static Bundle.tN "SUPPRESSED_SENTINEL" Bundle.listD)).before args s = true)
    (lU : (Cond.laysStatic Bundle.tN "UNASSIGNED_STACK" Bundle.steD).before args s = true) (lN : (Cond.laysStatic Bundle.tN "SUPPRESSED_SENTINEL" Bundle.listD).before args s = true) : ∀ w ∈ L, w.before args s = true := by
  intro w hw
  by_cases e1 : w = .isRef (.static Bundle.tN "UNASSIGNED_STACK" Bundle.steD)
  · rw [e1]; exact hU
  · by_cases e2 : w = .isRef (.static Bundle.tN "SUPPRESSED_SENTINEL" Bundle.listD)
    · rw [e2]; exact hN
    · by_cases e3 : w = .laysStatic Bundle.tN "UNASSIGNED_STACK" Bundle.steD
      · rw [e3]; exact lU
      · by_cases e4 : w = .laysStatic Bundle.tN "SUPPRESSED_SENTINEL" Bundle.listD
        · rw [e4]; exact lN
        · exact h1 w (List.mem_filter.mpr ⟨hw, by unfold vx_no; rw [decide_eq_true e1, decide_eq_true e2, decide_eq_true e3, decide_eq_true e4]; rfl⟩)
/-- where a static field lies, its class's statics cell in H -/
def vx_L (C n d : String) (A : Nat → Prop) (U : State) (H : Heap) : Prop := ∃ (c : ClassId) (k : Class) (i : Nat) (f : Field) (a : Nat) (cell : Cell), U.vm.findClass C = some c ∧ U.fieldFound? C n d = some (c, k, i, f) ∧ f.isStatic = true ∧ k.statics = some a ∧ H[a]? = some cell ∧ cell.vm.isStatics = true ∧ cell.cls = c ∧ f.slot < cell.slots.size ∧ k.staticTypes[f.slot]? = some f.type ∧ ¬ A a
theorem vx_L.moved {C n d : String} {A : Nat → Prop} {u U : State} {H : Heap} (hvm : u.vm.Alike U.vm) (h : vx_L C n d A u H) : vx_L C n d A U H := by
  obtain ⟨c, k, i, f, a, cell, h1, h2, h3, h4, h5, h6, h7, h8, h9, h10⟩ := h
  obtain ⟨k', hi', he⟩ := State.fieldFound?_setVm hvm h2
  exact ⟨c, k', i, f, a, cell, by rw [hvm.findClass]; exact h1, hi', h3, by rw [he]; exact h4, h5, h6, h7, h8, by rw [he]; exact h9, h10⟩
theorem vx_L.kept {C n d : String} {A : Nat → Prop} {U : State} {H H1 : Heap} (h : vx_L C n d A U H) (hq : ∀ a : Nat, a < H.size → ¬ A a → H1[a]? = H[a]?) : vx_L C n d A U H1 := by
  obtain ⟨c, k, i, f, a, cell, h1, h2, h3, h4, h5, h6, h7, h8, h9, h10⟩ := h
  exact ⟨c, k, i, f, a, cell, h1, h2, h3, h4, by rw [hq a (Array.getElem?_eq_some_iff.mp h5).1 h10]; exact h5, h6, h7, h8, h9, h10⟩
theorem vx_L.narrow {C n d : String} {A B : Nat → Prop} {U : State} {H : Heap} (h : vx_L C n d A U H) (hAB : ∀ q, B q → A q) : vx_L C n d B U H := by
  obtain ⟨c, k, i, f, a, cell, h1, h2, h3, h4, h5, h6, h7, h8, h9, h10⟩ := h
  exact ⟨c, k, i, f, a, cell, h1, h2, h3, h4, h5, h6, h7, h8, h9, fun z => h10 (hAB _ z)⟩
theorem vx_L.word {C n d : String} {A : Nat → Prop} {s : State} {args : Array Value} (h : vx_L C n d A s s.heap) : (Cond.laysStatic C n d).before args s = true := by
  obtain ⟨c, k, i, f, a, cell, h1, h2, h3, h4, h5, h6, h7, h8, h9, -⟩ := h
  show (Cond.laysStatic C n d).holds args s none s [] = true
  exact Cond.laysStatic_of h1 h2 h3 h4 h5 h6 h7 h8 h9
/-- .. and what it holds: null or some reference -/
def vx_Zq (C n d : String) (A : Nat → Prop) (U : State) (H : Heap) : Prop := va_Zq C n d A U H ∧ vx_L C n d A U H
theorem vx_Zq.moved {C n d : String} {A : Nat → Prop} {u U : State} {H : Heap} (hvm : u.vm.Alike U.vm) (h : vx_Zq C n d A u H) : vx_Zq C n d A U H := ⟨va_Zq.moved hvm h.1, vx_L.moved hvm h.2⟩
theorem vx_Zq.kept {C n d : String} {A : Nat → Prop} {U : State} {H H1 : Heap} (h : vx_Zq C n d A U H) (hq : ∀ a : Nat, a < H.size → ¬ A a → H1[a]? = H[a]?) : vx_Zq C n d A U H1 := ⟨va_Zq.kept h.1 hq, vx_L.kept h.2 hq⟩
theorem vx_Zq.narrow {C n d : String} {A B : Nat → Prop} {U : State} {H : Heap} (h : vx_Zq C n d A U H) (hAB : ∀ q, B q → A q) : vx_Zq C n d B U H := ⟨va_Zq.narrow h.1 hAB, vx_L.narrow h.2 hAB⟩
theorem vx_Zqof {args : Array Value} {s : State} {C n d : String} {A : Nat → Prop} (hl : (Cond.laysStatic C n d).before args s = true) (hini : (Cond.initialized C).before args s = true) (h : (Cond.isRef (.static C n d)).before args s = true) (hA : ∀ a : Nat, a < s.heap.size → ¬ A a) : vx_Zq C n d A s s.heap := by
  refine ⟨va_Zqof hl hini h hA, ?_⟩
  obtain ⟨c, k, i, f, a, cell, h1, h2, h3, h4, h5, h6, h7, h8, h9⟩ := Cond.laysStatic_spec hl
  exact ⟨c, k, i, f, a, cell, h1, h2, h3, h4, h5, h6, h7, h8, h9, hA a (Array.getElem?_eq_some_iff.mp h5).1⟩
theorem vx_isRef {C n d : String} {v : Value} {A : Nat → Prop} {s : State} {args : Array Value} (h : va_Z C n d v A s s.heap) (hv : v.isRef = true) : (Cond.isRef (.static C n d)).before args s = true := by
  obtain ⟨cf, kf, fi, f, a, cell, h1, h2, h3, h4, h5, h6, h7, -⟩ := h
  have he : (Term.static C n d).eval args s none [] s = some v := by
    simp [Term.eval, State.fieldNamed?, h1, h2, h4, h5, h6, h7]
  simp only [Cond.before, Cond.holds, Cond.value, he]
  cases v <;> simp_all [Value.isRef]
theorem vx_isRefq {C n d : String} {A : Nat → Prop} {s : State} {args : Array Value} (h : va_Zq C n d A s s.heap) : (Cond.isRef (.static C n d)).before args s = true := by
  rcases h with h | ⟨t, h⟩
  · exact vx_isRef h rfl
  · exact vx_isRef h rfl
/-- the same frame, seen from here: as if the method were called anew in this heap -/
theorem vx_rebase {T : State} (X : Stand p l e R s m args below meth c T locs cells slots) {R' : Room} (hf : R'.frames ≤ R.frames) (hl : R'.locals ≤ R.locals) (hc : cells + R'.cells ≤ R.cells) (hs : slots + R'.slots ≤ R.slots) :
    Stand p l e R' ((T.setVm s.vm).setFrames (.invoking m args :: below)) m args below meth c T [] 0 0 := by
  have htop : (T.setVm s.vm).topJava?.isSome := X.here.top
  have hF : ((T.setVm s.vm).setFrames (.invoking m args :: below)).frames = .invoking m args :: below := State.frames_setFrames _ (State.cur_lt_of_top htop)
  obtain ⟨g₀, hg0⟩ := Option.isSome_iff_exists.mp htop
  obtain ⟨r, hr⟩ := State.topJava?_eq_some.mp hg0
  have hl9 : e.platform.stackLimits (T.setVm s.vm).me = e.platform.stackLimits s.me := X.limits
  have hb9 : (T.setVm s.vm).me.stackBytes = s.me.stackBytes := X.bytes
  refine ⟨X.admits, X.cas, X.clock, hF, ?_, X.hears, X.method, X.code, X.here, X.tail, X.warmed, ?_, ?_, ?_⟩
  · have h := X.room
    have hU : ((T.setVm s.vm).setFrames (.invoking m args :: below)).localsInUse = s.localsInUse := by
      rw [State.localsInUse_invoking hF (meth := meth) (c := c) X.method X.code, State.localsInUse_invoking X.frames X.method X.code]
    simp only [State.hasRoom, Bool.and_eq_true, decide_eq_true_eq] at h ⊢
    obtain ⟨⟨⟨⟨h1, h2, h3, h4, h5, h6⟩, h7⟩, h8⟩, h9⟩ := h
    rw [X.frames, List.length_cons] at h2 h3
    have q1 := X.heapSize
    have q2 := X.used
    simp only [hF, hU, List.length_cons, State.stackLimits_setFrames, State.stackBytes_setFrames, hl9, hb9]
    refine ⟨⟨⟨⟨by omega, by omega, by omega, by omega, by omega, h6⟩, ?_⟩, ?_⟩, X.book⟩
    · show T.heap.size + R'.cells ≤ e.platform.maxCells
      omega
    · show T.slotsUsed + R'.slots ≤ e.platform.maxSlots
      omega
  · rw [State.stackLimits_setFrames]; rfl
  · rw [State.stackBytes_setFrames]; rfl
  · refine ⟨?_, Nat.le_refl _, Nat.le_refl _, ?_, ?_, fun a c9 h9 => ⟨c9, h9, rfl, rfl, fun _ _ => rfl⟩⟩
    · obtain ⟨t, ht, -⟩ := State.frames_cons hr
      show T.setVm s.vm = { ((T.setVm s.vm).setFrames (.invoking m args :: below)).setFrames (T.setVm s.vm).frames with heap := T.heap, slotsUsed := T.slotsUsed }
      rw [State.setFrames_setFrames, State.setFrames_self ht]
      rfl
    · show T.slotsUsed = T.slotsUsed + ((T.heap.toList.drop T.heap.size).map (·.slots.size)).sum
      rw [List.drop_eq_nil_of_le (Nat.le_of_eq Array.length_toList)]
      rfl
    · show ((T.heap.toList.drop T.heap.size).map (·.slots.size)).sum ≤ 0
      rw [List.drop_eq_nil_of_le (Nat.le_of_eq Array.length_toList)]
      exact Nat.le_refl _
/-- 'throw new E()': new; dup; invokespecial; athrow -/
theorem vx_throw0 {cc : ByteArray} {pc : Nat} (hexec : p.tables.exec = Jvm.exec) (hb : c.code = cc) (hl : l.stackTraces = false) {own cls : String} {names : List String} {ik ic mc ms : Nat} {A : Nat → Prop}
    (hown : s.vm.findClass own = some m.cls) (hcls : Bundle.fit cls = true) (hnames : ∀ n ∈ names, Bundle.fit n = true)
    (hk : (Cond.classLink own ik cls).before args s = true) (hini : (Cond.initialized cls).before args s = true) (hat : ∀ w ∈ vx_at0 own ic cls names, w.before args s = true)
    (hgood : ∀ w ∈ Cond.classLink own ik cls :: Cond.initialized cls :: vx_at0 own ic cls names, vx_ot w = true)
    (hU : vx_Zq Bundle.tN "UNASSIGNED_STACK" Bundle.steD A s s.heap) (hN : vx_Zq Bundle.tN "SUPPRESSED_SENTINEL" Bundle.listD A s s.heap) (hS : va_S A s.heap H locs) (hsize : ls.size = c.maxLocals)
    (d0 : decode cc pc = .ok (.new ik, 3)) (d3 : decode cc (pc + 3) = .ok (.dup, 1)) (d4 : decode cc (pc + 4) = .ok (.invokespecial ic, 3)) (d7 : decode cc (pc + 7) = .ok (.athrow, 1))
    (hout : ∀ x ∈ c.exceptionTable.toList, covers x (pc + 7) = false)
    (hRframes : names.length + 3 < R.frames) (hRlocals : (rest.map fun v => v.category).sum + (13 * (names.length + 1) + 42) ≤ R.locals) (hRcells : cells + 1 ≤ R.cells) (hRslots : slots + 6 ≤ R.slots) (hlocks : meth.locks = false)
    (hx : ∀ t : State, s.vm.Alike t.vm → H.size ≤ t.heap.size → (∀ q : Nat, q < H.size → t.heap[q]? = H[q]?) → XC cls s t)
    (hf : ∀ z ∈ locs, free z.base) (hc : cells + 1 ≤ mc) (hs : slots + 6 ≤ ms) :
    W p l e R s m args below meth c H locs cells slots (vx_MQ below Qc XC args s mc ms free) (F0 m pc ls rest) := by
  intro T hT X
  have htr : e.platform.stackTraces = false := (show e.platform.stackTraces = l.stackTraces by rw [X.admits.platform]).trans hl
  have Y := vx_rebase X (R' := { frames := R.frames, locals := R.locals, cells := 1, slots := 6 }) (Nat.le_refl _) (Nat.le_refl _) hRcells hRslots
  obtain ⟨s', hA⟩ : ∃ z, z = (T.setVm s.vm).setFrames (.invoking m args :: below) := ⟨_, rfl⟩
  rw [← hA] at Y
  have hvm : s'.vm = s.vm := by rw [hA]; rfl
  have hhp : s'.heap = H := by rw [hA]; exact hT
  have hW0 : s.WarmedH s'.vm := by rw [hvm]; exact State.WarmedH.refl s
  have hat' : ∀ w ∈ vx_at0 own ic cls names, w.before args s' = true := fun w hw => vx_ot_at hW0 hvm.symm (hgood w (List.mem_cons_of_mem _ (List.mem_cons_of_mem _ hw))) (hat w hw)
  have hk' : (Cond.classLink own ik cls).before args s' = true := vx_ot_at hW0 hvm.symm (hgood _ List.mem_cons_self) hk
  have hini' : (Cond.initialized cls).before args s' = true := vx_ot_at hW0 hvm.symm (hgood _ (List.mem_cons_of_mem _ List.mem_cons_self)) hini
  have hU' : vx_Zq Bundle.tN "UNASSIGNED_STACK" Bundle.steD A s' s'.heap := by rw [hhp]; exact vx_Zq.moved hW0.alike (hU.kept hS.2.1)
  have hN' : vx_Zq Bundle.tN "SUPPRESSED_SENTINEL" Bundle.listD A s' s'.heap := by rw [hhp]; exact vx_Zq.moved hW0.alike (hN.kept hS.2.1)
  have h : ∀ w ∈ Bundle.ownAtoms0 own ic cls names, w.before args s' = true := vx_own hat' (vx_isRefq hU'.1) (vx_isRefq hN'.1) hU'.2.word hN'.2.word
  have hown' : s'.vm.findClass own = some m.cls := by rw [hvm]; exact hown
  have hins : (Cond.instantiable cls 6).before args s' = true := h _ (by simp [Bundle.ownAtoms0])
  obtain ⟨vm₁, cX, kX, hfX, hkX, -, -, X₁, st1⟩ := Y.newCold hexec (own := own) (C := cls) (index := ik) (n := 6) hown' hk' hins hini'
    (g := F0 m pc ls rest) rfl (by rw [hb]; exact d0) (Nat.le_refl _) (Nat.le_refl _)
  generalize hT1 : (T.setVm vm₁).pushCell { cls := cX, slots := kX.instanceTypes.map defaultValue, vm := .none } = T1 at X₁ st1
  have hcat : (Value.ref T.heap.size).category = 1 := rfl
  have hcellA : T1.heap[T.heap.size]? = some (freshCell cX kX) := by rw [← hT1]; exact State.heap_pushCell_size _ _
  have d3' : decode c.code (pc + 3) = .ok (.dup, 1) := by rw [hb]; exact d3
  obtain ⟨U, hsteps, hrun, hend, hW, hsame, ce, hce, hO⟩ := X₁.ctorThrow0 hexec htr (own := own) (cls := cls) (names := names) (ic := ic) hown' hcls hnames h (fun x hx => nomatch hx) hfX hkX hcellA (by rw [hhp, hT]; exact Nat.le_refl _)
    (g := { method := m, pc := pc + 4, locals := ls, stack := .ref T.heap.size :: .ref T.heap.size :: rest, locked := none }) rfl hsize rfl rfl (rest := rest) rfl
    (by rw [hb]; exact d4) (by rw [hb]; exact d7) hout hRframes (by simp only [List.map_cons, List.sum_cons, hcat]; omega) hlocks
  obtain ⟨f1, f2⟩ := vx_frame hsame
  rw [hhp] at f1 f2
  have hWs : s.WarmedH U.vm := State.WarmedH.trans hW0 hW
  have hcl : s.vm.findClass cls = some ce.cls := by
    have h9 := hO.cls
    rw [hvm] at h9
    exact h9
  have hall : s.sameButNew ({ U with vm := s.vm } : State) locs mc ms := by
    subst hA
    obtain ⟨e1, e2⟩ := hsame
    rw [State.setFrames_setFrames] at e1
    have h2 : (T.setVm s.vm).sameButNew ({ U with vm := s.vm } : State) [] (0 + 1) (0 + 6) := ⟨e1, e2⟩
    have h3 := X.same.trans h2
    rw [List.append_nil] at h3
    exact h3.mono hc hs
  refine ⟨U, ?_, .threw T.heap.size, hrun, hend, Or.inr ⟨T.heap.size, rfl, cls, ce, locs, hx U hWs.alike f1 (fun q hq => f2 q hq (fun z hz => nomatch hz)), hce, hO.vm, hcl, hWs, hall, hf⟩⟩
  refine st1 _ ?_
  show Steps p.tables e below (T1.setTop { method := m, pc := pc + 3, locals := ls, stack := .ref T.heap.size :: rest, locked := none }) _
  jvm_step X₁.here [X₁.here.top, hexec, d3', Value.category]
  exact hsteps
/-- 'throw new E("text")': new; dup; ldc; invokespecial; athrow -/
theorem vx_throwS {cc : ByteArray} {pc : Nat} (hexec : p.tables.exec = Jvm.exec) (hb : c.code = cc) (hl : l.stackTraces = false) {own cls text : String} {names : List String} {ik is ic mc ms sa : Nat} {A : Nat → Prop}
    (hown : s.vm.findClass own = some m.cls) (hcls : Bundle.fit cls = true) (hnames : ∀ n ∈ names, Bundle.fit n = true)
    (hk : (Cond.classLink own ik cls).before args s = true) (hini : (Cond.initialized cls).before args s = true) (hstr : vk_R own is text sa s) (hat : ∀ w ∈ vx_atS own ic cls names, w.before args s = true)
    (hgood : ∀ w ∈ Cond.classLink own ik cls :: Cond.initialized cls :: vx_atS own ic cls names, vx_ot w = true)
    (hU : vx_Zq Bundle.tN "UNASSIGNED_STACK" Bundle.steD A s s.heap) (hN : vx_Zq Bundle.tN "SUPPRESSED_SENTINEL" Bundle.listD A s s.heap) (hS : va_S A s.heap H locs) (hsize : ls.size = c.maxLocals)
    (d0 : decode cc pc = .ok (.new ik, 3)) (d3 : decode cc (pc + 3) = .ok (.dup, 1)) (d4 : decode cc (pc + 4) = .ok (.ldc is, 2)) (d6 : decode cc (pc + 6) = .ok (.invokespecial ic, 3)) (d9 : decode cc (pc + 9) = .ok (.athrow, 1))
    (hout : ∀ x ∈ c.exceptionTable.toList, covers x (pc + 9) = false)
    (hRframes : names.length + 3 < R.frames) (hRlocals : (rest.map fun v => v.category).sum + (13 * (names.length + 1) + 43) ≤ R.locals) (hRcells : cells + 1 ≤ R.cells) (hRslots : slots + 6 ≤ R.slots) (hlocks : meth.locks = false)
    (hx : ∀ t : State, s.vm.Alike t.vm → H.size ≤ t.heap.size → (∀ q : Nat, q < H.size → t.heap[q]? = H[q]?) → XC cls s t)
    (hf : ∀ z ∈ locs, free z.base) (hc : cells + 1 ≤ mc) (hs : slots + 6 ≤ ms) :
    W p l e R s m args below meth c H locs cells slots (vx_MQ below Qc XC args s mc ms free) (F0 m pc ls rest) := by
  intro T hT X
  have htr : e.platform.stackTraces = false := (show e.platform.stackTraces = l.stackTraces by rw [X.admits.platform]).trans hl
  have Y := vx_rebase X (R' := { frames := R.frames, locals := R.locals, cells := 1, slots := 6 }) (Nat.le_refl _) (Nat.le_refl _) hRcells hRslots
  obtain ⟨s', hA⟩ : ∃ z, z = (T.setVm s.vm).setFrames (.invoking m args :: below) := ⟨_, rfl⟩
  rw [← hA] at Y
  have hvm : s'.vm = s.vm := by rw [hA]; rfl
  have hhp : s'.heap = H := by rw [hA]; exact hT
  have hW0 : s.WarmedH s'.vm := by rw [hvm]; exact State.WarmedH.refl s
  have hat' : ∀ w ∈ vx_atS own ic cls names, w.before args s' = true := fun w hw => vx_ot_at hW0 hvm.symm (hgood w (List.mem_cons_of_mem _ (List.mem_cons_of_mem _ hw))) (hat w hw)
  have hk' : (Cond.classLink own ik cls).before args s' = true := vx_ot_at hW0 hvm.symm (hgood _ List.mem_cons_self) hk
  have hini' : (Cond.initialized cls).before args s' = true := vx_ot_at hW0 hvm.symm (hgood _ (List.mem_cons_of_mem _ List.mem_cons_self)) hini
  have hU' : vx_Zq Bundle.tN "UNASSIGNED_STACK" Bundle.steD A s' s'.heap := by rw [hhp]; exact vx_Zq.moved hW0.alike (hU.kept hS.2.1)
  have hN' : vx_Zq Bundle.tN "SUPPRESSED_SENTINEL" Bundle.listD A s' s'.heap := by rw [hhp]; exact vx_Zq.moved hW0.alike (hN.kept hS.2.1)
  have h : ∀ w ∈ Bundle.ownAtoms own ic cls names, w.before args s' = true := vx_own hat' (vx_isRefq hU'.1) (vx_isRefq hN'.1) hU'.2.word hN'.2.word
  have hown' : s'.vm.findClass own = some m.cls := by rw [hvm]; exact hown
  have hins : (Cond.instantiable cls 6).before args s' = true := h _ (by simp [Bundle.ownAtoms])
  obtain ⟨vm₁, cX, kX, hfX, hkX, -, -, X₁, st1⟩ := Y.newCold hexec (own := own) (C := cls) (index := ik) (n := 6) hown' hk' hins hini'
    (g := F0 m pc ls rest) rfl (by rw [hb]; exact d0) (Nat.le_refl _) (Nat.le_refl _)
  generalize hT1 : (T.setVm vm₁).pushCell { cls := cX, slots := kX.instanceTypes.map defaultValue, vm := .none } = T1 at X₁ st1
  have hcat : (Value.ref T.heap.size).category = 1 := rfl
  have hcellA : T1.heap[T.heap.size]? = some (freshCell cX kX) := by rw [← hT1]; exact State.heap_pushCell_size _ _
  have d3' : decode c.code (pc + 3) = .ok (.dup, 1) := by rw [hb]; exact d3
  have d4' : decode c.code (pc + 4) = .ok (.ldc is, 2) := by rw [hb]; exact d4
  have hstr' : vk_R own is text sa s' := vk_R.warm hW0 hstr
  obtain ⟨U, hsteps, hrun, hend, hW, hsame, ce, hce, hO⟩ := X₁.ctorThrowS hexec htr (own := own) (cls := cls) (names := names) (ic := ic) hown' hcls hnames h (fun x hx => nomatch hx) hfX hkX hcellA (by rw [hhp, hT]; exact Nat.le_refl _) (msg := .ref sa) rfl
    (g := { method := m, pc := pc + 6, locals := ls, stack := .ref sa :: .ref T.heap.size :: .ref T.heap.size :: rest, locked := none }) rfl hsize rfl rfl (rest := rest) rfl
    (by rw [hb]; exact d6) (by rw [hb]; exact d9) hout hRframes (by simp only [List.map_cons, List.sum_cons, hcat]; omega) hlocks
  obtain ⟨f1, f2⟩ := vx_frame hsame
  rw [hhp] at f1 f2
  have hWs : s.WarmedH U.vm := State.WarmedH.trans hW0 hW
  have hcl : s.vm.findClass cls = some ce.cls := by
    have h9 := hO.cls
    rw [hvm] at h9
    exact h9
  have hall : s.sameButNew ({ U with vm := s.vm } : State) locs mc ms := by
    subst hA
    obtain ⟨e1, e2⟩ := hsame
    rw [State.setFrames_setFrames] at e1
    have h2 : (T.setVm s.vm).sameButNew ({ U with vm := s.vm } : State) [] (0 + 1) (0 + 6) := ⟨e1, e2⟩
    have h3 := X.same.trans h2
    rw [List.append_nil] at h3
    exact h3.mono hc hs
  refine ⟨U, ?_, .threw T.heap.size, hrun, hend, Or.inr ⟨T.heap.size, rfl, cls, ce, locs, hx U hWs.alike f1 (fun q hq => f2 q hq (fun z hz => nomatch hz)), hce, hO.vm, hcl, hWs, hall, hf⟩⟩
  refine st1 _ ?_
  show Steps p.tables e below (T1.setTop { method := m, pc := pc + 3, locals := ls, stack := .ref T.heap.size :: rest, locked := none }) _
  jvm_step X₁.here [X₁.here.top, hexec, d3', Value.category]
  exact X₁.ldcString hexec (own := own) (text := text) (index := is) (a := sa) hown' hstr'.1 hstr'.2
    (g := { method := m, pc := pc + 4, locals := ls, stack := .ref T.heap.size :: .ref T.heap.size :: rest, locked := none }) rfl d4' _ hsteps
/-- 'throw new E("text")', the text by a wide index -/
theorem vx_throwSW {cc : ByteArray} {pc : Nat} (hexec : p.tables.exec = Jvm.exec) (hb : c.code = cc) (hl : l.stackTraces = false) {own cls text : String} {names : List String} {ik is ic mc ms sa : Nat} {A : Nat → Prop}
    (hown : s.vm.findClass own = some m.cls) (hcls : Bundle.fit cls = true) (hnames : ∀ n ∈ names, Bundle.fit n = true)
    (hk : (Cond.classLink own ik cls).before args s = true) (hini : (Cond.initialized cls).before args s = true) (hstr : vk_R own is text sa s) (hat : ∀ w ∈ vx_atS own ic cls names, w.before args s = true)
    (hgood : ∀ w ∈ Cond.classLink own ik cls :: Cond.initialized cls :: vx_atS own ic cls names, vx_ot w = true)
    (hU : vx_Zq Bundle.tN "UNASSIGNED_STACK" Bundle.steD A s s.heap) (hN : vx_Zq Bundle.tN "SUPPRESSED_SENTINEL" Bundle.listD A s s.heap) (hS : va_S A s.heap H locs) (hsize : ls.size = c.maxLocals)
    (d0 : decode cc pc = .ok (.new ik, 3)) (d3 : decode cc (pc + 3) = .ok (.dup, 1)) (d4 : decode cc (pc + 4) = .ok (.ldc_w is, 3)) (d7 : decode cc (pc + 7) = .ok (.invokespecial ic, 3)) (d10 : decode cc (pc + 10) = .ok (.athrow, 1))
    (hout : ∀ x ∈ c.exceptionTable.toList, covers x (pc + 10) = false)
    (hRframes : names.length + 3 < R.frames) (hRlocals : (rest.map fun v => v.category).sum + (13 * (names.length + 1) + 43) ≤ R.locals) (hRcells : cells + 1 ≤ R.cells) (hRslots : slots + 6 ≤ R.slots) (hlocks : meth.locks = false)
    (hx : ∀ t : State, s.vm.Alike t.vm → H.size ≤ t.heap.size → (∀ q : Nat, q < H.size → t.heap[q]? = H[q]?) → XC cls s t)
    (hf : ∀ z ∈ locs, free z.base) (hc : cells + 1 ≤ mc) (hs : slots + 6 ≤ ms) :
    W p l e R s m args below meth c H locs cells slots (vx_MQ below Qc XC args s mc ms free) (F0 m pc ls rest) := by
  intro T hT X
  have htr : e.platform.stackTraces = false := (show e.platform.stackTraces = l.stackTraces by rw [X.admits.platform]).trans hl
  have Y := vx_rebase X (R' := { frames := R.frames, locals := R.locals, cells := 1, slots := 6 }) (Nat.le_refl _) (Nat.le_refl _) hRcells hRslots
  obtain ⟨s', hA⟩ : ∃ z, z = (T.setVm s.vm).setFrames (.invoking m args :: below) := ⟨_, rfl⟩
  rw [← hA] at Y
  have hvm : s'.vm = s.vm := by rw [hA]; rfl
  have hhp : s'.heap = H := by rw [hA]; exact hT
  have hW0 : s.WarmedH s'.vm := by rw [hvm]; exact State.WarmedH.refl s
  have hat' : ∀ w ∈ vx_atS own ic cls names, w.before args s' = true := fun w hw => vx_ot_at hW0 hvm.symm (hgood w (List.mem_cons_of_mem _ (List.mem_cons_of_mem _ hw))) (hat w hw)
  have hk' : (Cond.classLink own ik cls).before args s' = true := vx_ot_at hW0 hvm.symm (hgood _ List.mem_cons_self) hk
  have hini' : (Cond.initialized cls).before args s' = true := vx_ot_at hW0 hvm.symm (hgood _ (List.mem_cons_of_mem _ List.mem_cons_self)) hini
  have hU' : vx_Zq Bundle.tN "UNASSIGNED_STACK" Bundle.steD A s' s'.heap := by rw [hhp]; exact vx_Zq.moved hW0.alike (hU.kept hS.2.1)
  have hN' : vx_Zq Bundle.tN "SUPPRESSED_SENTINEL" Bundle.listD A s' s'.heap := by rw [hhp]; exact vx_Zq.moved hW0.alike (hN.kept hS.2.1)
  have h : ∀ w ∈ Bundle.ownAtoms own ic cls names, w.before args s' = true := vx_own hat' (vx_isRefq hU'.1) (vx_isRefq hN'.1) hU'.2.word hN'.2.word
  have hown' : s'.vm.findClass own = some m.cls := by rw [hvm]; exact hown
  have hins : (Cond.instantiable cls 6).before args s' = true := h _ (by simp [Bundle.ownAtoms])
  obtain ⟨vm₁, cX, kX, hfX, hkX, -, -, X₁, st1⟩ := Y.newCold hexec (own := own) (C := cls) (index := ik) (n := 6) hown' hk' hins hini'
    (g := F0 m pc ls rest) rfl (by rw [hb]; exact d0) (Nat.le_refl _) (Nat.le_refl _)
  generalize hT1 : (T.setVm vm₁).pushCell { cls := cX, slots := kX.instanceTypes.map defaultValue, vm := .none } = T1 at X₁ st1
  have hcat : (Value.ref T.heap.size).category = 1 := rfl
  have hcellA : T1.heap[T.heap.size]? = some (freshCell cX kX) := by rw [← hT1]; exact State.heap_pushCell_size _ _
  have d3' : decode c.code (pc + 3) = .ok (.dup, 1) := by rw [hb]; exact d3
  have d4' : decode c.code (pc + 4) = .ok (.ldc_w is, 3) := by rw [hb]; exact d4
  have hstr' : vk_R own is text sa s' := vk_R.warm hW0 hstr
  obtain ⟨U, hsteps, hrun, hend, hW, hsame, ce, hce, hO⟩ := X₁.ctorThrowS hexec htr (own := own) (cls := cls) (names := names) (ic := ic) hown' hcls hnames h (fun x hx => nomatch hx) hfX hkX hcellA (by rw [hhp, hT]; exact Nat.le_refl _) (msg := .ref sa) rfl
    (g := { method := m, pc := pc + 7, locals := ls, stack := .ref sa :: .ref T.heap.size :: .ref T.heap.size :: rest, locked := none }) rfl hsize rfl rfl (rest := rest) rfl
    (by rw [hb]; exact d7) (by rw [hb]; exact d10) hout hRframes (by simp only [List.map_cons, List.sum_cons, hcat]; omega) hlocks
  obtain ⟨f1, f2⟩ := vx_frame hsame
  rw [hhp] at f1 f2
  have hWs : s.WarmedH U.vm := State.WarmedH.trans hW0 hW
  have hcl : s.vm.findClass cls = some ce.cls := by
    have h9 := hO.cls
    rw [hvm] at h9
    exact h9
  have hall : s.sameButNew ({ U with vm := s.vm } : State) locs mc ms := by
    subst hA
    obtain ⟨e1, e2⟩ := hsame
    rw [State.setFrames_setFrames] at e1
    have h2 : (T.setVm s.vm).sameButNew ({ U with vm := s.vm } : State) [] (0 + 1) (0 + 6) := ⟨e1, e2⟩
    have h3 := X.same.trans h2
    rw [List.append_nil] at h3
    exact h3.mono hc hs
  refine ⟨U, ?_, .threw T.heap.size, hrun, hend, Or.inr ⟨T.heap.size, rfl, cls, ce, locs, hx U hWs.alike f1 (fun q hq => f2 q hq (fun z hz => nomatch hz)), hce, hO.vm, hcl, hWs, hall, hf⟩⟩
  refine st1 _ ?_
  show Steps p.tables e below (T1.setTop { method := m, pc := pc + 3, locals := ls, stack := .ref T.heap.size :: rest, locked := none }) _
  jvm_step X₁.here [X₁.here.top, hexec, d3', Value.category]
  exact X₁.ldcStringW hexec (own := own) (text := text) (index := is) (a := sa) hown' hstr'.1 hstr'.2
    (g := { method := m, pc := pc + 4, locals := ls, stack := .ref T.heap.size :: .ref T.heap.size :: rest, locked := none }) rfl d4' _ hsteps
end Ends
section Bodies
variable {l : Launch}
theorem vx_ofW {y : MethodName} {ws ws' : List Cond} {rm : Room} {Pc : Array Value → State → Prop} {Qc : Array Value → State → Outcome → State → Prop} {XC : String → State → State → Prop} {mc ms : Nat} {free : Addr → Prop} {cc : ByteArray} {maxL : Nat} {ret : Option FieldType}
    (hy : plainName y.cls = true) (hw : ws = Cond.code y cc maxL ret :: ws')
    (body : ∀ p e s m args below meth c s₁, BodyLoose p l y (headSpec ws rm) cc maxL ret e s m args below meth c s₁ → c.maxLocals = maxL → (∀ x ∈ c.exceptionTable.toList, False) → Pc args s →
      W p l e (headSpec ws rm).room s m args below meth c s.heap [] 0 0 (vx_MQ below Qc XC args s mc ms free) (entryFrame m args maxL)) : vx_Met l y ws rm Pc Qc XC mc ms free := by
  refine MetFree.of_bodyS (code := cc) (maxLocals := maxL) (ret := ret) hy ?_ ?_
  · intro args s m h hn
    obtain ⟨meth, c, h1, h2, h3, h4, h5, h6, -, -⟩ := Cond.code_spec hn (atoms_spec (ws := ws) h _ (by rw [hw]; exact List.mem_cons_self))
    exact ⟨meth, c, h1, h2, h3, h4, h5, h6⟩
  · intro p e s m args below meth c s₁ B hml hP _
    have hh0 : s₁.heap = s.heap := by rw [B.state]; rfl
    have ht : ∀ x ∈ c.exceptionTable.toList, False := by
      obtain ⟨meth9, c9, h1, h2, -, -, -, -, h7, -⟩ := Cond.code_spec B.named (atoms_spec (ws := ws) B.pre _ (by rw [hw]; exact List.mem_cons_self))
      cases Option.some.inj (h1.symm.trans B.method)
      cases Option.some.inj (h2.symm.trans (Stand.of_body B).code)
      intro x hx
      rw [Array.isEmpty_iff.mp h7] at hx
      cases hx
    obtain ⟨t, a1, o, b1, b2, b3⟩ := body p e s m args below meth c s₁ B hml ht hP s₁ hh0 (Stand.of_body B)
    exact ⟨t, o, a1, b1, b2, b3⟩
/-- the table of a body with handlers -/
theorem vx_table {p : Program} {x y : MethodName} {S : Spec} {cc bytes : ByteArray} {maxL maxL' : Nat} {ret ret' : Option FieldType} {e : Env} {s s₁ : State} {m : MethodId} {args : Array Value} {below : List Frame} {meth : Method} {c : Code} {hh : List (Nat × Nat × Nat × Nat)}
    (B : BodyLoose p l y S cc maxL ret e s m args below meth c s₁) (h : (Cond.codeWith y bytes maxL' ret' hh).before args s = true) : c.exceptionTable.toList = tableOf hh := by
  obtain ⟨m9, meth9, c9, hn9, h1, h2, -, -, h6, -⟩ := Cond.codeWith_spec h
  cases Option.some.inj (hn9.symm.trans B.named)
  cases Option.some.inj (h1.symm.trans B.method)
  cases Option.some.inj (h2.symm.trans (Stand.of_body B).code)
  rw [← h6, table_eq]
end Bodies
end VXA
/-! ===== END ===== -/
/-! ===== BEGIN a static call of a method with an exception table ===== -/
section VXS
variable {p : Program} {l : Launch} {e : Env} {R : Room} {s : State} {m : MethodId} {args : Array Value} {below : List Frame} {meth : Method} {c : Code} {T : State} {H : Heap} {locs : List Loc} {cells slots : Nat}
abbrev vx_CSW (R : Room) (s : State) (args : Array Value) (own : String) (index : Nat) (y : MethodName) (bytes : ByteArray) (maxL : Nat) (ret : Option FieldType) (hh : List (Nat × Nat × Nat × Nat)) (ws : List Cond) (rm : Room) (mc ms n : Nat) : Prop :=
  (rm.cells = mc ∧ rm.slots = ms ∧ rm.frames + 1 ≤ R.frames ∧ 8 + (maxL + 11) + rm.locals ≤ R.locals ∧ (∀ w ∈ ws, ∀ (a' : Array Value) (U : State), s.WarmedH U.vm → w.before a' U = true) ∧ Cond.codeWith y bytes maxL ret hh ∈ ws) ∧
  (Cond.codeWith y bytes maxL ret hh).before args s = true ∧ (Cond.initialized y.cls).before args s = true ∧ (y.cls ≠ "java/lang/invoke/MethodHandle" ∧ y.cls ≠ "java/lang/invoke/VarHandle") ∧
  (∀ sig, parseMethodDescriptor y.desc = some sig → n = sig.parameters.length) ∧ (Cond.methodLink own index y).before args s = true ∧ (Cond.static y).before args s = true
theorem vx_cwSW {own : String} {index maxL mc ms : Nat} {y : MethodName} {bytes : ByteArray} {ret : Option FieldType} {hh : List (Nat × Nat × Nat × Nat)} {Ts ws ws' : List Cond} {rm : Room} (n : Nat) (ht : ∀ w ∈ Ts, w.before args s = true) (hT : GoodIn Ts (va_wsS own index y ws)) (hw : ws = Cond.codeWith y bytes maxL ret hh :: ws') (hrc : rm.cells = mc) (hrs : rm.slots = ms)
    (hd : y.cls ≠ "java/lang/invoke/MethodHandle" ∧ y.cls ≠ "java/lang/invoke/VarHandle" ∧ (parseMethodDescriptor y.desc).map (fun d => d.parameters.length) = some n) (hR : rm.frames + 1 ≤ R.frames ∧ 8 + (maxL + 11) + rm.locals ≤ R.locals) :
    vx_CSW R s args own index y bytes maxL ret hh ws rm mc ms n := by
  have ok : ∀ w ∈ va_wsS own index y ws, w.before args s = true := fun w h => ht w (hT w h).1
  have hG : GoodIn Ts ws := fun w h => hT w (by unfold va_wsS; exact List.mem_append_right _ h)
  have hc : Cond.codeWith y bytes maxL ret hh ∈ ws := by rw [hw]; exact List.mem_cons_self
  refine ⟨⟨hrc, hrs, hR.1, hR.2, pay_in ht hG, hc⟩, ht _ (hG _ hc).1, ok _ (by simp [va_wsS]), ⟨hd.1, hd.2.1⟩, fun sig h => ?_, ok _ (by simp [va_wsS]), ok _ (by simp [va_wsS])⟩
  have h2 := hd.2.2
  rw [h] at h2
  exact (Option.some.inj h2).symm
theorem vx_callSW (X : Stand p l e R s m args below meth c T locs cells slots) (hexec : p.tables.exec = Jvm.exec) {own : String} {index : Nat} {y : MethodName} {bytes : ByteArray} {maxL : Nat} {ret : Option FieldType} {hh : List (Nat × Nat × Nat × Nat)}
    (hown : s.vm.findClass own = some m.cls) (hlink : (Cond.methodLink own index y).before args s = true) (hstat : (Cond.static y).before args s = true) (hinit : (Cond.initialized y.cls).before args s = true)
    (hcode : (Cond.codeWith y bytes maxL ret hh).before args s = true) (hy : y.cls ≠ "java/lang/invoke/MethodHandle" ∧ y.cls ≠ "java/lang/invoke/VarHandle")
    {W9 : Nat} {Pre : Pt → Array Value → Prop} {Post : Pt → Array Value → Option Value → Pt → Prop} (hK : Back l R p e below s args y 3 W9 Pre Post)
    {g : JFrame} (hg : g.method = m) (hsize : g.locals.size = c.maxLocals) {argsL rest : List Value} (hlen : ∀ sig, parseMethodDescriptor y.desc = some sig → argsL.length = sig.parameters.length)
    (hstack : g.stack = argsL.reverse ++ rest) (hW : 2 * g.monitorRoom + (rest.map fun v => v.category).sum ≤ W9) (hdg : decode c.code g.pc = .ok (.invokestatic index, 3))
    (hpre : ∀ vm₁, s.WarmedH vm₁ → Pre ⟨T.setVm vm₁, locs, cells, slots⟩ argsL.toArray) :
    ∃ (v : Option Value) (vm₁ : Vm) (B : Pt), s.WarmedH vm₁ ∧ Stand p l e R s m args below meth c B.U B.locs B.cells B.slots ∧ Post ⟨T.setVm vm₁, locs, cells, slots⟩ argsL.toArray v B ∧
      ∀ target, Steps p.tables e below (B.U.setTop { g with pc := g.pc + 3, stack := v.toList ++ rest }) target → Steps p.tables e below (T.setTop g) target := by
  obtain ⟨mk, methM, cM, hnamed, hmethM, -, -, -, -, -, -, hsigM⟩ := Cond.codeWith_spec hcode
  have hstatic : methM.isStatic = true := Cond.static_spec hnamed hmethM hstat
  obtain ⟨kP, hkP, -⟩ := className_of_methodNamed hnamed
  have hinitP : kP.init = .initialized := Cond.initialized_spec (findClass_of_methodNamed hnamed) hkP hinit
  obtain ⟨vm₁, X₁, hstep₁⟩ := X.invokestatic hexec hown hlink hnamed hmethM hstatic hkP hinitP hy (g := g) hg (argsL := argsL) (rest := rest) (hlen _ hsigM) hstack hdg
  obtain ⟨v, B, X', hpost, hsteps⟩ := hK m meth c ⟨T.setVm vm₁, locs, cells, slots⟩ { g with stack := rest } (.invokestatic index) mk argsL.toArray X₁ hg hsize hdg hW (X₁.named hnamed) (hpre vm₁ X₁.warmed)
  exact ⟨v, vm₁, B, X₁.warmed, X', hpost, fun target h => hstep₁ _ fun acts => by rw [doInvoke_state]; exact hsteps.trans h⟩
theorem vx_runSW {y : MethodName} {bytes cc : ByteArray} {maxL nL mc ms n index : Nat} {ret : Option FieldType} {hh : List (Nat × Nat × Nat × Nat)} {ws : List Cond} {rm : Room} {Pc : Array Value → State → Prop} {Qc : Array Value → State → Outcome → State → Prop} {free : Addr → Prop} {Ts : List Cond} {own : String} {As rest : List Value} {g : JFrame}
    (S : CallFix p m c cc nL s args Ts own) (hM : Met l y ws rm Pc Qc mc ms free) (cw : vx_CSW R s args own index y bytes maxL ret hh ws rm mc ms n) (hp : PreS s H Pc As)
    (hg : g.method = m) (hn : As.length = n) (hsize : g.locals.size = nL) (hstack : g.stack = As.reverse ++ rest) (hW : 2 * g.monitorRoom + (rest.map fun v => v.category).sum ≤ 8) (hdg : decode cc g.pc = .ok (.invokestatic index, 3)) (hf : cells + mc ≤ R.cells ∧ slots + ms ≤ R.slots) :
    va_Run p l e R s m args below meth c H locs cells slots mc ms g rest (Qc As.toArray) (free) := by
  obtain ⟨⟨hrc, hrs, hfr, hlo, hws, hcw⟩, hcode, hini, hy, hlen, hl, hstt⟩ := cw
  have hK : Back l R p e below s args y 3 8 (PreOf R mc ms Pc) (PostOf Qc mc ms free) := va_backW (hh := hh) (bytes := bytes) (maxL := maxL) (ret := ret) hM hp.1 hrc hrs hfr hlo hws hcw (fun a' U hW => word_at hW (Or.inl (by first | rfl | simp [Cond.onTables, Cond.keeps, Cond.steady])) hini)
  obtain ⟨hx, hb, hml, ho, -⟩ := S
  intro T hT X
  obtain ⟨v, vm₁, ⟨U', l2, c2, s2⟩, hW₁, X', ⟨g', mk, t, L, e1, e2, hq, h1, hL, h2, h3⟩, st⟩ := vx_callSW X hx (hh := hh) (bytes := bytes) (maxL := maxL) (ret := ret) ho hl hstt hini hcode hy hK hg (hsize.trans hml.symm) (argsL := As) (rest := rest) (fun sig h => hn.trans (hlen sig h)) hstack hW (by rw [hb]; exact hdg)
    (fun vm₁ hW₁ => ⟨hf.1, hf.2, hp.2 (T.setVm vm₁) hT hW₁⟩)
  dsimp only [Pt.U, Pt.locs, Pt.cells, Pt.slots] at X' e1 e2 h1 h2 h3 st
  subst h1; subst h2; subst h3
  exact ⟨v, (T.setVm vm₁).calling g' mk As.toArray, t, U', L, hT, X', hL, e1, e2, hq, st⟩
/-- not caught here, past rows that name other classes: it goes on to the caller -/
theorem vx_outP {p : Program} {l : Launch} {e : Env} {R : Room} {s : State} {m : MethodId} {args : Array Value} {below : List Frame} {meth : Method} {c : Code} {H : Heap} {locs : List Loc} {cells slots : Nat} {free : Addr → Prop} {ls : Array Slot} {rest : List Value} {Qc : Array Value → State → Outcome → State → Prop} {XC : String → State → State → Prop}
    {pc : Nat} {own E : String} {ce : Cell} {q : Addr} {mc ms : Nat} (hown : s.vm.findClass own = some m.cls) (hlocks : meth.locks = false)
    (hpass : ∀ z ∈ c.exceptionTable.toList, covers z pc = false ∨ (z.catchType ≠ 0 ∧ ∃ nm : String, (Cond.classLink own z.catchType nm).before args s = true ∧ va_Nc E nm s)) (hcell : H[q]? = some ce) (hv : ce.vm = .none) (hcl : s.vm.findClass E = some ce.cls)
    (hx : ∀ t : State, t.heap = H → s.vm.Alike t.vm → XC E s t) (hf : ∀ z ∈ locs, free z.base) (hc : cells ≤ mc) (hs : slots ≤ ms) :
    vx_W p l e R s m args below meth c H locs cells slots (vx_MQ below Qc XC args s mc ms free) (F0 m pc ls rest) q := by
  intro T hT X
  have hpl : e.platform.magicAccessors = ({} : Platform).magicAccessors := by rw [X.admits.platform]
  obtain ⟨vm', hW', X', st⟩ := X.outThrough hlocks q (g := F0 m pc ls rest) rfl rfl rfl (cell := ce) (by rw [hT]; exact hcell) (by rw [hv]; rfl)
    (by obtain ⟨k9, h9, -⟩ := Vm.findClass_spec hcl; exact ⟨k9, h9⟩) (fun z hz => by
      rcases hpass z hz with h | ⟨hz0, nm, hl1, hn1⟩
      · exact Or.inl h
      · obtain ⟨c6, hc6, hcl6⟩ := Cond.classLink_spec hown hl1 e.platform hpl
        obtain ⟨a8, b8, h1, h2, h3⟩ := hn1
        cases Option.some.inj (h1.symm.trans hcl)
        cases Option.some.inj (h2.symm.trans hc6)
        exact Or.inr ⟨hz0, _, hcl6, h3⟩)
  obtain ⟨g₀, hfr⟩ := X'.frames_eq
  have hcell9 : ((T.setVm vm').setFrames (.throwing q :: below)).heap[q]? = some ce := by
    show T.heap[q]? = some ce
    rw [hT]; exact hcell
  have hend : Ended ((T.setVm vm').setFrames (.throwing q :: below)) below (.threw q) := State.frames_setFrames _ (State.cur_lt_of_frames hfr)
  refine ⟨(T.setVm vm').setFrames (.throwing q :: below), ?_, .threw q, X'.here.running, hend, Or.inr ⟨q, rfl, E, ce, locs, hx _ hT (X'.ends _).1.alike, hcell9, hv, hcl, (X'.ends _).1, (X'.ends _).2.mono hc hs, hf⟩⟩
  rw [X.pushThrowing_eq]
  exact st
/-- a thing of a world lies in the heap -/
theorem vx_lt {D : va_G} {cl : List vw_C} {ws : va_W} {H1 : Heap} (h : va_P D cl ws H1) {k : Nat} {q : Nat × va_E} (hk : ws[k]? = some q) : q.1 < H1.size := (h k q hk).lt
end VXS
/-! ===== END ===== -/
/-! ===== BEGIN methods with a table of their own: called by a name, returning or throwing ===== -/
section VXH
/-! vx_backW, vx_callVX, vx_callSX, vx_callVW, vx_runVW, vx_runVX, vx_runSX, vx_ofWH follow the same proofs as their sisters above (Free/Laws.lean, Shelf42/LK1.lean); vx_outP calls Shelf42/NT130.lean (outThrough). -/
section
variable {l : Launch} {R : Room} {p : Program} {e : Env} {below : List Frame} {s : State} {sargs : Array Value} {y : MethodName} {len W9 : Nat}
theorem vx_backW {ws : List Cond} {rm : Room} {Pc : Array Value → State → Prop} {Qc : Array Value → State → Outcome → State → Prop} {XC : String → State → State → Prop} {mc ms : Nat} {free : Addr → Prop} {bytes : ByteArray} {maxL : Nat} {ret : Option FieldType} {hh : List (Nat × Nat × Nat × Nat)}
    (hM : vx_Met l y ws rm Pc Qc XC mc ms free) (hblind : FrameBlind Pc) (hrc : rm.cells = mc) (hrs : rm.slots = ms)
    (hframes : rm.frames + 1 ≤ R.frames) (hlocals : W9 + (maxL + 11) + rm.locals ≤ R.locals)
    (hws : ∀ w ∈ ws, ∀ a' U, s.WarmedH U.vm → w.before a' U = true) (hcode : Cond.codeWith y bytes maxL ret hh ∈ ws) (hinit : ∀ a' U, s.WarmedH U.vm → (Cond.initialized y.cls).before a' U = true) :
    vx_Back l R p e below s sargs y len W9 (PreOf R mc ms Pc) (PostOf Qc mc ms free) (vx_Post XC mc ms free) := by
  intro m meth c A g ig mk a X hg hsize hdg hW hn hp
  have h1 : (headSpec ws rm).pre.before a A.U = true := atoms_intro fun w hw => hws w hw _ _ X.warmed
  have h2 : (Cond.codeWith y bytes maxL ret hh).before a A.U = true := hws _ hcode _ _ X.warmed
  have h3 : (Cond.initialized y.cls).before a A.U = true := hinit _ _ X.warmed
  have h4 : A.cells + (headSpec ws rm).room.cells ≤ R.cells := by rw [show (headSpec ws rm).room.cells = mc from hrc]; exact hp.1
  have h5 : A.slots + (headSpec ws rm).room.slots ≤ R.slots := by rw [show (headSpec ws rm).room.slots = ms from hrs]; exact hp.2.1
  have hPc : Pc a (A.U.calling g mk a) := hblind _ _ _ _ hp.2.2
  obtain ⟨U, Ls, c0, s0⟩ := A
  dsimp only [Pt.U, Pt.locs, Pt.cells, Pt.slots] at h1 h2 h3 h4 h5 X hn hPc ⊢
  obtain ⟨m9, methY, cY, hn9, hmY, hcY, -, hlY, -⟩ := Cond.codeWith_spec h2
  cases Option.some.inj (hn9.symm.trans hn)
  obtain ⟨kY, hkY, -⟩ := className_of_methodNamed hn
  have hinitY : kY.init = .initialized := Cond.initialized_spec (findClass_of_methodNamed hn) hkY h3
  have h : At U g.method c below := by rw [hg]; exact X.here
  have hlocals9 : W9 + (maxL + 11) + (headSpec ws rm).room.locals ≤ R.locals := hlocals
  have happ : (headSpec ws rm).appliesLoose y e.platform (U.calling g mk a) = true :=
    Spec.appliesLoose_calling (g := g) h hdg hn hkY hinitY
      (X.room_calling (g := g) (R' := (headSpec ws rm).room) hsize hmY hcY hframes (by rw [hlY]; omega) h4 h5) h1
  obtain ⟨mid, hmid⟩ := h.above
  have hfr : (U.setTop g).frames = (.java g :: mid) ++ below := by rw [State.frames_setTop' g h.top, hmid]; rfl
  obtain ⟨o, s₂, hsteps, -, hend, hq⟩ := Steps.callFree hM p X.admits X.cas X.clock (acts := []) hfr happ hPc trivial
  have hq' : vx_Q Qc XC mc ms free a (U.calling g mk a) o s₂ := hq
  rw [State.frames_setTop' g h.top] at hend
  obtain ⟨g₀, hg0⟩ := Option.isSome_iff_exists.mp h.top
  obtain ⟨r, hr⟩ := State.topJava?_eq_some.mp hg0
  have hr' : (({ U with heap := s₂.heap, slotsUsed := s₂.slotsUsed } : State).setVm s₂.vm).frames = .java g₀ :: r := hr
  rcases hq' with ⟨hqc, L, hfe, hL⟩ | ⟨q, rfl, E, ce, L, hx, hce, hcv, hcl, hW₂, hsm, hL⟩
  · obtain ⟨⟨v, rfl⟩, hW₂, e2, q2, q3, q4, q5, q6⟩ := id hfe
    have e3 : s₂ = ({ (U.calling g mk a).setFrames s₂.frames with heap := s₂.heap, slotsUsed := s₂.slotsUsed } : State).setVm s₂.vm := by
      have : s₂ = ({ s₂ with vm := (U.calling g mk a).vm } : State).setVm s₂.vm := rfl
      rw [e2] at this
      exact this
    obtain ⟨c₂, i₂, len₂, hc₂, hd₂, hf₂⟩ := hend
    have hW' : U.WarmedH s₂.vm := hW₂
    have hcc : c₂ = c := by
      have h1 : s₂.code? g.method = U.code? g.method := by
        rw [State.code?_eq, State.code?_eq, hW'.alike.method?]
      exact Option.some.inj (hc₂.symm.trans (h1.trans h.code))
    subst hcc
    have hlen : len₂ = len := by rw [hdg] at hd₂; cases hd₂; rfl
    subst hlen
    have hs₂ : s₂ = (({ U with heap := s₂.heap, slotsUsed := s₂.slotsUsed } : State).setVm s₂.vm).setTop { g with pc := g.pc + len₂, stack := v.toList ++ g.stack } := by
      refine e3.trans ?_
      rw [hf₂, State.calling_eq h.top, State.setFrames_setFrames, State.setTop_of_frames _ hr', hr]
      rfl
    have hsame : U.sameButNew ({ U with heap := s₂.heap, slotsUsed := s₂.slotsUsed } : State) L mc ms := by
      refine ⟨?_, q2, q3, q4, q5, q6⟩
      obtain ⟨t, ht, -⟩ := State.frames_cons hr
      show ({ U with heap := s₂.heap, slotsUsed := s₂.slotsUsed } : State) = { U.setFrames U.frames with heap := s₂.heap, slotsUsed := s₂.slotsUsed }
      rw [State.setFrames_self ht]
    subst hg
    refine Or.inl ⟨v, ⟨(({ U with heap := s₂.heap, slotsUsed := s₂.slotsUsed } : State).setVm s₂.vm), Ls ++ L, c0 + mc, s0 + ms⟩,
      ⟨X.admits, X.cas, X.clock, X.frames, X.room, X.hears, X.method, X.code, (X.here.setHeapUsed s₂.heap s₂.slotsUsed).setVm hW'.alike, X.tail, State.WarmedH.trans X.warmed hW', X.limits, X.bytes, X.same.trans (hsame.setVm s.vm)⟩,
      ⟨g, mk, s₂, L, rfl, rfl, hqc, rfl, hL, rfl, rfl⟩, ?_⟩
    show Steps p.tables e below _ ((({ U with heap := s₂.heap, slotsUsed := s₂.slotsUsed } : State).setVm s₂.vm).setTop { g with pc := g.pc + len₂, stack := v.toList ++ g.stack })
    rw [← hs₂]
    exact hsteps
  · obtain ⟨e2, q2, q3, q4, q5, q6⟩ := id hsm
    have e3 : s₂ = ({ (U.calling g mk a).setFrames s₂.frames with heap := s₂.heap, slotsUsed := s₂.slotsUsed } : State).setVm s₂.vm := by
      have : s₂ = ({ s₂ with vm := (U.calling g mk a).vm } : State).setVm s₂.vm := rfl
      rw [e2] at this
      exact this
    have hf₂ : s₂.frames = .throwing q :: .java g :: U.frames.tail := hend
    have hW' : U.WarmedH s₂.vm := hW₂
    have hs₂ : s₂ = ((({ U with heap := s₂.heap, slotsUsed := s₂.slotsUsed } : State).setVm s₂.vm).setTop g).pushFrame (.throwing q) := by
      refine e3.trans ?_
      rw [hf₂, State.calling_eq h.top, State.setFrames_setFrames, State.pushFrame, State.frames_setTop _ hr', State.setTop_of_frames _ hr', State.setFrames_setFrames, hr]
      rfl
    have hsame : U.sameButNew ({ U with heap := s₂.heap, slotsUsed := s₂.slotsUsed } : State) L mc ms := by
      refine ⟨?_, q2, q3, q4, q5, q6⟩
      obtain ⟨t, ht, -⟩ := State.frames_cons hr
      show ({ U with heap := s₂.heap, slotsUsed := s₂.slotsUsed } : State) = { U.setFrames U.frames with heap := s₂.heap, slotsUsed := s₂.slotsUsed }
      rw [State.setFrames_self ht]
    subst hg
    refine Or.inr ⟨q, ⟨(({ U with heap := s₂.heap, slotsUsed := s₂.slotsUsed } : State).setVm s₂.vm), Ls ++ L, c0 + mc, s0 + ms⟩,
      ⟨X.admits, X.cas, X.clock, X.frames, X.room, X.hears, X.method, X.code, (X.here.setHeapUsed s₂.heap s₂.slotsUsed).setVm hW'.alike, X.tail, State.WarmedH.trans X.warmed hW', X.limits, X.bytes, X.same.trans (hsame.setVm s.vm)⟩,
      ⟨g, mk, s₂, L, E, ce, rfl, rfl, hx, hce, hcv, hcl, rfl, hL, rfl, rfl⟩, ?_⟩
    show Steps p.tables e below _ (((({ U with heap := s₂.heap, slotsUsed := s₂.slotsUsed } : State).setVm s₂.vm).setTop g).pushFrame (.throwing q))
    rw [← hs₂]
    exact hsteps
end
variable {p : Program} {l : Launch} {e : Env} {R : Room} {s : State} {m : MethodId} {args : Array Value} {below : List Frame} {meth : Method} {c : Code} {T : State} {H : Heap} {locs : List Loc} {cells slots : Nat}
theorem vx_callVX (X : Stand p l e R s m args below meth c T locs cells slots) (hexec : p.tables.exec = Jvm.exec) {own C : String} {index : Nat} {y : MethodName} {bytes : ByteArray} {maxL : Nat} {ret : Option FieldType} {hh : List (Nat × Nat × Nat × Nat)}
    (hown : s.vm.findClass own = some m.cls) (hlink : (Cond.methodLink own index y).before args s = true) (hinst : (Cond.instanceMethod y).before args s = true) (hsel : (Cond.selects C y y).before args s = true)
    (hcode : (Cond.codeWith y bytes maxL ret hh).before args s = true) (hy : y.cls ≠ "java/lang/invoke/MethodHandle" ∧ y.cls ≠ "java/lang/invoke/VarHandle")
    {W9 : Nat} {Pre : Pt → Array Value → Prop} {Post : Pt → Array Value → Option Value → Pt → Prop} {PostX : Pt → Array Value → Addr → Pt → Prop} (hK : vx_Back l R p e below s args y 3 W9 Pre Post PostX)
    {b : Addr} {cellB : Cell} (hcell : T.heap[b]? = some cellB) (hobj : cellB.vm.isStatics = false) (hcls : s.vm.findClass C = some cellB.cls)
    {g : JFrame} (hg : g.method = m) (hsize : g.locals.size = c.maxLocals) {argsL rest : List Value} (hlen : ∀ sig, parseMethodDescriptor y.desc = some sig → argsL.length = sig.parameters.length)
    (hstack : g.stack = argsL.reverse ++ .ref b :: rest) (hW : 2 * g.monitorRoom + (rest.map fun v => v.category).sum ≤ W9) (hdg : decode c.code g.pc = .ok (.invokevirtual index, 3))
    (hpre : ∀ vm₁, s.WarmedH vm₁ → Pre ⟨T.setVm vm₁, locs, cells, slots⟩ (Value.ref b :: argsL).toArray) :
    (∃ (v : Option Value) (vm₁ : Vm) (B : Pt), s.WarmedH vm₁ ∧ Stand p l e R s m args below meth c B.U B.locs B.cells B.slots ∧ Post ⟨T.setVm vm₁, locs, cells, slots⟩ (Value.ref b :: argsL).toArray v B ∧
      ∀ target, Steps p.tables e below (B.U.setTop { g with pc := g.pc + 3, stack := v.toList ++ rest }) target → Steps p.tables e below (T.setTop g) target) ∨
    (∃ (q : Addr) (vm₁ : Vm) (B : Pt), s.WarmedH vm₁ ∧ Stand p l e R s m args below meth c B.U B.locs B.cells B.slots ∧ PostX ⟨T.setVm vm₁, locs, cells, slots⟩ (Value.ref b :: argsL).toArray q B ∧
      Steps p.tables e below (T.setTop g) ((B.U.setTop { g with stack := rest }).pushFrame (.throwing q))) := by
  obtain ⟨mk, methM, hnamed, hmethM, hstM, habM⟩ := Cond.instanceMethod_spec hinst
  obtain ⟨m8, methM', cM, hn8, hmethM', -, -, -, -, -, -, hsigM⟩ := Cond.codeWith_spec hcode
  cases Option.some.inj (hn8.symm.trans hnamed)
  cases hmethM.symm.trans hmethM'
  obtain ⟨c2, r2, m2, q1, q2, q3, q4, kP, hkP, hkPi⟩ := Cond.selects_spec hsel
  cases hcls.symm.trans q1
  cases (State.methodFound?_of_named hnamed hy).symm.trans q2
  cases hnamed.symm.trans q3
  have hselP : selectMethod e.platform s.vm cellB.cls mk = .method mk := by rw [Launch.admits_selectMethod X.admits]; exact q4
  obtain ⟨vm₁, X₁, hstep₁⟩ := X.invokevirtual hexec hown hlink hnamed hmethM hstM hkP hkPi hy (a := b) (cell := cellB) hcell
    (fun z h => by rw [h] at hobj; cases hobj) hselP hmethM habM hkP hkPi (g := g) hg (argsL := argsL) (rest := rest) (hlen _ hsigM) hstack hdg
  rcases hK m meth c ⟨T.setVm vm₁, locs, cells, slots⟩ { g with stack := rest } (.invokevirtual index) mk (Value.ref b :: argsL).toArray X₁ hg hsize hdg hW (X₁.named hnamed) (hpre vm₁ X₁.warmed) with ⟨v, B, X', hpost, hsteps⟩ | ⟨q, B, X', hpost, hsteps⟩
  · exact Or.inl ⟨v, vm₁, B, X₁.warmed, X', hpost, fun target h => hstep₁ _ fun acts => by rw [doInvoke_state]; exact hsteps.trans h⟩
  · exact Or.inr ⟨q, vm₁, B, X₁.warmed, X', hpost, hstep₁ _ fun acts => by rw [doInvoke_state]; exact hsteps⟩
theorem vx_callSX (X : Stand p l e R s m args below meth c T locs cells slots) (hexec : p.tables.exec = Jvm.exec) {own : String} {index : Nat} {y : MethodName} {bytes : ByteArray} {maxL : Nat} {ret : Option FieldType} {hh : List (Nat × Nat × Nat × Nat)}
    (hown : s.vm.findClass own = some m.cls) (hlink : (Cond.methodLink own index y).before args s = true) (hstat : (Cond.static y).before args s = true) (hinit : (Cond.initialized y.cls).before args s = true)
    (hcode : (Cond.codeWith y bytes maxL ret hh).before args s = true) (hy : y.cls ≠ "java/lang/invoke/MethodHandle" ∧ y.cls ≠ "java/lang/invoke/VarHandle")
    {W9 : Nat} {Pre : Pt → Array Value → Prop} {Post : Pt → Array Value → Option Value → Pt → Prop} {PostX : Pt → Array Value → Addr → Pt → Prop} (hK : vx_Back l R p e below s args y 3 W9 Pre Post PostX)
    {g : JFrame} (hg : g.method = m) (hsize : g.locals.size = c.maxLocals) {argsL rest : List Value} (hlen : ∀ sig, parseMethodDescriptor y.desc = some sig → argsL.length = sig.parameters.length)
    (hstack : g.stack = argsL.reverse ++ rest) (hW : 2 * g.monitorRoom + (rest.map fun v => v.category).sum ≤ W9) (hdg : decode c.code g.pc = .ok (.invokestatic index, 3))
    (hpre : ∀ vm₁, s.WarmedH vm₁ → Pre ⟨T.setVm vm₁, locs, cells, slots⟩ argsL.toArray) :
    (∃ (v : Option Value) (vm₁ : Vm) (B : Pt), s.WarmedH vm₁ ∧ Stand p l e R s m args below meth c B.U B.locs B.cells B.slots ∧ Post ⟨T.setVm vm₁, locs, cells, slots⟩ argsL.toArray v B ∧
      ∀ target, Steps p.tables e below (B.U.setTop { g with pc := g.pc + 3, stack := v.toList ++ rest }) target → Steps p.tables e below (T.setTop g) target) ∨
    (∃ (q : Addr) (vm₁ : Vm) (B : Pt), s.WarmedH vm₁ ∧ Stand p l e R s m args below meth c B.U B.locs B.cells B.slots ∧ PostX ⟨T.setVm vm₁, locs, cells, slots⟩ argsL.toArray q B ∧
      Steps p.tables e below (T.setTop g) ((B.U.setTop { g with stack := rest }).pushFrame (.throwing q))) := by
  obtain ⟨mk, methM, cM, hnamed, hmethM, -, -, -, -, -, -, hsigM⟩ := Cond.codeWith_spec hcode
  have hstatic : methM.isStatic = true := Cond.static_spec hnamed hmethM hstat
  obtain ⟨kP, hkP, -⟩ := className_of_methodNamed hnamed
  have hinitP : kP.init = .initialized := Cond.initialized_spec (findClass_of_methodNamed hnamed) hkP hinit
  obtain ⟨vm₁, X₁, hstep₁⟩ := X.invokestatic hexec hown hlink hnamed hmethM hstatic hkP hinitP hy (g := g) hg (argsL := argsL) (rest := rest) (hlen _ hsigM) hstack hdg
  rcases hK m meth c ⟨T.setVm vm₁, locs, cells, slots⟩ { g with stack := rest } (.invokestatic index) mk argsL.toArray X₁ hg hsize hdg hW (X₁.named hnamed) (hpre vm₁ X₁.warmed) with ⟨v, B, X', hpost, hsteps⟩ | ⟨q, B, X', hpost, hsteps⟩
  · exact Or.inl ⟨v, vm₁, B, X₁.warmed, X', hpost, fun target h => hstep₁ _ fun acts => by rw [doInvoke_state]; exact hsteps.trans h⟩
  · exact Or.inr ⟨q, vm₁, B, X₁.warmed, X', hpost, hstep₁ _ fun acts => by rw [doInvoke_state]; exact hsteps⟩
theorem vx_callVW (X : Stand p l e R s m args below meth c T locs cells slots) (hexec : p.tables.exec = Jvm.exec) {own C : String} {index : Nat} {y : MethodName} {bytes : ByteArray} {maxL : Nat} {ret : Option FieldType} {hh : List (Nat × Nat × Nat × Nat)}
    (hown : s.vm.findClass own = some m.cls) (hlink : (Cond.methodLink own index y).before args s = true) (hinst : (Cond.instanceMethod y).before args s = true) (hsel : (Cond.selects C y y).before args s = true)
    (hcode : (Cond.codeWith y bytes maxL ret hh).before args s = true) (hy : y.cls ≠ "java/lang/invoke/MethodHandle" ∧ y.cls ≠ "java/lang/invoke/VarHandle")
    {W9 : Nat} {Pre : Pt → Array Value → Prop} {Post : Pt → Array Value → Option Value → Pt → Prop} (hK : Back l R p e below s args y 3 W9 Pre Post)
    {b : Addr} {cellB : Cell} (hcell : T.heap[b]? = some cellB) (hobj : cellB.vm.isStatics = false) (hcls : s.vm.findClass C = some cellB.cls)
    {g : JFrame} (hg : g.method = m) (hsize : g.locals.size = c.maxLocals) {argsL rest : List Value} (hlen : ∀ sig, parseMethodDescriptor y.desc = some sig → argsL.length = sig.parameters.length)
    (hstack : g.stack = argsL.reverse ++ .ref b :: rest) (hW : 2 * g.monitorRoom + (rest.map fun v => v.category).sum ≤ W9) (hdg : decode c.code g.pc = .ok (.invokevirtual index, 3))
    (hpre : ∀ vm₁, s.WarmedH vm₁ → Pre ⟨T.setVm vm₁, locs, cells, slots⟩ (Value.ref b :: argsL).toArray) :
    ∃ (v : Option Value) (vm₁ : Vm) (B : Pt), s.WarmedH vm₁ ∧ Stand p l e R s m args below meth c B.U B.locs B.cells B.slots ∧ Post ⟨T.setVm vm₁, locs, cells, slots⟩ (Value.ref b :: argsL).toArray v B ∧
      ∀ target, Steps p.tables e below (B.U.setTop { g with pc := g.pc + 3, stack := v.toList ++ rest }) target → Steps p.tables e below (T.setTop g) target := by
  obtain ⟨mk, methM, hnamed, hmethM, hstM, habM⟩ := Cond.instanceMethod_spec hinst
  obtain ⟨m8, methM', cM, hn8, hmethM', -, -, -, -, -, -, hsigM⟩ := Cond.codeWith_spec hcode
  cases Option.some.inj (hn8.symm.trans hnamed)
  cases hmethM.symm.trans hmethM'
  obtain ⟨c2, r2, m2, q1, q2, q3, q4, kP, hkP, hkPi⟩ := Cond.selects_spec hsel
  cases hcls.symm.trans q1
  cases (State.methodFound?_of_named hnamed hy).symm.trans q2
  cases hnamed.symm.trans q3
  have hselP : selectMethod e.platform s.vm cellB.cls mk = .method mk := by rw [Launch.admits_selectMethod X.admits]; exact q4
  obtain ⟨vm₁, X₁, hstep₁⟩ := X.invokevirtual hexec hown hlink hnamed hmethM hstM hkP hkPi hy (a := b) (cell := cellB) hcell
    (fun z h => by rw [h] at hobj; cases hobj) hselP hmethM habM hkP hkPi (g := g) hg (argsL := argsL) (rest := rest) (hlen _ hsigM) hstack hdg
  obtain ⟨v, B, X', hpost, hsteps⟩ := hK m meth c ⟨T.setVm vm₁, locs, cells, slots⟩ { g with stack := rest } (.invokevirtual index) mk (Value.ref b :: argsL).toArray X₁ hg hsize hdg hW (X₁.named hnamed) (hpre vm₁ X₁.warmed)
  exact ⟨v, vm₁, B, X₁.warmed, X', hpost, fun target h => hstep₁ _ fun acts => by rw [doInvoke_state]; exact hsteps.trans h⟩
abbrev vx_CVW (R : Room) (s : State) (args : Array Value) (own C : String) (index : Nat) (y : MethodName) (bytes : ByteArray) (maxL : Nat) (ret : Option FieldType) (hh : List (Nat × Nat × Nat × Nat)) (ws : List Cond) (rm : Room) (mc ms n : Nat) : Prop :=
  (rm.cells = mc ∧ rm.slots = ms ∧ rm.frames + 1 ≤ R.frames ∧ 8 + (maxL + 11) + rm.locals ≤ R.locals ∧ (∀ w ∈ ws, ∀ (a' : Array Value) (U : State), s.WarmedH U.vm → w.before a' U = true) ∧ Cond.codeWith y bytes maxL ret hh ∈ ws) ∧
  (Cond.codeWith y bytes maxL ret hh).before args s = true ∧ (Cond.initialized y.cls).before args s = true ∧ (y.cls ≠ "java/lang/invoke/MethodHandle" ∧ y.cls ≠ "java/lang/invoke/VarHandle") ∧
  (∀ sig, parseMethodDescriptor y.desc = some sig → n = sig.parameters.length) ∧ (Cond.methodLink own index y).before args s = true ∧ (Cond.instanceMethod y).before args s = true ∧ (Cond.selects C y y).before args s = true
theorem vx_cwVW {own C : String} {index maxL mc ms : Nat} {y : MethodName} {bytes : ByteArray} {ret : Option FieldType} {hh : List (Nat × Nat × Nat × Nat)} {Ts ws ws' : List Cond} {rm : Room} (n : Nat) (ht : ∀ w ∈ Ts, w.before args s = true) (hT : GoodIn Ts (wsV own index C y ws)) (hw : ws = Cond.codeWith y bytes maxL ret hh :: ws') (hrc : rm.cells = mc) (hrs : rm.slots = ms)
    (hd : y.cls = C ∧ y.cls ≠ "java/lang/invoke/MethodHandle" ∧ y.cls ≠ "java/lang/invoke/VarHandle" ∧ (parseMethodDescriptor y.desc).map (fun d => d.parameters.length) = some n) (hR : rm.frames + 1 ≤ R.frames ∧ 8 + (maxL + 11) + rm.locals ≤ R.locals) :
    vx_CVW R s args own C index y bytes maxL ret hh ws rm mc ms n := by
  obtain ⟨hC, hd⟩ := hd
  subst hC
  have ok : ∀ w ∈ wsV own index y.cls y ws, w.before args s = true := fun w h => ht w (hT w h).1
  have hG : GoodIn Ts ws := fun w h => hT w (by unfold wsV; exact List.mem_append_right _ h)
  have hc : Cond.codeWith y bytes maxL ret hh ∈ ws := by rw [hw]; exact List.mem_cons_self
  refine ⟨⟨hrc, hrs, hR.1, hR.2, pay_in ht hG, hc⟩, ht _ (hG _ hc).1, ok _ (by simp [wsV]), ⟨hd.1, hd.2.1⟩, fun sig h => ?_, ok _ (by simp [wsV]), ok _ (by simp [wsV]), ok _ (by simp [wsV])⟩
  have h2 := hd.2.2
  rw [h] at h2
  exact (Option.some.inj h2).symm
theorem vx_runVW {y : MethodName} {bytes cc : ByteArray} {maxL nL mc ms n index : Nat} {ret : Option FieldType} {hh : List (Nat × Nat × Nat × Nat)} {ws : List Cond} {rm : Room} {Pc : Array Value → State → Prop} {Qc : Array Value → State → Outcome → State → Prop} {free : Addr → Prop} {Ts : List Cond} {own C : String} {b : Addr} {As rest : List Value} {g : JFrame}
    (S : CallFix p m c cc nL s args Ts own) (hM : Met l y ws rm Pc Qc mc ms free) (cw : vx_CVW R s args own C index y bytes maxL ret hh ws rm mc ms n) (hp : PreV s H C b Pc As)
    (hg : g.method = m) (hn : As.length = n) (hsize : g.locals.size = nL) (hstack : g.stack = As.reverse ++ .ref b :: rest) (hW : 2 * g.monitorRoom + (rest.map fun v => v.category).sum ≤ 8) (hdg : decode cc g.pc = .ok (.invokevirtual index, 3)) (hf : cells + mc ≤ R.cells ∧ slots + ms ≤ R.slots) :
    va_Run p l e R s m args below meth c H locs cells slots mc ms g rest (Qc (Value.ref b :: As).toArray) free := by
  obtain ⟨⟨hrc, hrs, hfr, hlo, hws, hcw⟩, hcode, hini, hy, hlen, hl, hin, hse⟩ := cw
  have hK : Back l R p e below s args y 3 8 (PreOf R mc ms Pc) (PostOf Qc mc ms free) := va_backW (hh := hh) (bytes := bytes) (maxL := maxL) (ret := ret) hM hp.1 hrc hrs hfr hlo hws hcw (fun a' U hW => word_at hW (Or.inl (by first | rfl | simp [Cond.onTables, Cond.keeps, Cond.steady])) hini)
  obtain ⟨hx, hb, hml, ho, -⟩ := S
  obtain ⟨-, ⟨cellB, hcB, hoB, hclB⟩, hPc⟩ := hp
  intro T hT X
  obtain ⟨v, vm₁, ⟨U', l2, c2, s2⟩, hW₁, X', ⟨g', mk, t, L, e1, e2, hq, h1, hL, h2, h3⟩, st⟩ := vx_callVW X hx (C := C) (hh := hh) (bytes := bytes) (maxL := maxL) (ret := ret) ho hl hin hse hcode hy hK (by rw [hT]; exact hcB) hoB hclB hg (hsize.trans hml.symm) (argsL := As) (rest := rest) (fun sig h => hn.trans (hlen sig h)) hstack hW (by rw [hb]; exact hdg)
    (fun vm₁ hW₁ => ⟨hf.1, hf.2, hPc (T.setVm vm₁) hT hW₁⟩)
  dsimp only [Pt.U, Pt.locs, Pt.cells, Pt.slots] at X' e1 e2 h1 h2 h3 st
  subst h1; subst h2; subst h3
  exact ⟨v, (T.setVm vm₁).calling g' mk (Value.ref b :: As).toArray, t, U', L, hT, X', hL, e1, e2, hq, st⟩
section
variable {y : MethodName} {bytes cc : ByteArray} {maxL nL mc ms n index : Nat} {ret : Option FieldType} {ws : List Cond} {rm : Room} {Pc : Array Value → State → Prop} {Qc : Array Value → State → Outcome → State → Prop} {XC : String → State → State → Prop} {free : Addr → Prop} {Ts : List Cond} {own C : String} {b : Addr} {As rest : List Value} {g : JFrame}
theorem vx_runVX {hh : List (Nat × Nat × Nat × Nat)} (S : CallFix p m c cc nL s args Ts own) (hM : vx_Met l y ws rm Pc Qc XC mc ms free) (cw : vx_CVW R s args own C index y bytes maxL ret hh ws rm mc ms n) (hp : PreV s H C b Pc As)
    (hg : g.method = m) (hn : As.length = n) (hsize : g.locals.size = nL) (hstack : g.stack = As.reverse ++ .ref b :: rest) (hW : 2 * g.monitorRoom + (rest.map fun v => v.category).sum ≤ 8) (hdg : decode cc g.pc = .ok (.invokevirtual index, 3)) (hf : cells + mc ≤ R.cells ∧ slots + ms ≤ R.slots) :
    vx_Run p l e R s m args below meth c H locs cells slots mc ms g rest (Qc (Value.ref b :: As).toArray) XC free := by
  obtain ⟨⟨hrc, hrs, hfr, hlo, hws, hcw⟩, hcode, hini, hy, hlen, hl, hin, hse⟩ := cw
  have hK : vx_Back l R p e below s args y 3 8 (PreOf R mc ms Pc) (PostOf Qc mc ms free) (vx_Post XC mc ms free) := vx_backW (hh := hh) (bytes := bytes) (maxL := maxL) (ret := ret) hM hp.1 hrc hrs hfr hlo hws hcw (fun a' U hW => word_at hW (Or.inl (by first | rfl | simp [Cond.onTables, Cond.keeps, Cond.steady])) hini)
  obtain ⟨hx, hb, hml, ho, -⟩ := S
  obtain ⟨-, ⟨cellB, hcB, hoB, hclB⟩, hPc⟩ := hp
  intro T hT X
  rcases vx_callVX X hx (C := C) (hh := hh) (bytes := bytes) (maxL := maxL) (ret := ret) ho hl hin hse hcode hy hK (by rw [hT]; exact hcB) hoB hclB hg (hsize.trans hml.symm) (argsL := As) (rest := rest) (fun sig h => hn.trans (hlen sig h)) hstack hW (by rw [hb]; exact hdg)
    (fun vm₁ hW₁ => ⟨hf.1, hf.2, hPc (T.setVm vm₁) hT hW₁⟩) with ⟨v, vm₁, ⟨U', l2, c2, s2⟩, hW₁, X', ⟨g', mk, t, L, e1, e2, hq, h1, hL, h2, h3⟩, st⟩ | ⟨q, vm₁, ⟨U', l2, c2, s2⟩, hW₁, X', ⟨g', mk, t, L, E, ce, e1, e2, hq, hce, hcv, hcl, h1, hL, h2, h3⟩, st⟩
  · dsimp only [Pt.U, Pt.locs, Pt.cells, Pt.slots] at X' e1 e2 h1 h2 h3 st
    subst h1; subst h2; subst h3
    exact Or.inl ⟨v, (T.setVm vm₁).calling g' mk (Value.ref b :: As).toArray, t, U', L, hT, X', hL, e1, e2, hq, st⟩
  · dsimp only [Pt.U, Pt.locs, Pt.cells, Pt.slots] at X' e1 e2 h1 h2 h3 st hcl
    subst h1; subst h2; subst h3
    exact Or.inr ⟨q, (T.setVm vm₁).calling g' mk (Value.ref b :: As).toArray, t, U', L, E, ce, hT, X', hL, e1, e2, hq, hce, hcv, vx_cls hW₁ hcl, st⟩
theorem vx_runSX {hh : List (Nat × Nat × Nat × Nat)} (S : CallFix p m c cc nL s args Ts own) (hM : vx_Met l y ws rm Pc Qc XC mc ms free) (cw : vx_CSW R s args own index y bytes maxL ret hh ws rm mc ms n) (hp : PreS s H Pc As)
    (hg : g.method = m) (hn : As.length = n) (hsize : g.locals.size = nL) (hstack : g.stack = As.reverse ++ rest) (hW : 2 * g.monitorRoom + (rest.map fun v => v.category).sum ≤ 8) (hdg : decode cc g.pc = .ok (.invokestatic index, 3)) (hf : cells + mc ≤ R.cells ∧ slots + ms ≤ R.slots) :
    vx_Run p l e R s m args below meth c H locs cells slots mc ms g rest (Qc As.toArray) XC free := by
  obtain ⟨⟨hrc, hrs, hfr, hlo, hws, hcw⟩, hcode, hini, hy, hlen, hl, hstt⟩ := cw
  have hK : vx_Back l R p e below s args y 3 8 (PreOf R mc ms Pc) (PostOf Qc mc ms free) (vx_Post XC mc ms free) := vx_backW (hh := hh) (bytes := bytes) (maxL := maxL) (ret := ret) hM hp.1 hrc hrs hfr hlo hws hcw (fun a' U hW => word_at hW (Or.inl (by first | rfl | simp [Cond.onTables, Cond.keeps, Cond.steady])) hini)
  obtain ⟨hx, hb, hml, ho, -⟩ := S
  intro T hT X
  rcases vx_callSX X hx (hh := hh) (bytes := bytes) (maxL := maxL) (ret := ret) ho hl hstt hini hcode hy hK hg (hsize.trans hml.symm) (argsL := As) (rest := rest) (fun sig h => hn.trans (hlen sig h)) hstack hW (by rw [hb]; exact hdg)
    (fun vm₁ hW₁ => ⟨hf.1, hf.2, hp.2 (T.setVm vm₁) hT hW₁⟩) with ⟨v, vm₁, ⟨U', l2, c2, s2⟩, hW₁, X', ⟨g', mk, t, L, e1, e2, hq, h1, hL, h2, h3⟩, st⟩ | ⟨q, vm₁, ⟨U', l2, c2, s2⟩, hW₁, X', ⟨g', mk, t, L, E, ce, e1, e2, hq, hce, hcv, hcl, h1, hL, h2, h3⟩, st⟩
  · dsimp only [Pt.U, Pt.locs, Pt.cells, Pt.slots] at X' e1 e2 h1 h2 h3 st
    subst h1; subst h2; subst h3
    exact Or.inl ⟨v, (T.setVm vm₁).calling g' mk As.toArray, t, U', L, hT, X', hL, e1, e2, hq, st⟩
  · dsimp only [Pt.U, Pt.locs, Pt.cells, Pt.slots] at X' e1 e2 h1 h2 h3 st hcl
    subst h1; subst h2; subst h3
    exact Or.inr ⟨q, (T.setVm vm₁).calling g' mk As.toArray, t, U', L, E, ce, hT, X', hL, e1, e2, hq, hce, hcv, vx_cls hW₁ hcl, st⟩
end
end VXH
theorem vx_ofWH {l : Launch} {y : MethodName} {ws ws' : List Cond} {rm : Room} {Pc : Array Value → State → Prop} {Qc : Array Value → State → Outcome → State → Prop} {XC : String → State → State → Prop} {mc ms : Nat} {free : Addr → Prop} {cc : ByteArray} {maxL : Nat} {ret : Option FieldType} {hh : List (Nat × Nat × Nat × Nat)}
    (hy : plainName y.cls = true) (hw : ws = Cond.codeWith y cc maxL ret hh :: ws')
    (body : ∀ p e s m args below meth c s₁, BodyLoose p l y (headSpec ws rm) cc maxL ret e s m args below meth c s₁ → c.maxLocals = maxL → Pc args s →
      W p l e (headSpec ws rm).room s m args below meth c s.heap [] 0 0 (vx_MQ below Qc XC args s mc ms free) (entryFrame m args maxL)) : vx_Met l y ws rm Pc Qc XC mc ms free := by
  refine MetFree.of_bodyS (code := cc) (maxLocals := maxL) (ret := ret) hy ?_ ?_
  · intro args s m h hn
    obtain ⟨m9, meth, c, hn9, h1, h2, h3, h4, -, h5, h6, -⟩ := Cond.codeWith_spec (atoms_spec (ws := ws) h _ (by rw [hw]; exact List.mem_cons_self))
    cases hn.symm.trans hn9
    exact ⟨meth, c, h1, h2, h3, h4, h5, h6⟩
  · intro p e s m args below meth c s₁ B hml hP _
    have hh0 : s₁.heap = s.heap := by rw [B.state]; rfl
    obtain ⟨t, a1, o, b1, b2, b3⟩ := body p e s m args below meth c s₁ B hml hP s₁ hh0 (Stand.of_body B)
    exact ⟨t, o, a1, b1, b2, b3⟩
/-! ===== END ===== -/

/-! ===== BEGIN printed: names, fields, word lists, decode rows ===== -/
def RX0 : String := "ScratchMap$InputText"
def TX0 : u_T := fun k => match k with
  | 0 => ("ScratchMap$InputText", "codes", "[I", true)
  | 1 => ("ScratchMap$InputText", "orderCells", "[I", true)
  | 2 => ("ScratchMap$InputText", "orderHeals", "[Z", true)
  | 3 => ("ScratchMap$InputText", "length", "I", false)
  | 4 => ("ScratchMap$InputText", "orders", "I", false)
  | 5 => ("ScratchMap$InputText", "healing", "Z", false)
  | 6 => ("ScratchMap$InputText", "inSector", "Z", false)
  | 7 => ("ScratchMap$InputText", "track", "I", false)
  | _ => ("ScratchMap$InputText", "number", "I", false)
def tyX0 : Nat → FieldType := fun k => match k with
  | 0 => .array .int
  | 1 => .array .int
  | 2 => .array .boolean
  | 3 => .int
  | 4 => .int
  | 5 => .boolean
  | 6 => .boolean
  | 7 => .int
  | _ => .int
abbrev wsX00 : List Cond := u_ws RX0 TX0 9
theorem nmX0 : ∀ a, a < 9 → ∀ b, b < 9 → a ≠ b → (TX0 a).2.1 ≠ (TX0 b).2.1 := by decide +kernel
theorem tyX0_ok : ∀ k, k < 9 → parseFieldDescriptor (TX0 k).2.2.1 = some (tyX0 k) := by decide +kernel
abbrev cX0_init : ByteArray := prog_2_method_1_code
def yX0_init : MethodName := ⟨RX0, "<init>", "()V"⟩
abbrev cX0_isCode : ByteArray := prog_2_method_2_code
def yX0_isCode : MethodName := ⟨RX0, "isCode", "(I)Z"⟩
abbrev cX0_isFull : ByteArray := prog_2_method_3_code
def yX0_isFull : MethodName := ⟨RX0, "isFull", "()Z"⟩
abbrev cX0_add : ByteArray := prog_2_method_4_code
def yX0_add : MethodName := ⟨RX0, "add", "(I)V"⟩
abbrev cX0_empty : ByteArray := prog_2_method_5_code
def yX0_empty : MethodName := ⟨RX0, "empty", "()V"⟩
abbrev cX0_codeAt : ByteArray := prog_2_method_6_code
def yX0_codeAt : MethodName := ⟨RX0, "codeAt", "(I)I"⟩
abbrev cX0_cellOf : ByteArray := prog_2_method_7_code
def yX0_cellOf : MethodName := ⟨RX0, "cellOf", "(I)I"⟩
abbrev cX0_asksToHeal : ByteArray := prog_2_method_8_code
def yX0_asksToHeal : MethodName := ⟨RX0, "asksToHeal", "(I)Z"⟩
abbrev cX0_scan : ByteArray := prog_2_method_9_code
def yX0_scan : MethodName := ⟨RX0, "scan", "()I"⟩
abbrev cX0_tellsSpots : ByteArray := prog_2_method_10_code
def yX0_tellsSpots : MethodName := ⟨RX0, "tellsSpots", "()Z"⟩
abbrev cX0_beginSpot : ByteArray := prog_2_method_11_code
def yX0_beginSpot : MethodName := ⟨RX0, "beginSpot", "()V"⟩
abbrev cX0_endSpot : ByteArray := prog_2_method_12_code
def yX0_endSpot : MethodName := ⟨RX0, "endSpot", "()Z"⟩
abbrev cX0_take : ByteArray := prog_2_method_13_code
def yX0_take : MethodName := ⟨RX0, "take", "(I)Z"⟩
abbrev cX0_takeMinus : ByteArray := prog_2_method_14_code
def yX0_takeMinus : MethodName := ⟨RX0, "takeMinus", "()Z"⟩
abbrev cX0_takeComma : ByteArray := prog_2_method_15_code
def yX0_takeComma : MethodName := ⟨RX0, "takeComma", "()Z"⟩
abbrev cX0_takeDigit : ByteArray := prog_2_method_16_code
def yX0_takeDigit : MethodName := ⟨RX0, "takeDigit", "(I)Z"⟩
def RX1 : String := "ScratchMap$Line"
def TX1 : u_T := fun k => match k with
  | 0 => ("ScratchMap$Line", "spotMask", "I", false)
  | 1 => ("ScratchMap$Line", "stepTracks", "I", false)
  | 2 => ("ScratchMap$Line", "stepSectors", "I", false)
  | 3 => ("ScratchMap$Line", "cells", "I", false)
  | 4 => ("ScratchMap$Line", "firstTrack", "I", false)
  | 5 => ("ScratchMap$Line", "firstSector", "I", false)
  | 6 => ("ScratchMap$Line", "lowest", "I", false)
  | 7 => ("ScratchMap$Line", "highest", "I", false)
  | _ => ("ScratchMap$Line", "spotBits", "J", false)
def tyX1 : Nat → FieldType := fun k => match k with
  | 0 => .int
  | 1 => .int
  | 2 => .int
  | 3 => .int
  | 4 => .int
  | 5 => .int
  | 6 => .int
  | 7 => .int
  | _ => .long
abbrev wsX10 : List Cond := u_ws RX1 TX1 9
theorem nmX1 : ∀ a, a < 9 → ∀ b, b < 9 → a ≠ b → (TX1 a).2.1 ≠ (TX1 b).2.1 := by decide +kernel
theorem tyX1_ok : ∀ k, k < 9 → parseFieldDescriptor (TX1 k).2.2.1 = some (tyX1 k) := by decide +kernel
abbrev cX1_init : ByteArray := prog_3_method_1_code
def yX1_init : MethodName := ⟨RX1, "<init>", "()V"⟩
abbrev cX1_aim : ByteArray := prog_3_method_2_code
def yX1_aim : MethodName := ⟨RX1, "aim", "(IIII)V"⟩
abbrev cX1_join : ByteArray := prog_3_method_3_code
def yX1_join : MethodName := ⟨RX1, "join", "(III)V"⟩
abbrev cX1_widestGap : ByteArray := prog_3_method_4_code
def yX1_widestGap : MethodName := ⟨RX1, "widestGap", "()I"⟩
abbrev cX1_spread : ByteArray := prog_3_method_5_code
def yX1_spread : MethodName := ⟨RX1, "spread", "(I)V"⟩
abbrev cX1_cellAt : ByteArray := prog_3_method_6_code
def yX1_cellAt : MethodName := ⟨RX1, "cellAt", "(I)I"⟩
abbrev cX1_trackAt : ByteArray := prog_3_method_7_code
def yX1_trackAt : MethodName := ⟨RX1, "trackAt", "(I)I"⟩
abbrev cX1_sectorAt : ByteArray := prog_3_method_8_code
def yX1_sectorAt : MethodName := ⟨RX1, "sectorAt", "(I)I"⟩
abbrev cX1_stepsTo : ByteArray := prog_3_method_9_code
def yX1_stepsTo : MethodName := ⟨RX1, "stepsTo", "(II)I"⟩
abbrev cX1_commonDivisor : ByteArray := prog_3_method_10_code
def yX1_commonDivisor : MethodName := ⟨RX1, "commonDivisor", "(II)I"⟩
def RX2 : String := "ScratchMap$LineMap"
def TX2 : u_T := fun k => match k with
  | 0 => ("ScratchMap$LineMap", "lines", "[LScratchMap$Line;", true)
  | 1 => ("ScratchMap$LineMap", "hits", "[I", true)
  | 2 => ("ScratchMap$LineMap", "bad", "[Z", true)
  | 3 => ("ScratchMap$LineMap", "tracks", "[I", true)
  | 4 => ("ScratchMap$LineMap", "sectors", "[I", true)
  | 5 => ("ScratchMap$LineMap", "spotCount", "I", false)
  | 6 => ("ScratchMap$LineMap", "lineCount", "I", false)
  | _ => ("ScratchMap$LineMap", "avoided", "I", false)
def tyX2 : Nat → FieldType := fun k => match k with
  | 0 => .array (.object "ScratchMap$Line")
  | 1 => .array .int
  | 2 => .array .boolean
  | 3 => .array .int
  | 4 => .array .int
  | 5 => .int
  | 6 => .int
  | _ => .int
abbrev wsX20 : List Cond := u_ws RX2 TX2 8
theorem nmX2 : ∀ a, a < 8 → ∀ b, b < 8 → a ≠ b → (TX2 a).2.1 ≠ (TX2 b).2.1 := by decide +kernel
theorem tyX2_ok : ∀ k, k < 8 → parseFieldDescriptor (TX2 k).2.2.1 = some (tyX2 k) := by decide +kernel
abbrev cX2_init : ByteArray := prog_4_method_1_code
def yX2_init : MethodName := ⟨RX2, "<init>", "()V"⟩
abbrev cX2_build : ByteArray := prog_4_method_2_code
def yX2_build : MethodName := ⟨RX2, "build", "(LScratchMap$State;)V"⟩
abbrev cX2_isSpot : ByteArray := prog_4_method_3_code
def yX2_isSpot : MethodName := ⟨RX2, "isSpot", "(I)Z"⟩
abbrev cX2_isAvoided : ByteArray := prog_4_method_4_code
def yX2_isAvoided : MethodName := ⟨RX2, "isAvoided", "(I)Z"⟩
abbrev cX2_isGood : ByteArray := prog_4_method_5_code
def yX2_isGood : MethodName := ⟨RX2, "isGood", "(I)Z"⟩
abbrev cX2_hitsOf : ByteArray := prog_4_method_6_code
def yX2_hitsOf : MethodName := ⟨RX2, "hitsOf", "(I)I"⟩
abbrev cX2_lineAt : ByteArray := prog_4_method_7_code
def yX2_lineAt : MethodName := ⟨RX2, "lineAt", "(I)LScratchMap$Line;"⟩
abbrev cX2_clear : ByteArray := prog_4_method_8_code
def yX2_clear : MethodName := ⟨RX2, "clear", "()V"⟩
abbrev cX2_takeSpots : ByteArray := prog_4_method_9_code
def yX2_takeSpots : MethodName := ⟨RX2, "takeSpots", "(LScratchMap$State;)V"⟩
abbrev cX2_addLine : ByteArray := prog_4_method_10_code
def yX2_addLine : MethodName := ⟨RX2, "addLine", "(LScratchMap$State;II)Z"⟩
abbrev cX2_trackOf : ByteArray := prog_4_method_11_code
def yX2_trackOf : MethodName := ⟨RX2, "trackOf", "(I)I"⟩
abbrev cX2_sectorOf : ByteArray := prog_4_method_12_code
def yX2_sectorOf : MethodName := ⟨RX2, "sectorOf", "(I)I"⟩
abbrev cX2_spotsInLineWith : ByteArray := prog_4_method_13_code
def yX2_spotsInLineWith : MethodName := ⟨RX2, "spotsInLineWith", "(II)I"⟩
abbrev cX2_hitCells : ByteArray := prog_4_method_14_code
def yX2_hitCells : MethodName := ⟨RX2, "hitCells", "(LScratchMap$Line;)V"⟩
def RX3 : String := "ScratchMap$State"
def TX3 : u_T := fun k => match k with
  | 0 => ("ScratchMap$State", "spots", "[I", true)
  | 1 => ("ScratchMap$State", "settings", "[I", true)
  | 2 => ("ScratchMap$State", "values", "[I", true)
  | 3 => ("ScratchMap$State", "places", "[I", true)
  | 4 => ("ScratchMap$State", "holders", "[I", true)
  | 5 => ("ScratchMap$State", "spotCount", "I", false)
  | 6 => ("ScratchMap$State", "lost", "I", false)
  | _ => ("ScratchMap$State", "moves", "I", false)
def tyX3 : Nat → FieldType := fun k => match k with
  | 0 => .array .int
  | 1 => .array .int
  | 2 => .array .int
  | 3 => .array .int
  | 4 => .array .int
  | 5 => .int
  | 6 => .int
  | _ => .int
abbrev wsX30 : List Cond := u_ws RX3 TX3 8
theorem nmX3 : ∀ a, a < 8 → ∀ b, b < 8 → a ≠ b → (TX3 a).2.1 ≠ (TX3 b).2.1 := by decide +kernel
theorem tyX3_ok : ∀ k, k < 8 → parseFieldDescriptor (TX3 k).2.2.1 = some (tyX3 k) := by decide +kernel
abbrev cX3_init : ByteArray := prog_5_method_1_code
def yX3_init : MethodName := ⟨RX3, "<init>", "()V"⟩
abbrev cX3_copyFrom : ByteArray := prog_5_method_2_code
def yX3_copyFrom : MethodName := ⟨RX3, "copyFrom", "(LScratchMap$State;)V"⟩
abbrev cX3_valueOf : ByteArray := prog_5_method_3_code
def yX3_valueOf : MethodName := ⟨RX3, "valueOf", "(I)I"⟩
abbrev cX3_placeOf : ByteArray := prog_5_method_4_code
def yX3_placeOf : MethodName := ⟨RX3, "placeOf", "(I)I"⟩
abbrev cX3_holderOf : ByteArray := prog_5_method_5_code
def yX3_holderOf : MethodName := ⟨RX3, "holderOf", "(I)I"⟩
abbrev cX3_settingOf : ByteArray := prog_5_method_6_code
def yX3_settingOf : MethodName := ⟨RX3, "settingOf", "(I)I"⟩
abbrev cX3_changeSetting : ByteArray := prog_5_method_7_code
def yX3_changeSetting : MethodName := ⟨RX3, "changeSetting", "(II)V"⟩
abbrev cX3_place : ByteArray := prog_5_method_8_code
def yX3_place : MethodName := ⟨RX3, "place", "(III)V"⟩
abbrev cX3_forget : ByteArray := prog_5_method_9_code
def yX3_forget : MethodName := ⟨RX3, "forget", "(I)V"⟩
abbrev cX3_cellOfSpot : ByteArray := prog_5_method_10_code
def yX3_cellOfSpot : MethodName := ⟨RX3, "cellOfSpot", "(I)I"⟩
abbrev cX3_spotAt : ByteArray := prog_5_method_11_code
def yX3_spotAt : MethodName := ⟨RX3, "spotAt", "(I)I"⟩
abbrev cX3_canAddSpot : ByteArray := prog_5_method_12_code
def yX3_canAddSpot : MethodName := ⟨RX3, "canAddSpot", "(I)Z"⟩
abbrev cX3_addSpot : ByteArray := prog_5_method_13_code
def yX3_addSpot : MethodName := ⟨RX3, "addSpot", "(I)V"⟩
abbrev cX3_removeSpot : ByteArray := prog_5_method_14_code
def yX3_removeSpot : MethodName := ⟨RX3, "removeSpot", "(I)V"⟩
def RX4 : String := "ScratchMap"
def TX4 : u_T := fun k => match k with
  | 0 => ("ScratchMap", "now", "LScratchMap$State;", true)
  | 1 => ("ScratchMap", "map", "LScratchMap$LineMap;", true)
  | 2 => ("ScratchMap", "saved", "[LScratchMap$State;", true)
  | 3 => ("ScratchMap", "savedStates", "I", false)
  | 4 => ("ScratchMap", "text", "LScratchMap$InputText;", true)
  | 5 => ("ScratchMap", "trial", "LScratchMap$State;", true)
  | _ => ("ScratchMap", "trialMap", "LScratchMap$LineMap;", true)
def tyX4 : Nat → FieldType := fun k => match k with
  | 0 => .object "ScratchMap$State"
  | 1 => .object "ScratchMap$LineMap"
  | 2 => .array (.object "ScratchMap$State")
  | 3 => .int
  | 4 => .object "ScratchMap$InputText"
  | 5 => .object "ScratchMap$State"
  | _ => .object "ScratchMap$LineMap"
abbrev wsX40 : List Cond := u_ws RX4 TX4 7
theorem nmX4 : ∀ a, a < 7 → ∀ b, b < 7 → a ≠ b → (TX4 a).2.1 ≠ (TX4 b).2.1 := by decide +kernel
theorem tyX4_ok : ∀ k, k < 7 → parseFieldDescriptor (TX4 k).2.2.1 = some (tyX4 k) := by decide +kernel
abbrev cX4_init : ByteArray := prog_1_method_1_code
def yX4_init : MethodName := ⟨RX4, "<init>", "()V"⟩
abbrev cX4_write : ByteArray := prog_1_method_2_code
def yX4_write : MethodName := ⟨RX4, "write", "(II)I"⟩
abbrev cX4_fill : ByteArray := prog_1_method_3_code
def yX4_fill : MethodName := ⟨RX4, "fill", "(III)I"⟩
abbrev cX4_drop : ByteArray := prog_1_method_4_code
def yX4_drop : MethodName := ⟨RX4, "drop", "(I)I"⟩
abbrev cX4_fail : ByteArray := prog_1_method_5_code
def yX4_fail : MethodName := ⟨RX4, "fail", "(II)I"⟩
abbrev cX4_heal : ByteArray := prog_1_method_6_code
def yX4_heal : MethodName := ⟨RX4, "heal", "(II)I"⟩
abbrev cX4_tidy : ByteArray := prog_1_method_7_code
def yX4_tidy : MethodName := ⟨RX4, "tidy", "(I)I"⟩
abbrev cX4_set : ByteArray := prog_1_method_8_code
def yX4_set : MethodName := ⟨RX4, "set", "(II)I"⟩
abbrev cX4_append : ByteArray := prog_1_method_9_code
def yX4_append : MethodName := ⟨RX4, "append", "(I)I"⟩
abbrev cX4_clearBuffer : ByteArray := prog_1_method_10_code
def yX4_clearBuffer : MethodName := ⟨RX4, "clearBuffer", "()I"⟩
abbrev cX4_firstError : ByteArray := prog_1_method_11_code
def yX4_firstError : MethodName := ⟨RX4, "firstError", "()I"⟩
abbrev cX4_read : ByteArray := prog_1_method_12_code
def yX4_read : MethodName := ⟨RX4, "read", "()I"⟩
abbrev cX4_undo : ByteArray := prog_1_method_13_code
def yX4_undo : MethodName := ⟨RX4, "undo", "()I"⟩
abbrev cX4_cell : ByteArray := prog_1_method_14_code
def yX4_cell : MethodName := ⟨RX4, "cell", "(III)I"⟩
abbrev cX4_block : ByteArray := prog_1_method_15_code
def yX4_block : MethodName := ⟨RX4, "block", "(II)I"⟩
abbrev cX4_line : ByteArray := prog_1_method_16_code
def yX4_line : MethodName := ⟨RX4, "line", "(II)I"⟩
abbrev cX4_count : ByteArray := prog_1_method_17_code
def yX4_count : MethodName := ⟨RX4, "count", "(I)I"⟩
abbrev cX4_setting : ByteArray := prog_1_method_18_code
def yX4_setting : MethodName := ⟨RX4, "setting", "(I)I"⟩
abbrev cX4_ifFailed : ByteArray := prog_1_method_19_code
def yX4_ifFailed : MethodName := ⟨RX4, "ifFailed", "(III)I"⟩
abbrev cX4_worst : ByteArray := prog_1_method_20_code
def yX4_worst : MethodName := ⟨RX4, "worst", "()I"⟩
abbrev cX4_untidy : ByteArray := prog_1_method_21_code
def yX4_untidy : MethodName := ⟨RX4, "untidy", "()I"⟩
abbrev cX4_find : ByteArray := prog_1_method_22_code
def yX4_find : MethodName := ⟨RX4, "find", "(I)I"⟩
abbrev cX4_goodShare : ByteArray := prog_1_method_23_code
def yX4_goodShare : MethodName := ⟨RX4, "goodShare", "()D"⟩
abbrev cX4_digest : ByteArray := prog_1_method_24_code
def yX4_digest : MethodName := ⟨RX4, "digest", "()J"⟩
abbrev cX4_inDrive : ByteArray := prog_1_method_25_code
def yX4_inDrive : MethodName := ⟨RX4, "inDrive", "(II)Z"⟩
abbrev cX4_cellNumber : ByteArray := prog_1_method_26_code
def yX4_cellNumber : MethodName := ⟨RX4, "cellNumber", "(II)I"⟩
abbrev cX4_isCell : ByteArray := prog_1_method_27_code
def yX4_isCell : MethodName := ⟨RX4, "isCell", "(I)Z"⟩
abbrev cX4_isSpare : ByteArray := prog_1_method_28_code
def yX4_isSpare : MethodName := ⟨RX4, "isSpare", "(I)Z"⟩
abbrev cX4_isBlock : ByteArray := prog_1_method_29_code
def yX4_isBlock : MethodName := ⟨RX4, "isBlock", "(I)Z"⟩
abbrev cX4_isValue : ByteArray := prog_1_method_30_code
def yX4_isValue : MethodName := ⟨RX4, "isValue", "(I)Z"⟩
abbrev cX4_isSetting : ByteArray := prog_1_method_31_code
def yX4_isSetting : MethodName := ⟨RX4, "isSetting", "(I)Z"⟩
abbrev cX4_fitsSetting : ByteArray := prog_1_method_32_code
def yX4_fitsSetting : MethodName := ⟨RX4, "fitsSetting", "(II)Z"⟩
abbrev cX4_saveState : ByteArray := prog_1_method_33_code
def yX4_saveState : MethodName := ⟨RX4, "saveState", "()V"⟩
abbrev cX4_moveOldestToEnd : ByteArray := prog_1_method_34_code
def yX4_moveOldestToEnd : MethodName := ⟨RX4, "moveOldestToEnd", "()V"⟩
abbrev cX4_cellForWriting : ByteArray := prog_1_method_35_code
def yX4_cellForWriting : MethodName := ⟨RX4, "cellForWriting", "(LScratchMap$State;LScratchMap$LineMap;I)I"⟩
abbrev cX4_lowestFreeSpare : ByteArray := prog_1_method_36_code
def yX4_lowestFreeSpare : MethodName := ⟨RX4, "lowestFreeSpare", "(LScratchMap$State;LScratchMap$LineMap;)I"⟩
abbrev cX4_tidyUp : ByteArray := prog_1_method_37_code
def yX4_tidyUp : MethodName := ⟨RX4, "tidyUp", "(LScratchMap$State;LScratchMap$LineMap;I)I"⟩
abbrev cX4_cellForTidying : ByteArray := prog_1_method_38_code
def yX4_cellForTidying : MethodName := ⟨RX4, "cellForTidying", "(LScratchMap$State;LScratchMap$LineMap;I)I"⟩
abbrev cX4_follow : ByteArray := prog_1_method_39_code
def yX4_follow : MethodName := ⟨RX4, "follow", "(I)Z"⟩
abbrev cX4_numberOf : ByteArray := prog_1_method_40_code
def yX4_numberOf : MethodName := ⟨RX4, "numberOf", "(I)I"⟩
abbrev cX4_blocksWithValues : ByteArray := prog_1_method_41_code
def yX4_blocksWithValues : MethodName := ⟨RX4, "blocksWithValues", "()I"⟩
abbrev cX4_blocksInSpares : ByteArray := prog_1_method_42_code
def yX4_blocksInSpares : MethodName := ⟨RX4, "blocksInSpares", "()I"⟩
abbrev cX4_blocksInBadCells : ByteArray := prog_1_method_43_code
def yX4_blocksInBadCells : MethodName := ⟨RX4, "blocksInBadCells", "(LScratchMap$State;LScratchMap$LineMap;)I"⟩
abbrev cX4_freeSpares : ByteArray := prog_1_method_44_code
def yX4_freeSpares : MethodName := ⟨RX4, "freeSpares", "()I"⟩
abbrev cX4_lineProperty : ByteArray := prog_1_method_45_code
def yX4_lineProperty : MethodName := ⟨RX4, "lineProperty", "(LScratchMap$Line;I)I"⟩
abbrev cX4_takenCellsToAvoid : ByteArray := prog_1_method_46_code
def yX4_takenCellsToAvoid : MethodName := ⟨RX4, "takenCellsToAvoid", "(LScratchMap$Line;)I"⟩
abbrev cX4_tryFailing : ByteArray := prog_1_method_47_code
def yX4_tryFailing : MethodName := ⟨RX4, "tryFailing", "(I)Z"⟩
abbrev cX4_forecast : ByteArray := prog_1_method_48_code
def yX4_forecast : MethodName := ⟨RX4, "forecast", "(I)I"⟩
abbrev cX4_mix : ByteArray := prog_1_method_49_code
def yX4_mix : MethodName := ⟨RX4, "mix", "(JJ)J"⟩
abbrev cX4_hashSpotsAndLines : ByteArray := prog_1_method_50_code
def yX4_hashSpotsAndLines : MethodName := ⟨RX4, "hashSpotsAndLines", "(J)J"⟩
abbrev cX4_hashAvoidedCells : ByteArray := prog_1_method_51_code
def yX4_hashAvoidedCells : MethodName := ⟨RX4, "hashAvoidedCells", "(J)J"⟩
abbrev cX4_hashBlocks : ByteArray := prog_1_method_52_code
def yX4_hashBlocks : MethodName := ⟨RX4, "hashBlocks", "(J)J"⟩
abbrev cX4_hashForecasts : ByteArray := prog_1_method_53_code
def yX4_hashForecasts : MethodName := ⟨RX4, "hashForecasts", "(J)J"⟩
abbrev cX4_hashText : ByteArray := prog_1_method_54_code
def yX4_hashText : MethodName := ⟨RX4, "hashText", "(J)J"⟩
abbrev cX4_bitsOfShare : ByteArray := prog_1_method_55_code
def yX4_bitsOfShare : MethodName := ⟨RX4, "bitsOfShare", "(D)J"⟩
def RX5 : String := "ScratchMapModel"
def TX5 : u_T := fun k => match k with
  | 0 => ("ScratchMapModel", "thrown", "I", false)
  | 1 => ("ScratchMapModel", "z", "[I", true)
  | 2 => ("ScratchMapModel", "saved", "[I", true)
  | 3 => ("ScratchMapModel", "savedMany", "I", false)
  | 4 => ("ScratchMapModel", "spare", "[I", true)
  | 5 => ("ScratchMapModel", "buffer", "[I", true)
  | 6 => ("ScratchMapModel", "typed", "I", false)
  | 7 => ("ScratchMapModel", "lines", "I", false)
  | 8 => ("ScratchMapModel", "masks", "[I", true)
  | 9 => ("ScratchMapModel", "stepTracks", "[I", true)
  | 10 => ("ScratchMapModel", "stepSectors", "[I", true)
  | 11 => ("ScratchMapModel", "lows", "[I", true)
  | 12 => ("ScratchMapModel", "highs", "[I", true)
  | 13 => ("ScratchMapModel", "origins", "[I", true)
  | 14 => ("ScratchMapModel", "hits", "[I", true)
  | 15 => ("ScratchMapModel", "isSpot", "[Z", true)
  | 16 => ("ScratchMapModel", "orders", "[I", true)
  | 17 => ("ScratchMapModel", "orderMany", "I", false)
  | 18 => ("ScratchMapModel", "at", "I", false)
  | 19 => ("ScratchMapModel", "wrong", "I", false)
  | _ => ("ScratchMapModel", "hash", "J", false)
def tyX5 : Nat → FieldType := fun k => match k with
  | 0 => .int
  | 1 => .array .int
  | 2 => .array .int
  | 3 => .int
  | 4 => .array .int
  | 5 => .array .int
  | 6 => .int
  | 7 => .int
  | 8 => .array .int
  | 9 => .array .int
  | 10 => .array .int
  | 11 => .array .int
  | 12 => .array .int
  | 13 => .array .int
  | 14 => .array .int
  | 15 => .array .boolean
  | 16 => .array .int
  | 17 => .int
  | 18 => .int
  | 19 => .int
  | _ => .long
abbrev wsX50 : List Cond := u_ws RX5 TX5 21
theorem nmX5 : ∀ a, a < 21 → ∀ b, b < 21 → a ≠ b → (TX5 a).2.1 ≠ (TX5 b).2.1 := by decide +kernel
theorem tyX5_ok : ∀ k, k < 21 → parseFieldDescriptor (TX5 k).2.2.1 = some (tyX5 k) := by decide +kernel
abbrev cX5_init : ByteArray := prog_7_method_1_code
def yX5_init : MethodName := ⟨RX5, "<init>", "()V"⟩
abbrev cX5_thrown : ByteArray := prog_7_method_2_code
def yX5_thrown : MethodName := ⟨RX5, "thrown", "()I"⟩
abbrev cX5_in : ByteArray := prog_7_method_3_code
def yX5_in : MethodName := ⟨RX5, "in", "(III)Z"⟩
abbrev cX5_isPlace : ByteArray := prog_7_method_4_code
def yX5_isPlace : MethodName := ⟨RX5, "isPlace", "(II)Z"⟩
abbrev cX5_isBlock : ByteArray := prog_7_method_5_code
def yX5_isBlock : MethodName := ⟨RX5, "isBlock", "(I)Z"⟩
abbrev cX5_isValue : ByteArray := prog_7_method_6_code
def yX5_isValue : MethodName := ⟨RX5, "isValue", "(I)Z"⟩
abbrev cX5_spot : ByteArray := prog_7_method_7_code
def yX5_spot : MethodName := ⟨RX5, "spot", "(I)I"⟩
abbrev cX5_where : ByteArray := prog_7_method_8_code
def yX5_where : MethodName := ⟨RX5, "where", "(I)I"⟩
abbrev cX5_taken : ByteArray := prog_7_method_9_code
def yX5_taken : MethodName := ⟨RX5, "taken", "(I)I"⟩
abbrev cX5_spotAt : ByteArray := prog_7_method_10_code
def yX5_spotAt : MethodName := ⟨RX5, "spotAt", "(I)I"⟩
abbrev cX5_save : ByteArray := prog_7_method_11_code
def yX5_save : MethodName := ⟨RX5, "save", "()V"⟩
abbrev cX5_undo : ByteArray := prog_7_method_12_code
def yX5_undo : MethodName := ⟨RX5, "undo", "()I"⟩
abbrev cX5_putAside : ByteArray := prog_7_method_13_code
def yX5_putAside : MethodName := ⟨RX5, "putAside", "()V"⟩
abbrev cX5_bringBack : ByteArray := prog_7_method_14_code
def yX5_bringBack : MethodName := ⟨RX5, "bringBack", "()V"⟩
abbrev cX5_sizeOf : ByteArray := prog_7_method_15_code
def yX5_sizeOf : MethodName := ⟨RX5, "sizeOf", "(I)I"⟩
abbrev cX5_common : ByteArray := prog_7_method_16_code
def yX5_common : MethodName := ⟨RX5, "common", "(II)I"⟩
abbrev cX5_tracksApart : ByteArray := prog_7_method_17_code
def yX5_tracksApart : MethodName := ⟨RX5, "tracksApart", "(II)I"⟩
abbrev cX5_sectorsApart : ByteArray := prog_7_method_18_code
def yX5_sectorsApart : MethodName := ⟨RX5, "sectorsApart", "(II)I"⟩
abbrev cX5_isStraight : ByteArray := prog_7_method_19_code
def yX5_isStraight : MethodName := ⟨RX5, "isStraight", "(III)Z"⟩
abbrev cX5_bits : ByteArray := prog_7_method_20_code
def yX5_bits : MethodName := ⟨RX5, "bits", "(I)I"⟩
abbrev cX5_stepsTo : ByteArray := prog_7_method_21_code
def yX5_stepsTo : MethodName := ⟨RX5, "stepsTo", "(II)I"⟩
abbrev cX5_areNear : ByteArray := prog_7_method_22_code
def yX5_areNear : MethodName := ⟨RX5, "areNear", "(II)Z"⟩
abbrev cX5_layLine : ByteArray := prog_7_method_23_code
def yX5_layLine : MethodName := ⟨RX5, "layLine", "(II)V"⟩
abbrev cX5_cellOf : ByteArray := prog_7_method_24_code
def yX5_cellOf : MethodName := ⟨RX5, "cellOf", "(II)I"⟩
abbrev cX5_lay : ByteArray := prog_7_method_25_code
def yX5_lay : MethodName := ⟨RX5, "lay", "()V"⟩
abbrev cX5_isAvoided : ByteArray := prog_7_method_26_code
def yX5_isAvoided : MethodName := ⟨RX5, "isAvoided", "(I)Z"⟩
abbrev cX5_isGood : ByteArray := prog_7_method_27_code
def yX5_isGood : MethodName := ⟨RX5, "isGood", "(I)Z"⟩
abbrev cX5_freeSpare : ByteArray := prog_7_method_28_code
def yX5_freeSpare : MethodName := ⟨RX5, "freeSpare", "()I"⟩
abbrev cX5_goalOf : ByteArray := prog_7_method_29_code
def yX5_goalOf : MethodName := ⟨RX5, "goalOf", "(I)I"⟩
abbrev cX5_bringTo : ByteArray := prog_7_method_30_code
def yX5_bringTo : MethodName := ⟨RX5, "bringTo", "(II)V"⟩
abbrev cX5_lose : ByteArray := prog_7_method_31_code
def yX5_lose : MethodName := ⟨RX5, "lose", "(I)V"⟩
abbrev cX5_writeIt : ByteArray := prog_7_method_32_code
def yX5_writeIt : MethodName := ⟨RX5, "writeIt", "(II)I"⟩
abbrev cX5_write : ByteArray := prog_7_method_33_code
def yX5_write : MethodName := ⟨RX5, "write", "(II)I"⟩
abbrev cX5_fill : ByteArray := prog_7_method_34_code
def yX5_fill : MethodName := ⟨RX5, "fill", "(III)I"⟩
abbrev cX5_drop : ByteArray := prog_7_method_35_code
def yX5_drop : MethodName := ⟨RX5, "drop", "(I)I"⟩
abbrev cX5_canFail : ByteArray := prog_7_method_36_code
def yX5_canFail : MethodName := ⟨RX5, "canFail", "(I)Z"⟩
abbrev cX5_failIt : ByteArray := prog_7_method_37_code
def yX5_failIt : MethodName := ⟨RX5, "failIt", "(I)V"⟩
abbrev cX5_healIt : ByteArray := prog_7_method_38_code
def yX5_healIt : MethodName := ⟨RX5, "healIt", "(I)V"⟩
abbrev cX5_linesNow : ByteArray := prog_7_method_39_code
def yX5_linesNow : MethodName := ⟨RX5, "linesNow", "()I"⟩
abbrev cX5_fail : ByteArray := prog_7_method_40_code
def yX5_fail : MethodName := ⟨RX5, "fail", "(II)I"⟩
abbrev cX5_heal : ByteArray := prog_7_method_41_code
def yX5_heal : MethodName := ⟨RX5, "heal", "(II)I"⟩
abbrev cX5_tidyGoal : ByteArray := prog_7_method_42_code
def yX5_tidyGoal : MethodName := ⟨RX5, "tidyGoal", "(I)I"⟩
abbrev cX5_tidyUp : ByteArray := prog_7_method_43_code
def yX5_tidyUp : MethodName := ⟨RX5, "tidyUp", "(I)I"⟩
abbrev cX5_tidy : ByteArray := prog_7_method_44_code
def yX5_tidy : MethodName := ⟨RX5, "tidy", "(I)I"⟩
abbrev cX5_leastOf : ByteArray := prog_7_method_45_code
def yX5_leastOf : MethodName := ⟨RX5, "leastOf", "(I)I"⟩
abbrev cX5_mostOf : ByteArray := prog_7_method_46_code
def yX5_mostOf : MethodName := ⟨RX5, "mostOf", "(I)I"⟩
abbrev cX5_set : ByteArray := prog_7_method_47_code
def yX5_set : MethodName := ⟨RX5, "set", "(II)I"⟩
abbrev cX5_append : ByteArray := prog_7_method_48_code
def yX5_append : MethodName := ⟨RX5, "append", "(I)I"⟩
abbrev cX5_clearBuffer : ByteArray := prog_7_method_49_code
def yX5_clearBuffer : MethodName := ⟨RX5, "clearBuffer", "()I"⟩
abbrev cX5_letter : ByteArray := prog_7_method_50_code
def yX5_letter : MethodName := ⟨RX5, "letter", "()I"⟩
abbrev cX5_wants : ByteArray := prog_7_method_51_code
def yX5_wants : MethodName := ⟨RX5, "wants", "(Z)V"⟩
abbrev cX5_number : ByteArray := prog_7_method_52_code
def yX5_number : MethodName := ⟨RX5, "number", "()I"⟩
abbrev cX5_readOrder : ByteArray := prog_7_method_53_code
def yX5_readOrder : MethodName := ⟨RX5, "readOrder", "()V"⟩
abbrev cX5_readBuffer : ByteArray := prog_7_method_54_code
def yX5_readBuffer : MethodName := ⟨RX5, "readBuffer", "()I"⟩
abbrev cX5_firstError : ByteArray := prog_7_method_55_code
def yX5_firstError : MethodName := ⟨RX5, "firstError", "()I"⟩
abbrev cX5_does : ByteArray := prog_7_method_56_code
def yX5_does : MethodName := ⟨RX5, "does", "(I)Z"⟩
abbrev cX5_read : ByteArray := prog_7_method_57_code
def yX5_read : MethodName := ⟨RX5, "read", "()I"⟩
abbrev cX5_toldCell : ByteArray := prog_7_method_58_code
def yX5_toldCell : MethodName := ⟨RX5, "toldCell", "(II)I"⟩
abbrev cX5_cell : ByteArray := prog_7_method_59_code
def yX5_cell : MethodName := ⟨RX5, "cell", "(III)I"⟩
abbrev cX5_toldBlock : ByteArray := prog_7_method_60_code
def yX5_toldBlock : MethodName := ⟨RX5, "toldBlock", "(II)I"⟩
abbrev cX5_block : ByteArray := prog_7_method_61_code
def yX5_block : MethodName := ⟨RX5, "block", "(II)I"⟩
abbrev cX5_cellsOf : ByteArray := prog_7_method_62_code
def yX5_cellsOf : MethodName := ⟨RX5, "cellsOf", "(IZ)I"⟩
abbrev cX5_toldLine : ByteArray := prog_7_method_63_code
def yX5_toldLine : MethodName := ⟨RX5, "toldLine", "(II)I"⟩
abbrev cX5_line : ByteArray := prog_7_method_64_code
def yX5_line : MethodName := ⟨RX5, "line", "(II)I"⟩
abbrev cX5_avoidedMany : ByteArray := prog_7_method_65_code
def yX5_avoidedMany : MethodName := ⟨RX5, "avoidedMany", "()I"⟩
abbrev cX5_blocks : ByteArray := prog_7_method_66_code
def yX5_blocks : MethodName := ⟨RX5, "blocks", "(I)I"⟩
abbrev cX5_freeSpares : ByteArray := prog_7_method_67_code
def yX5_freeSpares : MethodName := ⟨RX5, "freeSpares", "()I"⟩
abbrev cX5_counted : ByteArray := prog_7_method_68_code
def yX5_counted : MethodName := ⟨RX5, "counted", "(I)I"⟩
abbrev cX5_count : ByteArray := prog_7_method_69_code
def yX5_count : MethodName := ⟨RX5, "count", "(I)I"⟩
abbrev cX5_setting : ByteArray := prog_7_method_70_code
def yX5_setting : MethodName := ⟨RX5, "setting", "(I)I"⟩
abbrev cX5_wouldFail : ByteArray := prog_7_method_71_code
def yX5_wouldFail : MethodName := ⟨RX5, "wouldFail", "(II)I"⟩
abbrev cX5_ifFailed : ByteArray := prog_7_method_72_code
def yX5_ifFailed : MethodName := ⟨RX5, "ifFailed", "(III)I"⟩
abbrev cX5_worstCell : ByteArray := prog_7_method_73_code
def yX5_worstCell : MethodName := ⟨RX5, "worstCell", "()I"⟩
abbrev cX5_worst : ByteArray := prog_7_method_74_code
def yX5_worst : MethodName := ⟨RX5, "worst", "()I"⟩
abbrev cX5_wouldMove : ByteArray := prog_7_method_75_code
def yX5_wouldMove : MethodName := ⟨RX5, "wouldMove", "()I"⟩
abbrev cX5_untidy : ByteArray := prog_7_method_76_code
def yX5_untidy : MethodName := ⟨RX5, "untidy", "()I"⟩
abbrev cX5_blockWith : ByteArray := prog_7_method_77_code
def yX5_blockWith : MethodName := ⟨RX5, "blockWith", "(I)I"⟩
abbrev cX5_find : ByteArray := prog_7_method_78_code
def yX5_find : MethodName := ⟨RX5, "find", "(I)I"⟩
abbrev cX5_share : ByteArray := prog_7_method_79_code
def yX5_share : MethodName := ⟨RX5, "share", "()D"⟩
abbrev cX5_goodShare : ByteArray := prog_7_method_80_code
def yX5_goodShare : MethodName := ⟨RX5, "goodShare", "()D"⟩
abbrev cX5_bitsOf : ByteArray := prog_7_method_81_code
def yX5_bitsOf : MethodName := ⟨RX5, "bitsOf", "(D)J"⟩
abbrev cX5_mix : ByteArray := prog_7_method_82_code
def yX5_mix : MethodName := ⟨RX5, "mix", "(J)V"⟩
abbrev cX5_mixFailed : ByteArray := prog_7_method_83_code
def yX5_mixFailed : MethodName := ⟨RX5, "mixFailed", "(I)V"⟩
abbrev cX5_mixMap : ByteArray := prog_7_method_84_code
def yX5_mixMap : MethodName := ⟨RX5, "mixMap", "()V"⟩
abbrev cX5_digest : ByteArray := prog_7_method_85_code
def yX5_digest : MethodName := ⟨RX5, "digest", "()J"⟩
def RJ6 : String := "java/lang/Integer"
def TJ6 : u_T := fun k => match k with
  | _ => ("", "", "", false)
def tyJ6 : Nat → FieldType := fun k => match k with
  | _ => .int
abbrev wsJ60 : List Cond := u_ws RJ6 TJ6 0
theorem nmJ6 : ∀ a, a < 0 → ∀ b, b < 0 → a ≠ b → (TJ6 a).2.1 ≠ (TJ6 b).2.1 := by decide +kernel
theorem tyJ6_ok : ∀ k, k < 0 → parseFieldDescriptor (TJ6 k).2.2.1 = some (tyJ6 k) := by decide +kernel
abbrev cJ6_bitCount_0f7a4 : ByteArray := prog_12_method_49_code
def yJ6_bitCount_0f7a4 : MethodName := ⟨RJ6, "bitCount", "(I)I"⟩
def RJ9 : String := "java/lang/Math"
def TJ9 : u_T := fun k => match k with
  | _ => ("", "", "", false)
def tyJ9 : Nat → FieldType := fun k => match k with
  | _ => .int
abbrev wsJ90 : List Cond := u_ws RJ9 TJ9 0
theorem nmJ9 : ∀ a, a < 0 → ∀ b, b < 0 → a ≠ b → (TJ9 a).2.1 ≠ (TJ9 b).2.1 := by decide +kernel
theorem tyJ9_ok : ∀ k, k < 0 → parseFieldDescriptor (TJ9 k).2.2.1 = some (tyJ9 k) := by decide +kernel
abbrev cJ9_abs_0f7a4 : ByteArray := prog_13_method_59_code
def yJ9_abs_0f7a4 : MethodName := ⟨RJ9, "abs", "(I)I"⟩
abbrev cJ9_max_7cf53 : ByteArray := prog_13_method_65_code
def yJ9_max_7cf53 : MethodName := ⟨RJ9, "max", "(II)I"⟩
abbrev cJ9_min_7cf53 : ByteArray := prog_13_method_69_code
def yJ9_min_7cf53 : MethodName := ⟨RJ9, "min", "(II)I"⟩
def RJ0 : String := "java/lang/String"
def TJ0 : u_T := fun k => match k with
  | _ => ("", "", "", false)
def tyJ0 : Nat → FieldType := fun k => match k with
  | _ => .int
abbrev wsJ00 : List Cond := u_ws RJ0 TJ0 0
theorem nmJ0 : ∀ a, a < 0 → ∀ b, b < 0 → a ≠ b → (TJ0 a).2.1 ≠ (TJ0 b).2.1 := by decide +kernel
theorem tyJ0_ok : ∀ k, k < 0 → parseFieldDescriptor (TJ0 k).2.2.1 = some (tyJ0 k) := by decide +kernel
def RJ10 : String := "java/lang/System"
def TJ10 : u_T := fun k => match k with
  | _ => ("", "", "", false)
def tyJ10 : Nat → FieldType := fun k => match k with
  | _ => .int
abbrev wsJ100 : List Cond := u_ws RJ10 TJ10 0
theorem nmJ10 : ∀ a, a < 0 → ∀ b, b < 0 → a ≠ b → (TJ10 a).2.1 ≠ (TJ10 b).2.1 := by decide +kernel
theorem tyJ10_ok : ∀ k, k < 0 → parseFieldDescriptor (TJ10 k).2.2.1 = some (tyJ10 k) := by decide +kernel
def RL : String := "ScratchMapLaw"
abbrev cL_write : ByteArray := method_3_code
def yL_write : MethodName := ⟨RL, "write", "(LScratchMap;II[J)I"⟩
abbrev cL_fill : ByteArray := method_4_code
def yL_fill : MethodName := ⟨RL, "fill", "(LScratchMap;III[J)I"⟩
abbrev cL_drop : ByteArray := method_5_code
def yL_drop : MethodName := ⟨RL, "drop", "(LScratchMap;I[J)I"⟩
abbrev cL_fail : ByteArray := method_6_code
def yL_fail : MethodName := ⟨RL, "fail", "(LScratchMap;II[J)I"⟩
abbrev cL_heal : ByteArray := method_7_code
def yL_heal : MethodName := ⟨RL, "heal", "(LScratchMap;II[J)I"⟩
abbrev cL_tidy : ByteArray := method_8_code
def yL_tidy : MethodName := ⟨RL, "tidy", "(LScratchMap;I[J)I"⟩
abbrev cL_set : ByteArray := method_9_code
def yL_set : MethodName := ⟨RL, "set", "(LScratchMap;II[J)I"⟩
abbrev cL_append : ByteArray := method_10_code
def yL_append : MethodName := ⟨RL, "append", "(LScratchMap;I[J)I"⟩
abbrev cL_read : ByteArray := method_11_code
def yL_read : MethodName := ⟨RL, "read", "(LScratchMap;[J)I"⟩
abbrev cL_undo : ByteArray := method_12_code
def yL_undo : MethodName := ⟨RL, "undo", "(LScratchMap;[J)I"⟩
abbrev cL_cell : ByteArray := method_13_code
def yL_cell : MethodName := ⟨RL, "cell", "(LScratchMap;III[J)I"⟩
abbrev cL_block : ByteArray := method_14_code
def yL_block : MethodName := ⟨RL, "block", "(LScratchMap;II[J)I"⟩
abbrev cL_line : ByteArray := method_15_code
def yL_line : MethodName := ⟨RL, "line", "(LScratchMap;II[J)I"⟩
abbrev cL_count : ByteArray := method_16_code
def yL_count : MethodName := ⟨RL, "count", "(LScratchMap;I[J)I"⟩
abbrev cL_setting : ByteArray := method_17_code
def yL_setting : MethodName := ⟨RL, "setting", "(LScratchMap;I[J)I"⟩
abbrev cL_ifFailed : ByteArray := method_18_code
def yL_ifFailed : MethodName := ⟨RL, "ifFailed", "(LScratchMap;III[J)I"⟩
abbrev cL_find : ByteArray := method_19_code
def yL_find : MethodName := ⟨RL, "find", "(LScratchMap;I[J)I"⟩
abbrev cL_law : ByteArray := code
def yL_law : MethodName := ⟨RL, "law", "([I)Z"⟩
abbrev vwCl : List vw_C := [(RX0, TX0, 9), (RX1, TX1, 9), (RX2, TX2, 8), (RX3, TX3, 8), (RX4, TX4, 7), (RX5, TX5, 21)]
end
section
/-! CORE. The Java world as numbered cells: T k = (kind, length) of cell k (kinds 0..5 objects as in vwCl, 6 int[], 7 boolean[], 8 Line[], 9 State[], 10 long[]); I k j its ints (fields, elements), J its longs, R its references (by cell number); n cells in all; z = 0, or the heap ends behind them, at n + 1 = z (while they are made).
GoT: from this place of the method Y the machine comes to the target Tg; Go: it returns with K. Sp: the method as a whole. -/
def iz (z : Int) : Int32 := Int32.ofInt z
abbrev QE : Type := Nat × va_G × (Nat → ClassId) × (Nat → Nat)
abbrev QW : Type := (Nat → Nat × Nat) × (Nat → Nat → Int) × (Nat → Nat → Int64) × (Nat → Nat → Option Nat) × Nat × Nat
def q_ft : Nat → Nat → Nat
  | 0, 0 => 2 | 0, 1 => 2 | 0, 2 => 2
  | 1, 8 => 1
  | 2, 0 => 2 | 2, 1 => 2 | 2, 2 => 2 | 2, 3 => 2 | 2, 4 => 2
  | 3, 0 => 2 | 3, 1 => 2 | 3, 2 => 2 | 3, 3 => 2 | 3, 4 => 2
  | 4, 0 => 2 | 4, 1 => 2 | 4, 2 => 2 | 4, 4 => 2 | 4, 5 => 2 | 4, 6 => 2
  | 5, 1 => 2 | 5, 2 => 2 | 5, 4 => 2 | 5, 5 => 2 | 5, 8 => 2 | 5, 9 => 2 | 5, 10 => 2 | 5, 11 => 2 | 5, 12 => 2 | 5, 13 => 2 | 5, 14 => 2 | 5, 15 => 2 | 5, 16 => 2
  | 5, 20 => 1
  | _, _ => 0
def q_ns : Nat → Nat
  | 0 => 9 | 1 => 9 | 2 => 8 | 3 => 8 | 4 => 7 | 5 => 21 | _ => 0
def q_f (E : QE) (w : QW) (k j : Nat) (t : Nat) : Value := match t with
  | 0 => .int (iz (w.2.1 k j))
  | 1 => .long (w.2.2.1 k j)
  | _ => va_rf ((w.2.2.2.1 k j).map (E.1 + ·))
def q_fs (E : QE) (w : QW) (k c : Nat) : List Value := (List.range (q_ns c)).map (fun j => q_f E w k j (q_ft c j))
def q_c (E : QE) (w : QW) (k : Nat) : va_E :=
  if (w.1 k).1 < 6 then .inr ((w.1 k).1, q_fs E w k (w.1 k).1)
  else if (w.1 k).1 < 8 then .inl (E.2.2.1 (w.1 k).1, (w.1 k).2, .inl (fun j => iz (w.2.1 k j)))
  else if (w.1 k).1 < 10 then .inl (E.2.2.1 (w.1 k).1, (w.1 k).2, .inr (.inr (.inr (.inr (fun j => (w.2.2.2.1 k j).map (E.1 + ·))))))
  else .inl (E.2.2.1 (w.1 k).1, (w.1 k).2, .inr (.inl (w.2.2.1 k)))
def q_F (E : QE) (w : QW) (a : Nat) : va_E := q_c E w (a - E.1)
def q_L (E : QE) (n : Nat) : List Nat := (List.range n).map (E.1 + ·)
def q_ws (E : QE) (w : QW) : va_W := [] ++ va_pl (q_L E w.2.2.2.2.1) (q_F E w)
def q_A (E : QE) : Nat → Prop := fun q => E.1 ≤ q
def q_H (E : QE) (w : QW) (H : Heap) : Prop := va_P E.2.1 vwCl (q_ws E w) H ∧ va_D (q_A E) (q_ws E w) ∧ E.1 ≤ H.size ∧ (w.2.2.2.2.2 ≠ 0 → H.size + 1 = E.1 + w.2.2.2.2.2)
def q_sn : Nat → String
  | 0 => "LOWEST_SETTING" | 1 => "HIGHEST_SETTING" | 2 => "FIRST_SETTING" | _ => "CELLS_IN_DIGEST"
def q_sv : Nat → Nat → Int
  | 0, 0 => 3 | 0, 1 => 1 | 0, _ => 0
  | 1, 0 => 6 | 1, 1 => 8 | 1, _ => 6
  | 2, 0 => 3 | 2, 1 => 3 | 2, _ => 2
  | _, 0 => 51 | _, 1 => 250 | _, _ => 509
def q_tys (E : QE) : List (ClassId × FieldType) := [(E.2.2.1 6, .int), (E.2.2.1 7, .boolean), (E.2.2.1 8, .object RX1), (E.2.2.1 9, .object RX3), (E.2.2.1 10, .long)]
def q_N : List Cond := [.fieldLinkNest RX3 37 "ScratchMap" "FIRST_SETTING" "[I" "ScratchMap", .methodLinkNest RX2 41 yX1_init "ScratchMap", .methodLinkNest RX4 33 yX0_init "ScratchMap", .methodLinkNest RX0 61 yX4_cellNumber "ScratchMap", .methodLinkNest RX2 65 yX4_isCell "ScratchMap", .methodLinkNest RX3 46 yX4_isBlock "ScratchMap", .methodLinkNest RX3 50 yX4_isCell "ScratchMap", .methodLinkNest RX3 53 yX4_isSetting "ScratchMap", .methodLinkNest RX1 65 yX4_inDrive "ScratchMap"]
def q_K (E : QE) (U : State) (H : Heap) : Prop := va_K E.2.1 vwCl (q_tys E) U ∧ (∀ w ∈ q_N, va_Nw w U) ∧ (∀ i, i < 4 → va_Z RX4 (q_sn i) "[I" (.ref (E.2.2.2 i)) (q_A E) U H ∧ va_T .int (E.2.2.2 i) 3 (fun j => .int (iz (q_sv i j))) (q_A E) U H) ∧ va_AO RX1 U ∧ va_AO RX3 U
abbrev QY : Type := MethodName × ByteArray × Nat × Option FieldType × Room
def q_T : List Cond := lw_tbl.filter goodWord
def q_wsY (Y : QY) : List Cond := .code Y.1 Y.2.1 Y.2.2.1 Y.2.2.2.1 :: q_T
def q_Pc (E : QE) (w : QW) (vs : List Value) : Array Value → State → Prop := va_Pc vs (fun U => q_H E w U.heap ∧ q_K E U U.heap)
def q_Qc (E : QE) (K : Option Value → QW → Prop) : Array Value → State → Outcome → State → Prop := fun _ st o t => (∃ (r : Option Value) (w : QW), o = .returned r ∧ K r w ∧ q_H E w t.heap) ∧ va_F (q_A E) st t
def Sp (l : Launch) (E : QE) (Y : QY) (vs : List Value) (w : QW) (K : Option Value → QW → Prop) : Prop := Met l Y.1 (q_wsY Y) Y.2.2.2.2 (q_Pc E w vs) (q_Qc E K) Y.2.2.2.2.cells Y.2.2.2.2.slots (q_A E)
def q_At (E : QE) (Y : QY) (p : Program) (s : State) (m : MethodId) (args : Array Value) (meth : Method) (c : Code) : Prop :=
  p.tables.exec = Jvm.exec ∧ c.code = Y.2.1 ∧ c.maxLocals = Y.2.2.1 ∧ meth.sig.returnType = Y.2.2.2.1 ∧ s.vm.findClass Y.1.cls = some m.cls ∧ (∀ w ∈ q_T, w.before args s = true) ∧ q_K E s s.heap ∧ meth.locks = false ∧ meth.name = Y.1.name ∧ E.1 ≤ s.heap.size
def q_l : Nat → List (Option Value) → List (Nat × Value)
  | _, [] => []
  | i, none :: r => q_l (i + 1) r
  | i, some v :: r => (i, v) :: q_l (i + 1) r
def GoT (l : Launch) (E : QE) (Y : QY) (kc ks pc : Nat) (L : List (Option Value)) (st : List Value) (w : QW) (Tg : List Frame → Array Value → State → State → Prop) : Prop :=
  ∀ (p : Program) (e : Env) (s : State) (m : MethodId) (args : Array Value) (below : List Frame) (meth : Method) (c : Code) (H : Heap) (locs : List Loc) (ls : Array Slot),
    q_At E Y p s m args meth c → q_H E w H → va_S (q_A E) s.heap H locs → lv_has ls Y.2.2.1 (q_l 0 L) →
    W p l e Y.2.2.2.2 s m args below meth c H locs kc ks (Tg below args s) (F0 m pc ls st)
abbrev Go (l : Launch) (E : QE) (Y : QY) (kc ks pc : Nat) (L : List (Option Value)) (st : List Value) (w : QW) (K : Option Value → QW → Prop) : Prop :=
  GoT l E Y kc ks pc L st w (fun below args s => MQ below (q_Qc E K) args s Y.2.2.2.2.cells Y.2.2.2.2.slots (q_A E))
theorem q_T_in {w : Cond} (h : w ∈ lw_tbl) (hg : goodWord w = true) : w ∈ q_T := List.mem_filter.mpr ⟨h, hg⟩
theorem q_w {w : Cond} (i : Nat) (h : tables_1[i]? = some w) (hg : goodWord w = true) : w ∈ q_T := q_T_in (List.mem_append_right _ (List.mem_of_getElem? h)) hg
theorem q_ws_s {w : Cond} (i : Nat) (h : (k2_sels lw_privs)[i]? = some w) (hg : goodWord w = true) : w ∈ q_T := q_T_in (List.mem_append_left _ (List.mem_of_getElem? h)) hg
theorem q_good {Y : QY} (hc : Cond.code Y.1 Y.2.1 Y.2.2.1 Y.2.2.2.1 ∈ q_T) : GoodIn q_T (q_wsY Y) := by
  intro w hw
  rcases List.mem_cons.mp hw with rfl | hw
  · exact ⟨hc, good_of_word (List.mem_filter.mp hc).2⟩
  · exact ⟨hw, good_of_word (List.mem_filter.mp hw).2⟩
theorem q_K.to {E : QE} {s U : State} {H H1 : Heap} (h : q_K E s H) (hW : s.WarmedH U.vm) (hk : ∀ a : Nat, a < H.size → ¬ q_A E a → H1[a]? = H[a]?) : q_K E U H1 := by
  obtain ⟨h1, h2, h3, h4, h5⟩ := h
  have ha := hW.alike
  refine ⟨va_K.moved ha h1, fun w hw => ?_, fun i hi => ⟨((h3 i hi).1.moved ha).kept hk, ((h3 i hi).2.moved ha).kept hk⟩, h4.moved ha, h5.moved ha⟩
  have h := h2 w hw
  simp only [q_N, List.mem_cons, List.not_mem_nil, or_false] at hw
  rcases hw with rfl | rfl | rfl | rfl | rfl | rfl | rfl | rfl | rfl
  · exact va_Nw.warmF hW h
  all_goals exact va_Nw.warmM hW h
end
section
/-! ROWS: numbers -/
abbrev R32 (a : Int) : Prop := -2147483648 ≤ a ∧ a < 2147483648
theorem iz_toInt {a : Int} (h : R32 a) : (iz a).toInt = a := Int32.toInt_ofInt_of_le (by have := h.1; omega) (by have := h.2; omega)
theorem iz_of (x : Int32) : ∃ a : Int, R32 a ∧ x = iz a := ⟨x.toInt, ⟨by have := x.le_toInt; omega, by have := x.toInt_lt; omega⟩, (Int32.ofInt_toInt x).symm⟩
theorem iz_add (a b : Int) : iz a + iz b = iz (a + b) := (Int32.ofInt_add a b).symm
theorem iz_sub (a b : Int) : iz a - iz b = iz (a - b) := (Int32.ofInt_sub a b).symm
theorem iz_mul (a b : Int) : iz a * iz b = iz (a * b) := (Int32.ofInt_mul a b).symm
theorem iz_neg (a : Int) : -iz a = iz (-a) := (Int32.ofInt_neg a).symm
theorem iz_lt {a b : Int} (ha : R32 a) (hb : R32 b) : iz a < iz b ↔ a < b := by rw [Int32.lt_iff_toInt_lt, iz_toInt ha, iz_toInt hb]
theorem iz_le {a b : Int} (ha : R32 a) (hb : R32 b) : iz a ≤ iz b ↔ a ≤ b := by rw [Int32.le_iff_toInt_le, iz_toInt ha, iz_toInt hb]
theorem iz_eq {a b : Int} (ha : R32 a) (hb : R32 b) : iz a = iz b ↔ a = b := by rw [← Int32.toInt_inj, iz_toInt ha, iz_toInt hb]
theorem iz_0 : (0 : Int32) = iz 0 := by decide
theorem iz_eq0 {a : Int} (ha : R32 a) : iz a = 0 ↔ a = 0 := by rw [iz_0]; exact iz_eq ha (by decide)
theorem iz_lt0 {a : Int} (ha : R32 a) : iz a < 0 ↔ a < 0 := by rw [iz_0]; exact iz_lt ha (by decide)
theorem iz_le0 {a : Int} (ha : R32 a) : iz a ≤ 0 ↔ a ≤ 0 := by rw [iz_0]; exact iz_le ha (by decide)
theorem iz_ge0 {a : Int} (ha : R32 a) : 0 ≤ iz a ↔ 0 ≤ a := by rw [iz_0]; exact iz_le (by decide) ha
theorem iz_gt0 {a : Int} (ha : R32 a) : 0 < iz a ↔ 0 < a := by rw [iz_0]; exact iz_lt (by decide) ha
theorem iz_cl {a : Int} (h : 0 ≤ a) (h2 : a < 2147483648) : (iz a).toNatClampNeg = a.toNat := by
  show (iz a).toInt.toNat = _
  rw [iz_toInt ⟨by omega, h2⟩]
theorem iz_div {a b : Int} (ha : R32 a) (hb : R32 b) : iz a / iz b = iz (a.tdiv b) := by
  refine (Int32.ofInt_tdiv ?_ ?_ ?_ ?_).symm
  · exact ha.1
  · exact Int.le_of_lt_add_one ha.2
  · exact hb.1
  · exact Int.le_of_lt_add_one hb.2
theorem vp_in_iz {i : Int} {n : Nat} (h : 0 ≤ i ∧ i < n) (hn : n < 2147483648) : vp_in (iz i) n := by
  rw [vp_in_iff, iz_toInt ⟨by omega, by omega⟩]
  exact h
def u2 {α : Type} (f : Nat → Nat → α) (k j : Nat) (x : α) : Nat → Nat → α := fun a => if a = k then (fun b => if b = j then x else f a b) else f a
theorem u2_ne {α : Type} {f : Nat → Nat → α} {k j a : Nat} {x : α} (h : a ≠ k) : u2 f k j x a = f a := if_neg h
theorem u2_eq {α : Type} {f : Nat → Nat → α} {k j : Nat} {x : α} : u2 f k j x k = fun b => if b = j then x else f k b := if_pos rfl
theorem u2_at {α : Type} {f : Nat → Nat → α} {k j : Nat} {x : α} : u2 f k j x k j = x := by rw [u2_eq]; exact if_pos rfl
theorem u2_nj {α : Type} {f : Nat → Nat → α} {k j a b : Nat} {x : α} (h : b ≠ j) : u2 f k j x a b = f a b := by
  by_cases ha : a = k
  · subst ha; rw [u2_eq]; exact if_neg h
  · rw [u2_ne ha]
/-! the world's cells as the kit's lists -/
theorem q_in {E : QE} {n k : Nat} (h : k < n) : E.1 + k ∈ q_L E n := List.mem_map.mpr ⟨k, List.mem_range.mpr h, rfl⟩
theorem q_Fk {E : QE} {w : QW} {k : Nat} : q_F E w (E.1 + k) = q_c E w k := by unfold q_F; rw [Nat.add_sub_cancel_left]
theorem q_place {E : QE} {w : QW} {k : Nat} (h : k < w.2.2.2.2.1) : ∃ q : Nat, (q_ws E w)[q]? = some (E.1 + k, q_c E w k) := by
  obtain ⟨q, hq⟩ := va_pl_get (X := []) (f := q_F E w) (q_in (E := E) h)
  rw [q_Fk] at hq
  exact ⟨q, hq⟩
theorem q_upd {E : QE} {w w' : QW} {k q : Nat} {e : va_E} (hD : va_D (q_A E) (q_ws E w)) (h : k < w.2.2.2.2.1) (hq : (q_ws E w)[q]? = some (E.1 + k, q_c E w k)) (hn : w'.2.2.2.2.1 = w.2.2.2.2.1)
    (he : q_c E w' k = e) (ho : ∀ j : Nat, j ≠ k → q_c E w' j = q_c E w j) : (q_ws E w).set q (E.1 + k, e) = q_ws E w' := by
  unfold q_ws at hD hq ⊢
  rw [va_pl_set hD (q_in h) (by rw [q_Fk]; exact hq), hn]
  congr 1
  unfold va_pl
  refine List.map_congr_left (fun a ha => ?_)
  obtain ⟨j, -, rfl⟩ := List.mem_map.mp ha
  rw [q_Fk]
  by_cases hj : j = k
  · subst hj
    rw [va_up_self, he]
  · rw [va_up_ne _ _ (by omega), q_Fk, ho j hj]
theorem q_c_row {E : QE} {w w' : QW} {k : Nat} (h1 : w.1 k = w'.1 k) (h2 : w.2.1 k = w'.2.1 k) (h3 : w.2.2.1 k = w'.2.2.1 k) (h4 : w.2.2.2.1 k = w'.2.2.2.1 k) : q_c E w k = q_c E w' k := by
  have hf : ∀ j t, q_f E w k j t = q_f E w' k j t := by
    intro j t
    match t with
    | 0 => show Value.int _ = Value.int _; rw [h2]
    | 1 => show Value.long _ = Value.long _; rw [h3]
    | _ + 2 => show va_rf _ = va_rf _; rw [h4]
  unfold q_c q_fs
  rw [h1, h2, h3, h4]
  simp only [hf]
theorem q_c_obj {E : QE} {w : QW} {k c len : Nat} (hT : w.1 k = (c, len)) (hc : c < 6) : q_c E w k = .inr (c, q_fs E w k c) := by unfold q_c; rw [hT]; exact if_pos hc
theorem q_c_int {E : QE} {w : QW} {k c len : Nat} (hT : w.1 k = (c, len)) (hc : c = 6 ∨ c = 7) : q_c E w k = .inl (E.2.2.1 c, len, .inl (fun j => iz (w.2.1 k j))) := by
  unfold q_c; rw [hT]; rcases hc with rfl | rfl <;> rfl
theorem q_c_ref {E : QE} {w : QW} {k c len : Nat} (hT : w.1 k = (c, len)) (hc : c = 8 ∨ c = 9) : q_c E w k = .inl (E.2.2.1 c, len, .inr (.inr (.inr (.inr (fun j => (w.2.2.2.1 k j).map (E.1 + ·)))))) := by
  unfold q_c; rw [hT]; rcases hc with rfl | rfl <;> rfl
theorem q_c_long {E : QE} {w : QW} {k len : Nat} (hT : w.1 k = (10, len)) : q_c E w k = .inl (E.2.2.1 10, len, .inr (.inl (w.2.2.1 k))) := by
  unfold q_c; rw [hT]; rfl
theorem q_fs_at {E : QE} {w : QW} {k c j : Nat} (h : j < q_ns c) : (q_fs E w k c)[j]? = some (q_f E w k j (q_ft c j)) := by
  unfold q_fs; rw [List.getElem?_map, List.getElem?_range h]; rfl
theorem q_fs_len {E : QE} {w : QW} {k c : Nat} : (q_fs E w k c).length = q_ns c := by unfold q_fs; simp
theorem q_fs_set {E : QE} {w w' : QW} {k c j : Nat} {v : Value} (hv : q_f E w' k j (q_ft c j) = v) (ho : ∀ i, i ≠ j → q_f E w' k i (q_ft c i) = q_f E w k i (q_ft c i)) : q_fs E w' k c = (q_fs E w k c).set j v := by
  apply List.ext_getElem?
  intro i
  rw [List.getElem?_set]
  by_cases hi : i < q_ns c
  · rw [q_fs_at hi, q_fs_len]
    by_cases e : j = i
    · subst e; rw [if_pos rfl, if_pos hi, hv]
    · rw [if_neg e, q_fs_at hi, ho i (fun q => e q.symm)]
  · have h0 : ∀ w0 : QW, (q_fs E w0 k c)[i]? = none := fun w0 => by rw [List.getElem?_eq_none_iff, q_fs_len]; omega
    rw [h0, h0, q_fs_len]
    by_cases e : j = i
    · subst e; rw [if_pos rfl, if_neg hi]
    · rw [if_neg e]
/-! what an instruction on a field links: class c, slot j -/
def q_fl (own : String) (idx c j : Nat) : Prop := ∃ (C : String) (TX : u_T) (N : Nat) (ref : String), c < 6 ∧ vwCl[c]? = some (C, TX, N) ∧ q_ns c = N ∧ (∀ w ∈ u_ws C TX N, w ∈ q_T) ∧ j < N ∧ Cond.fieldLink own idx ref (TX j).2.1 (TX j).2.2.1 ∈ q_T ∧ (TX j).1 = ref
def q_fp (own : String) (idx c j : Nat) (fin : Bool) (ty : FieldType) : Prop := ∃ (C : String) (TX : u_T) (N : Nat) (ref : String) (tys : Nat → FieldType), c < 6 ∧ vwCl[c]? = some (C, TX, N) ∧ q_ns c = N ∧ (∀ w ∈ u_ws C TX N, w ∈ q_T) ∧ j < N ∧ Cond.fieldLink own idx ref (TX j).2.1 (TX j).2.2.1 ∈ q_T ∧ (TX j).1 = ref ∧
  (∀ k, k < N → parseFieldDescriptor (TX k).2.2.1 = some (tys k)) ∧ (∀ a, a < N → ∀ b, b < N → a ≠ b → (TX a).2.1 ≠ (TX b).2.1) ∧ (TX j).2.2.2 = fin ∧ tys j = ty ∧ (fin = true → ref = own)
section Rows
variable {l : Launch} {E : QE} {Y : QY} {kc ks pc pc' : Nat} {L : List (Option Value)} {st : List Value} {T : Nat → Nat × Nat} {I : Nat → Nat → Int} {J : Nat → Nat → Int64} {R : Nat → Nat → Option Nat} {n z : Nat} {w : QW} {K : Option Value → QW → Prop} {Tg : List Frame → Array Value → State → State → Prop}
theorem g_fld {idx c j k len : Nat} (hd : decode Y.2.1 pc = .ok (.getfield idx, 3)) (hp : pc + 3 = pc') (hf : q_fl Y.1.cls idx c j) (hT : T k = (c, len)) (hk : k < n)
    (h : GoT l E Y kc ks pc' L (q_f E (T, I, J, R, n, z) k j (q_ft c j) :: st) (T, I, J, R, n, z) Tg) : GoT l E Y kc ks pc L (.ref (E.1 + k) :: st) (T, I, J, R, n, z) Tg := by
  intro p e s m args below meth c0 H locs ls C hH hS hl
  obtain ⟨hx, hb, hml, hr, ho, hts, hK, hlk, hnm, hbs⟩ := id C
  obtain ⟨Cn, TX, N, ref, hc6, hcl, hN, hin, hj, hlink, href⟩ := hf
  obtain ⟨q, hq⟩ := q_place (E := E) (w := (T, I, J, R, n, z)) hk
  rw [q_c_obj hT hc6] at hq
  subst hp; subst href
  refine va_get (D := E.2.1) (ci := c) (C := Cn) (T := TX) (N := N) hx hb hts hin ho hK.1 hH.1 q hq hcl j hj (hts _ hlink) (fun _ h9 => h9) (q_fs_at (by rw [hN]; exact hj)) hd ?_
  exact h p e s m args below meth c0 H locs ls C hH hS hl
theorem g_put {idx c j k len : Nat} {fin : Bool} {ty : FieldType} {v : Value} {w' : QW} (hd : decode Y.2.1 pc = .ok (.putfield idx, 3)) (hp : pc + 3 = pc') (hf : q_fp Y.1.cls idx c j fin ty) (hT : w.1 k = (c, len)) (hk : k < w.2.2.2.2.1) (hfi : fin = true → Y.1.name = "<init>")
    (hn : narrow ty v = v) (hfit : fits ty v = true) (hw1 : w'.1 = w.1) (hw2 : w'.2.2.2.2 = w.2.2.2.2) (hv : q_f E w' k j (q_ft c j) = v) (ho1 : ∀ i, i ≠ j → q_f E w' k i (q_ft c i) = q_f E w k i (q_ft c i)) (ho2 : ∀ a, a ≠ k → q_c E w' a = q_c E w a)
    (h : GoT l E Y kc ks pc' L st w' Tg) : GoT l E Y kc ks pc L (v :: .ref (E.1 + k) :: st) w Tg := by
  intro p e s m args below meth c0 H locs ls C hH hS hl
  obtain ⟨hx, hb, hml, hr, ho, hts, hK, hlk, hnm, hbs⟩ := id C
  obtain ⟨Cn, TX, N, ref, tys, hc6, hcl, hN, hin, hj, hlink, href, hty, hnmm, hfin, htj, hown⟩ := hf
  obtain ⟨q, hq⟩ := q_place (E := E) (w := w) hk
  have hq0 := hq
  rw [q_c_obj hT hc6] at hq
  subst hp; subst href; subst htj
  have hap := va_apart (own := Y.1.cls) hts hin tys hty hnmm hK.1 hcl
  obtain ⟨r, h1, cell, q1, q2, q3, q4⟩ := hH.1 q _ hq
  have hr' : r = (Cn, TX, N) := Option.some.inj (h1.symm.trans hcl)
  subst hr'
  obtain ⟨hSl, hfc, kC, hkC, hkind⟩ := hK.1.1 c _ hcl
  obtain ⟨cf, kf, fi, f, hi, hsl⟩ := hSl j hj
  have hst := (u_facts hfc hkC (u_lays hts hin hj) hi).1
  have e0 := q_upd (w' := w') hH.2.1 hk hq0 (by rw [hw2]) (e := .inr (c, (q_fs E w k c).set j v)) (by rw [q_c_obj (len := len) (by rw [hw1]; exact hT) hc6, q_fs_set hv ho1]) ho2
  have key : ∀ H' : Heap, H'[E.1 + k]? = some (cell.setSlot f.slot v) → H'.size = H.size → (∀ q, q ≠ E.1 + k → H'[q]? = H[q]?) → W p l e Y.2.2.2.2 s m args below meth c0 H' (locs ++ [⟨E.1 + k, f.slot⟩]) kc ks (Tg below args s) (F0 m (pc + 3) ls st) := by
    intro H' e1 e2 e3
    rw [hsl] at e1 ⊢
    have hP1 := hH.1.set hH.2.1 hq (e := .inr (c, (q_fs E w k c).set j v)) ⟨_, hcl, t_OB.to (V := updV (vp_V (q_fs E w k c)) j v) ⟨_, e1, q2, q3, t_set q4 hap hj v⟩ (fun i _ => vp_updV_set (by rw [q_fs_len, hN]; exact hj) v i)⟩ e3
    have hD1 := hH.2.1.set (e := .inr (c, (q_fs E w k c).set j v)) hq
    rw [e0] at hP1 hD1
    exact h p e s m args below meth c0 H' _ ls C ⟨hP1, hD1, by rw [hw2, e2]; exact hH.2.2⟩ (hS.put e2 e3 (hH.2.1.2 q _ hq)) hl
  cases fin with
  | false =>
    have hlay := hts _ (hin _ (u_in_lay hj))
    unfold u_lay at hlay
    rw [if_neg (by rw [hfin]; decide)] at hlay
    have h6 := u_store hfc hkC hkind hlay hi (hty j hj) hn hfit
    exact W.putK hx hb (f := f) ⟨ho, hts _ hlink, ⟨_, _, _, hi⟩, hst⟩ (by rw [q2]; exact h6) q1 q3 (by rw [hsl]; exact k2_hasslot (q4 j hj)) rfl rfl hd key
  | true =>
    have hlay := hts _ (hin _ (u_in_lay hj))
    unfold u_lay at hlay
    rw [if_pos hfin] at hlay
    have hcf : m.cls = cf := by
      obtain ⟨_, _, c', _, _, _, -, -, hf', -, -, -, hown2, -⟩ := Cond.laysFinal_spec hlay
      have e1 : c' = cf := by have := hi.symm.trans hf'; simp at this; exact this.1.symm
      rw [hown rfl] at hown2
      rw [← e1]; exact Option.some.inj (ho.symm.trans hown2)
    have h6 := u_fits hfc hkC hkind (Or.inr hlay) hi (hty j hj) hn hfit
    exact W.putFinK hx hb ho (hts _ hlink) hi hst hcf (hnm.trans (hfi rfl)) (by rw [q2]; exact h6) q1 q3 (by rw [hsl]; exact k2_hasslot (q4 j hj)) rfl rfl hd key
theorem q_f_I {I' : Nat → Nat → Int} {k j t : Nat} (h : t ≠ 0 ∨ I' k j = I k j) : q_f E (T, I', J, R, n, z) k j t = q_f E (T, I, J, R, n, z) k j t := by
  match t, h with
  | 0, h => show Value.int (iz (I' k j)) = Value.int (iz (I k j)); rcases h with h | h; exact absurd rfl h; rw [h]
  | 1, _ => rfl
  | _ + 2, _ => rfl
theorem q_f_J {J' : Nat → Nat → Int64} {k j t : Nat} (h : t ≠ 1 ∨ J' k j = J k j) : q_f E (T, I, J', R, n, z) k j t = q_f E (T, I, J, R, n, z) k j t := by
  match t, h with
  | 0, _ => rfl
  | 1, h => show Value.long (J' k j) = Value.long (J k j); rcases h with h | h; exact absurd rfl h; rw [h]
  | _ + 2, _ => rfl
theorem q_f_R {R' : Nat → Nat → Option Nat} {k j t : Nat} (h : t < 2 ∨ R' k j = R k j) : q_f E (T, I, J, R', n, z) k j t = q_f E (T, I, J, R, n, z) k j t := by
  match t, h with
  | 0, _ => rfl
  | 1, _ => rfl
  | t + 2, h => show va_rf _ = va_rf _; rcases h with h | h; omega; show va_rf ((R' k j).map (E.1 + ·)) = va_rf ((R k j).map (E.1 + ·)); rw [h]
/-- an int field is read -/
theorem g_getI {idx c j k len : Nat} (hd : decode Y.2.1 pc = .ok (.getfield idx, 3)) (hp : pc + 3 = pc') (hf : q_fl Y.1.cls idx c j) (ht : q_ft c j = 0) (hT : T k = (c, len)) (hk : k < n)
    (h : GoT l E Y kc ks pc' L (.int (iz (I k j)) :: st) (T, I, J, R, n, z) Tg) : GoT l E Y kc ks pc L (.ref (E.1 + k) :: st) (T, I, J, R, n, z) Tg := by
  refine g_fld hd hp hf hT hk ?_
  rw [ht]
  exact h
theorem g_getJ {idx c j k len : Nat} (hd : decode Y.2.1 pc = .ok (.getfield idx, 3)) (hp : pc + 3 = pc') (hf : q_fl Y.1.cls idx c j) (ht : q_ft c j = 1) (hT : T k = (c, len)) (hk : k < n)
    (h : GoT l E Y kc ks pc' L (.long (J k j) :: st) (T, I, J, R, n, z) Tg) : GoT l E Y kc ks pc L (.ref (E.1 + k) :: st) (T, I, J, R, n, z) Tg := by
  refine g_fld hd hp hf hT hk ?_
  rw [ht]
  exact h
theorem g_getR {idx c j k len a : Nat} (hd : decode Y.2.1 pc = .ok (.getfield idx, 3)) (hp : pc + 3 = pc') (hf : q_fl Y.1.cls idx c j) (ht : q_ft c j = 2) (hT : T k = (c, len)) (hk : k < n) (hR : R k j = some a)
    (h : GoT l E Y kc ks pc' L (.ref (E.1 + a) :: st) (T, I, J, R, n, z) Tg) : GoT l E Y kc ks pc L (.ref (E.1 + k) :: st) (T, I, J, R, n, z) Tg := by
  refine g_fld hd hp hf hT hk ?_
  rw [ht]
  show GoT l E Y kc ks pc' L (va_rf ((R k j).map (E.1 + ·)) :: st) _ Tg
  rw [hR]
  exact h
theorem g_putI {idx c j k len : Nat} {x : Int} (hd : decode Y.2.1 pc = .ok (.putfield idx, 3)) (hp : pc + 3 = pc') (hf : q_fp Y.1.cls idx c j false .int) (ht : q_ft c j = 0) (hT : T k = (c, len)) (hk : k < n)
    (h : GoT l E Y kc ks pc' L st (T, u2 I k j x, J, R, n, z) Tg) : GoT l E Y kc ks pc L (.int (iz x) :: .ref (E.1 + k) :: st) (T, I, J, R, n, z) Tg := by
  refine g_put (w' := (T, u2 I k j x, J, R, n, z)) hd hp hf hT hk (fun h => by cases h) rfl rfl rfl rfl (by rw [ht]; show Value.int (iz (u2 I k j x k j)) = _; rw [u2_at]) (fun i hi => q_f_I (Or.inr (u2_nj hi))) (fun a ha => q_c_row rfl (u2_ne ha) rfl rfl) h
theorem g_putZ {idx c j k len : Nat} {x : Int} (hd : decode Y.2.1 pc = .ok (.putfield idx, 3)) (hp : pc + 3 = pc') (hf : q_fp Y.1.cls idx c j false .boolean) (ht : q_ft c j = 0) (hT : T k = (c, len)) (hk : k < n) (hx : x = 0 ∨ x = 1)
    (h : GoT l E Y kc ks pc' L st (T, u2 I k j x, J, R, n, z) Tg) : GoT l E Y kc ks pc L (.int (iz x) :: .ref (E.1 + k) :: st) (T, I, J, R, n, z) Tg := by
  refine g_put (w' := (T, u2 I k j x, J, R, n, z)) hd hp hf hT hk (fun h => by cases h) (by rcases hx with rfl | rfl <;> rfl) (by rcases hx with rfl | rfl <;> rfl) rfl rfl (by rw [ht]; show Value.int (iz (u2 I k j x k j)) = _; rw [u2_at]) (fun i hi => q_f_I (Or.inr (u2_nj hi))) (fun a ha => q_c_row rfl (u2_ne ha) rfl rfl) h
theorem g_putJ {idx c j k len : Nat} {x : Int64} (hd : decode Y.2.1 pc = .ok (.putfield idx, 3)) (hp : pc + 3 = pc') (hf : q_fp Y.1.cls idx c j false .long) (ht : q_ft c j = 1) (hT : T k = (c, len)) (hk : k < n)
    (h : GoT l E Y kc ks pc' L st (T, I, u2 J k j x, R, n, z) Tg) : GoT l E Y kc ks pc L (.long x :: .ref (E.1 + k) :: st) (T, I, J, R, n, z) Tg := by
  refine g_put (w' := (T, I, u2 J k j x, R, n, z)) hd hp hf hT hk (fun h => by cases h) rfl rfl rfl rfl (by rw [ht]; show Value.long (u2 J k j x k j) = _; rw [u2_at]) (fun i hi => q_f_J (Or.inr (u2_nj hi))) (fun a ha => q_c_row rfl rfl (u2_ne ha) rfl) h
theorem g_putR {idx c j k len a : Nat} {ty : FieldType} (hd : decode Y.2.1 pc = .ok (.putfield idx, 3)) (hp : pc + 3 = pc') (hf : q_fp Y.1.cls idx c j true ty) (ht : q_ft c j = 2) (hT : T k = (c, len)) (hk : k < n) (hi : Y.1.name = "<init>") (hty : narrow ty (.ref (E.1 + a)) = .ref (E.1 + a) ∧ fits ty (.ref (E.1 + a)) = true)
    (h : GoT l E Y kc ks pc' L st (T, I, J, u2 R k j (some a), n, z) Tg) : GoT l E Y kc ks pc L (.ref (E.1 + a) :: .ref (E.1 + k) :: st) (T, I, J, R, n, z) Tg := by
  refine g_put (w' := (T, I, J, u2 R k j (some a), n, z)) hd hp hf hT hk (fun _ => hi) hty.1 hty.2 rfl rfl (by rw [ht]; show va_rf ((u2 R k j (some a) k j).map (E.1 + ·)) = _; rw [u2_at]; rfl) (fun i hi => q_f_R (Or.inr (u2_nj hi))) (fun a ha => q_c_row rfl rfl rfl (u2_ne ha)) h
end Rows
end
section
/-! ROWS 2: an instruction, a row (printed by wip/whole/gen/mk04.py) -/
theorem q_l_of : ∀ (L : List (Option Value)) (i j : Nat) (v : Value), (j, v) ∈ q_l i L → i ≤ j ∧ L[j - i]? = some (some v)
  | [], _, _, _, h => by cases h
  | none :: r, i, j, v, h => by
    obtain ⟨h1, h2⟩ := q_l_of r (i + 1) j v h
    refine ⟨by omega, ?_⟩
    rw [show j - i = (j - (i + 1)) + 1 by omega, List.getElem?_cons_succ]
    exact h2
  | some u :: r, i, j, v, h => by
    rcases List.mem_cons.mp h with h | h
    · cases h
      exact ⟨Nat.le_refl _, by rw [Nat.sub_self]; rfl⟩
    · obtain ⟨h1, h2⟩ := q_l_of r (i + 1) j v h
      refine ⟨by omega, ?_⟩
      rw [show j - i = (j - (i + 1)) + 1 by omega, List.getElem?_cons_succ]
      exact h2
theorem q_l_in : ∀ (L : List (Option Value)) (i j : Nat) (v : Value), L[j]? = some (some v) → (i + j, v) ∈ q_l i L
  | [], _, _, _, h => by simp at h
  | none :: r, i, 0, v, h => by simp at h
  | some u :: r, i, 0, v, h => by
    simp at h
    subst h
    exact List.mem_cons_self
  | none :: r, i, j + 1, v, h => by
    rw [List.getElem?_cons_succ] at h
    have := q_l_in r (i + 1) j v h
    rw [show i + (j + 1) = (i + 1) + j by omega]
    exact this
  | some u :: r, i, j + 1, v, h => by
    rw [List.getElem?_cons_succ] at h
    have := q_l_in r (i + 1) j v h
    rw [show i + (j + 1) = (i + 1) + j by omega]
    exact List.mem_cons_of_mem _ this
theorem q_l_at {ls : Array Slot} {nL : Nat} {L : List (Option Value)} {i : Nat} {v : Value} (h : lv_has ls nL (q_l 0 L)) (hL : L[i]? = some (some v)) : ls[i]? = some (.val v) := by
  have := q_l_in L 0 i v hL
  rw [Nat.zero_add] at this
  exact h.2.2 _ this
def okc : Option Value → Bool
  | some (.long _) => false
  | some (.double _) => false
  | _ => true
theorem okc_of {v : Value} (h : okc (some v) = true) : ¬ v.category = 2 := by
  cases v <;> first | (simp [okc] at h; done) | (simp [Value.category])
theorem q_l_set1 {ls : Array Slot} {nL i : Nat} {L : List (Option Value)} {v : Value} (h : lv_has ls nL ((i, v) :: (q_l 0 L).filter (fun q => !(q.1 == i) && !(q.1 + 1 == i && q.2.category == 2)))) (hc : ∀ u, L[i - 1]? = some (some u) → i ≠ 0 → okc (some u) = true) : lv_has ls nL (q_l 0 (L.set i (some v))) := by
  refine ⟨h.1, h.2.1, fun q hq => ?_⟩
  obtain ⟨j, u⟩ := q
  obtain ⟨-, hu⟩ := q_l_of _ _ _ _ hq
  rw [Nat.sub_zero, List.getElem?_set] at hu
  by_cases hj : i = j
  · subst hj
    rw [if_pos rfl] at hu
    split at hu
    · simp at hu; subst hu; exact h.2.2 _ List.mem_cons_self
    · cases hu
  · rw [if_neg hj] at hu
    refine h.2.2 _ (List.mem_cons_of_mem _ (List.mem_filter.mpr ⟨?_, ?_⟩))
    · have := q_l_in L 0 j u hu
      rwa [Nat.zero_add] at this
    · simp only [Bool.and_eq_true, Bool.not_eq_true', beq_eq_false_iff_ne, Bool.and_eq_false_iff]
      refine ⟨fun e => hj e.symm, ?_⟩
      by_cases h1 : j + 1 = i
      · refine Or.inr ?_
        have := okc_of (hc u (by rw [show i - 1 = j by omega]; exact hu) (by omega))
        exact this
      · exact Or.inl h1
theorem q_l_set2 {ls : Array Slot} {nL i : Nat} {L : List (Option Value)} {v : Value} (h : lv_has ls nL ((i, v) :: (q_l 0 L).filter (fun q => !(q.1 == i) && (!(q.1 == i + 1) && !(q.1 + 1 == i && q.2.category == 2))))) (hc : ∀ u, L[i - 1]? = some (some u) → i ≠ 0 → okc (some u) = true) : lv_has ls nL (q_l 0 ((L.set i (some v)).set (i + 1) none)) := by
  refine ⟨h.1, h.2.1, fun q hq => ?_⟩
  obtain ⟨j, u⟩ := q
  obtain ⟨-, hu⟩ := q_l_of _ _ _ _ hq
  rw [Nat.sub_zero, List.getElem?_set] at hu
  by_cases hj1 : i + 1 = j
  · rw [if_pos hj1] at hu
    split at hu <;> cases hu
  rw [if_neg hj1, List.getElem?_set] at hu
  by_cases hj : i = j
  · subst hj
    rw [if_pos rfl] at hu
    split at hu
    · simp at hu; subst hu; exact h.2.2 _ List.mem_cons_self
    · cases hu
  · rw [if_neg hj] at hu
    refine h.2.2 _ (List.mem_cons_of_mem _ (List.mem_filter.mpr ⟨?_, ?_⟩))
    · have := q_l_in L 0 j u hu
      rwa [Nat.zero_add] at this
    · simp only [Bool.and_eq_true, Bool.not_eq_true', beq_eq_false_iff_ne, Bool.and_eq_false_iff]
      refine ⟨fun e => hj e.symm, fun e => hj1 e.symm, ?_⟩
      by_cases h1 : j + 1 = i
      · refine Or.inr ?_
        have := okc_of (hc u (by rw [show i - 1 = j by omega]; exact hu) (by omega))
        exact this
      · exact Or.inl h1
section Rows2
variable {l : Launch} {E : QE} {Y : QY} {kc ks pc pc' : Nat} {L : List (Option Value)} {st : List Value} {w : QW} {K : Option Value → QW → Prop} {Tg : List Frame → Array Value → State → State → Prop}
theorem g_iconst {k : Int} (hd : decode Y.2.1 pc = .ok (.iconst k, 1)) (hp : pc + 1 = pc') (h : GoT l E Y kc ks pc' L (.int (iz k) :: st) w Tg) : GoT l E Y kc ks pc L (st) w Tg := by
  intro p e s m args below meth c H locs ls C hH hS hl
  obtain ⟨hx, hb, hml, hr, ho, hts, hK, hlk, hnm, hbs⟩ := id C
  subst hp
  refine lv_iconst hx hb hd rfl ?_
  exact h p e s m args below meth c H locs ls C hH hS hl
theorem g_bipush {k : Int} (hd : decode Y.2.1 pc = .ok (.bipush k, 2)) (hp : pc + 2 = pc') (hv : (Int8.ofInt k).toInt32 = iz k) (h : GoT l E Y kc ks pc' L (.int (iz k) :: st) w Tg) : GoT l E Y kc ks pc L (st) w Tg := by
  intro p e s m args below meth c H locs ls C hH hS hl
  obtain ⟨hx, hb, hml, hr, ho, hts, hK, hlk, hnm, hbs⟩ := id C
  subst hp
  refine lv_bipush hx hb hd hv ?_
  exact h p e s m args below meth c H locs ls C hH hS hl
theorem g_sipush {k : Int} (hd : decode Y.2.1 pc = .ok (.sipush k, 3)) (hp : pc + 3 = pc') (hv : (Int16.ofInt k).toInt32 = iz k) (h : GoT l E Y kc ks pc' L (.int (iz k) :: st) w Tg) : GoT l E Y kc ks pc L (st) w Tg := by
  intro p e s m args below meth c H locs ls C hH hS hl
  obtain ⟨hx, hb, hml, hr, ho, hts, hK, hlk, hnm, hbs⟩ := id C
  subst hp
  refine lv_sipush hx hb hd hv ?_
  exact h p e s m args below meth c H locs ls C hH hS hl
theorem g_lconst {k : Fin 2} {v : Int64} (hd : decode Y.2.1 pc = .ok (.lconst k, 1)) (hp : pc + 1 = pc') (hv : Int64.ofNat (k : Nat) = v) (h : GoT l E Y kc ks pc' L (.long v :: st) w Tg) : GoT l E Y kc ks pc L (st) w Tg := by
  intro p e s m args below meth c H locs ls C hH hS hl
  obtain ⟨hx, hb, hml, hr, ho, hts, hK, hlk, hnm, hbs⟩ := id C
  subst hp
  refine lv_lconst hx hb hd hv ?_
  exact h p e s m args below meth c H locs ls C hH hS hl
theorem g_dconst0 (hd : decode Y.2.1 pc = .ok (.dconst 0, 1)) (hp : pc + 1 = pc') (h : GoT l E Y kc ks pc' L (.double FP.dconst0 :: st) w Tg) : GoT l E Y kc ks pc L (st) w Tg := by
  intro p e s m args below meth c H locs ls C hH hS hl
  obtain ⟨hx, hb, hml, hr, ho, hts, hK, hlk, hnm, hbs⟩ := id C
  subst hp
  refine lv_dconst0 hx hb hd ?_
  exact h p e s m args below meth c H locs ls C hH hS hl
theorem g_dconst1 (hd : decode Y.2.1 pc = .ok (.dconst 1, 1)) (hp : pc + 1 = pc') (h : GoT l E Y kc ks pc' L (.double FP.dconst1 :: st) w Tg) : GoT l E Y kc ks pc L (st) w Tg := by
  intro p e s m args below meth c H locs ls C hH hS hl
  obtain ⟨hx, hb, hml, hr, ho, hts, hK, hlk, hnm, hbs⟩ := id C
  subst hp
  refine lv_dconst1 hx hb hd ?_
  exact h p e s m args below meth c H locs ls C hH hS hl
theorem g_null (hd : decode Y.2.1 pc = .ok (.aconst_null, 1)) (hp : pc + 1 = pc') (h : GoT l E Y kc ks pc' L (.null :: st) w Tg) : GoT l E Y kc ks pc L (st) w Tg := by
  intro p e s m args below meth c H locs ls C hH hS hl
  obtain ⟨hx, hb, hml, hr, ho, hts, hK, hlk, hnm, hbs⟩ := id C
  subst hp
  refine lv_null hx hb hd ?_
  exact h p e s m args below meth c H locs ls C hH hS hl
theorem g_ldc {i : Nat} {k : Int} (hd : decode Y.2.1 pc = .ok (.ldc i, 2)) (hp : pc + 2 = pc') (hw : Cond.constant Y.1.cls i (iz k) ∈ q_T) (h : GoT l E Y kc ks pc' L (.int (iz k) :: st) w Tg) : GoT l E Y kc ks pc L (st) w Tg := by
  intro p e s m args below meth c H locs ls C hH hS hl
  obtain ⟨hx, hb, hml, hr, ho, hts, hK, hlk, hnm, hbs⟩ := id C
  subst hp
  refine lv_ldc hx hb ho (hts _ hw) hd ?_
  exact h p e s m args below meth c H locs ls C hH hS hl
theorem g_ldc2l {i : Nat} {v : Int64} (hd : decode Y.2.1 pc = .ok (.ldc2_w i, 3)) (hp : pc + 3 = pc') (hw : Cond.constantLong Y.1.cls i v ∈ q_T) (h : GoT l E Y kc ks pc' L (.long v :: st) w Tg) : GoT l E Y kc ks pc L (st) w Tg := by
  intro p e s m args below meth c H locs ls C hH hS hl
  obtain ⟨hx, hb, hml, hr, ho, hts, hK, hlk, hnm, hbs⟩ := id C
  subst hp
  refine lv_ldc2 hx hb ho (hts _ hw) hd ?_
  exact h p e s m args below meth c H locs ls C hH hS hl
theorem g_ldc2d {i : Nat} {v : UInt64} (hd : decode Y.2.1 pc = .ok (.ldc2_w i, 3)) (hp : pc + 3 = pc') (hw : Cond.constantDouble Y.1.cls i v ∈ q_T) (h : GoT l E Y kc ks pc' L (.double v :: st) w Tg) : GoT l E Y kc ks pc L (st) w Tg := by
  intro p e s m args below meth c H locs ls C hH hS hl
  obtain ⟨hx, hb, hml, hr, ho, hts, hK, hlk, hnm, hbs⟩ := id C
  subst hp
  refine lv_ldc2d hx hb ho (hts _ hw) hd ?_
  exact h p e s m args below meth c H locs ls C hH hS hl
theorem g_iloadN {a : Int} {i : Fin 4} (hd : decode Y.2.1 pc = .ok (.iload_n i, 1)) (hp : pc + 1 = pc') (hL : L[(i : Nat)]? = some (some (.int (iz a)))) (h : GoT l E Y kc ks pc' L (.int (iz a) :: st) w Tg) : GoT l E Y kc ks pc L (st) w Tg := by
  intro p e s m args below meth c H locs ls C hH hS hl
  obtain ⟨hx, hb, hml, hr, ho, hts, hK, hlk, hnm, hbs⟩ := id C
  subst hp
  refine lv_iload_n hx hb hd rfl (q_l_at hl hL) ?_
  exact h p e s m args below meth c H locs ls C hH hS hl
theorem g_iloadX {a : Int} {i : Nat} (hd : decode Y.2.1 pc = .ok (.iload i, 2)) (hp : pc + 2 = pc') (hL : L[i]? = some (some (.int (iz a)))) (h : GoT l E Y kc ks pc' L (.int (iz a) :: st) w Tg) : GoT l E Y kc ks pc L (st) w Tg := by
  intro p e s m args below meth c H locs ls C hH hS hl
  obtain ⟨hx, hb, hml, hr, ho, hts, hK, hlk, hnm, hbs⟩ := id C
  subst hp
  refine lv_iload hx hb hd (q_l_at hl hL) ?_
  exact h p e s m args below meth c H locs ls C hH hS hl
theorem g_aloadN {a : Nat} {i : Fin 4} (hd : decode Y.2.1 pc = .ok (.aload_n i, 1)) (hp : pc + 1 = pc') (hL : L[(i : Nat)]? = some (some (.ref a))) (h : GoT l E Y kc ks pc' L (.ref a :: st) w Tg) : GoT l E Y kc ks pc L (st) w Tg := by
  intro p e s m args below meth c H locs ls C hH hS hl
  obtain ⟨hx, hb, hml, hr, ho, hts, hK, hlk, hnm, hbs⟩ := id C
  subst hp
  refine lv_aload_n hx hb hd rfl (q_l_at hl hL) ?_
  exact h p e s m args below meth c H locs ls C hH hS hl
theorem g_aloadX {a : Nat} {i : Nat} (hd : decode Y.2.1 pc = .ok (.aload i, 2)) (hp : pc + 2 = pc') (hL : L[i]? = some (some (.ref a))) (h : GoT l E Y kc ks pc' L (.ref a :: st) w Tg) : GoT l E Y kc ks pc L (st) w Tg := by
  intro p e s m args below meth c H locs ls C hH hS hl
  obtain ⟨hx, hb, hml, hr, ho, hts, hK, hlk, hnm, hbs⟩ := id C
  subst hp
  refine lv_aload hx hb hd (q_l_at hl hL) ?_
  exact h p e s m args below meth c H locs ls C hH hS hl
theorem g_lloadN {a : Int64} {i : Fin 4} (hd : decode Y.2.1 pc = .ok (.lload_n i, 1)) (hp : pc + 1 = pc') (hL : L[(i : Nat)]? = some (some (.long a))) (h : GoT l E Y kc ks pc' L (.long a :: st) w Tg) : GoT l E Y kc ks pc L (st) w Tg := by
  intro p e s m args below meth c H locs ls C hH hS hl
  obtain ⟨hx, hb, hml, hr, ho, hts, hK, hlk, hnm, hbs⟩ := id C
  subst hp
  refine lv_lload_n hx hb hd rfl (q_l_at hl hL) ?_
  exact h p e s m args below meth c H locs ls C hH hS hl
theorem g_lloadX {a : Int64} {i : Nat} (hd : decode Y.2.1 pc = .ok (.lload i, 2)) (hp : pc + 2 = pc') (hL : L[i]? = some (some (.long a))) (h : GoT l E Y kc ks pc' L (.long a :: st) w Tg) : GoT l E Y kc ks pc L (st) w Tg := by
  intro p e s m args below meth c H locs ls C hH hS hl
  obtain ⟨hx, hb, hml, hr, ho, hts, hK, hlk, hnm, hbs⟩ := id C
  subst hp
  refine lv_lload hx hb hd (q_l_at hl hL) ?_
  exact h p e s m args below meth c H locs ls C hH hS hl
theorem g_dloadN {a : UInt64} {i : Fin 4} (hd : decode Y.2.1 pc = .ok (.dload_n i, 1)) (hp : pc + 1 = pc') (hL : L[(i : Nat)]? = some (some (.double a))) (h : GoT l E Y kc ks pc' L (.double a :: st) w Tg) : GoT l E Y kc ks pc L (st) w Tg := by
  intro p e s m args below meth c H locs ls C hH hS hl
  obtain ⟨hx, hb, hml, hr, ho, hts, hK, hlk, hnm, hbs⟩ := id C
  subst hp
  refine lv_dload_n hx hb hd rfl (q_l_at hl hL) ?_
  exact h p e s m args below meth c H locs ls C hH hS hl
theorem g_dloadX {a : UInt64} {i : Nat} (hd : decode Y.2.1 pc = .ok (.dload i, 2)) (hp : pc + 2 = pc') (hL : L[i]? = some (some (.double a))) (h : GoT l E Y kc ks pc' L (.double a :: st) w Tg) : GoT l E Y kc ks pc L (st) w Tg := by
  intro p e s m args below meth c H locs ls C hH hS hl
  obtain ⟨hx, hb, hml, hr, ho, hts, hK, hlk, hnm, hbs⟩ := id C
  subst hp
  refine lv_dload hx hb hd (q_l_at hl hL) ?_
  exact h p e s m args below meth c H locs ls C hH hS hl
theorem g_iload0 {a : Int} {rl : List (Option Value)} (hd : decode Y.2.1 pc = .ok (.iload_n 0, 1)) (hp : pc + 1 = pc') (h : GoT l E Y kc ks pc' (some (.int (iz a)) :: rl) (.int (iz a) :: st) w Tg) : GoT l E Y kc ks pc (some (.int (iz a)) :: rl) st w Tg := g_iloadN (i := 0) hd hp rfl h
theorem g_iload1 {a : Int} {x0 : Option Value} {rl : List (Option Value)} (hd : decode Y.2.1 pc = .ok (.iload_n 1, 1)) (hp : pc + 1 = pc') (h : GoT l E Y kc ks pc' (x0 :: some (.int (iz a)) :: rl) (.int (iz a) :: st) w Tg) : GoT l E Y kc ks pc (x0 :: some (.int (iz a)) :: rl) st w Tg := g_iloadN (i := 1) hd hp rfl h
theorem g_iload2 {a : Int} {x0 x1 : Option Value} {rl : List (Option Value)} (hd : decode Y.2.1 pc = .ok (.iload_n 2, 1)) (hp : pc + 1 = pc') (h : GoT l E Y kc ks pc' (x0 :: x1 :: some (.int (iz a)) :: rl) (.int (iz a) :: st) w Tg) : GoT l E Y kc ks pc (x0 :: x1 :: some (.int (iz a)) :: rl) st w Tg := g_iloadN (i := 2) hd hp rfl h
theorem g_iload3 {a : Int} {x0 x1 x2 : Option Value} {rl : List (Option Value)} (hd : decode Y.2.1 pc = .ok (.iload_n 3, 1)) (hp : pc + 1 = pc') (h : GoT l E Y kc ks pc' (x0 :: x1 :: x2 :: some (.int (iz a)) :: rl) (.int (iz a) :: st) w Tg) : GoT l E Y kc ks pc (x0 :: x1 :: x2 :: some (.int (iz a)) :: rl) st w Tg := g_iloadN (i := 3) hd hp rfl h
theorem g_iload4 {a : Int} {x0 x1 x2 x3 : Option Value} {rl : List (Option Value)} (hd : decode Y.2.1 pc = .ok (.iload 4, 2)) (hp : pc + 2 = pc') (h : GoT l E Y kc ks pc' (x0 :: x1 :: x2 :: x3 :: some (.int (iz a)) :: rl) (.int (iz a) :: st) w Tg) : GoT l E Y kc ks pc (x0 :: x1 :: x2 :: x3 :: some (.int (iz a)) :: rl) st w Tg := g_iloadX (i := 4) hd hp rfl h
theorem g_iload5 {a : Int} {x0 x1 x2 x3 x4 : Option Value} {rl : List (Option Value)} (hd : decode Y.2.1 pc = .ok (.iload 5, 2)) (hp : pc + 2 = pc') (h : GoT l E Y kc ks pc' (x0 :: x1 :: x2 :: x3 :: x4 :: some (.int (iz a)) :: rl) (.int (iz a) :: st) w Tg) : GoT l E Y kc ks pc (x0 :: x1 :: x2 :: x3 :: x4 :: some (.int (iz a)) :: rl) st w Tg := g_iloadX (i := 5) hd hp rfl h
theorem g_iload6 {a : Int} {x0 x1 x2 x3 x4 x5 : Option Value} {rl : List (Option Value)} (hd : decode Y.2.1 pc = .ok (.iload 6, 2)) (hp : pc + 2 = pc') (h : GoT l E Y kc ks pc' (x0 :: x1 :: x2 :: x3 :: x4 :: x5 :: some (.int (iz a)) :: rl) (.int (iz a) :: st) w Tg) : GoT l E Y kc ks pc (x0 :: x1 :: x2 :: x3 :: x4 :: x5 :: some (.int (iz a)) :: rl) st w Tg := g_iloadX (i := 6) hd hp rfl h
theorem g_iload7 {a : Int} {x0 x1 x2 x3 x4 x5 x6 : Option Value} {rl : List (Option Value)} (hd : decode Y.2.1 pc = .ok (.iload 7, 2)) (hp : pc + 2 = pc') (h : GoT l E Y kc ks pc' (x0 :: x1 :: x2 :: x3 :: x4 :: x5 :: x6 :: some (.int (iz a)) :: rl) (.int (iz a) :: st) w Tg) : GoT l E Y kc ks pc (x0 :: x1 :: x2 :: x3 :: x4 :: x5 :: x6 :: some (.int (iz a)) :: rl) st w Tg := g_iloadX (i := 7) hd hp rfl h
theorem g_iload8 {a : Int} {x0 x1 x2 x3 x4 x5 x6 x7 : Option Value} {rl : List (Option Value)} (hd : decode Y.2.1 pc = .ok (.iload 8, 2)) (hp : pc + 2 = pc') (h : GoT l E Y kc ks pc' (x0 :: x1 :: x2 :: x3 :: x4 :: x5 :: x6 :: x7 :: some (.int (iz a)) :: rl) (.int (iz a) :: st) w Tg) : GoT l E Y kc ks pc (x0 :: x1 :: x2 :: x3 :: x4 :: x5 :: x6 :: x7 :: some (.int (iz a)) :: rl) st w Tg := g_iloadX (i := 8) hd hp rfl h
theorem g_iload9 {a : Int} {x0 x1 x2 x3 x4 x5 x6 x7 x8 : Option Value} {rl : List (Option Value)} (hd : decode Y.2.1 pc = .ok (.iload 9, 2)) (hp : pc + 2 = pc') (h : GoT l E Y kc ks pc' (x0 :: x1 :: x2 :: x3 :: x4 :: x5 :: x6 :: x7 :: x8 :: some (.int (iz a)) :: rl) (.int (iz a) :: st) w Tg) : GoT l E Y kc ks pc (x0 :: x1 :: x2 :: x3 :: x4 :: x5 :: x6 :: x7 :: x8 :: some (.int (iz a)) :: rl) st w Tg := g_iloadX (i := 9) hd hp rfl h
theorem g_iload10 {a : Int} {x0 x1 x2 x3 x4 x5 x6 x7 x8 x9 : Option Value} {rl : List (Option Value)} (hd : decode Y.2.1 pc = .ok (.iload 10, 2)) (hp : pc + 2 = pc') (h : GoT l E Y kc ks pc' (x0 :: x1 :: x2 :: x3 :: x4 :: x5 :: x6 :: x7 :: x8 :: x9 :: some (.int (iz a)) :: rl) (.int (iz a) :: st) w Tg) : GoT l E Y kc ks pc (x0 :: x1 :: x2 :: x3 :: x4 :: x5 :: x6 :: x7 :: x8 :: x9 :: some (.int (iz a)) :: rl) st w Tg := g_iloadX (i := 10) hd hp rfl h
theorem g_iload11 {a : Int} {x0 x1 x2 x3 x4 x5 x6 x7 x8 x9 x10 : Option Value} {rl : List (Option Value)} (hd : decode Y.2.1 pc = .ok (.iload 11, 2)) (hp : pc + 2 = pc') (h : GoT l E Y kc ks pc' (x0 :: x1 :: x2 :: x3 :: x4 :: x5 :: x6 :: x7 :: x8 :: x9 :: x10 :: some (.int (iz a)) :: rl) (.int (iz a) :: st) w Tg) : GoT l E Y kc ks pc (x0 :: x1 :: x2 :: x3 :: x4 :: x5 :: x6 :: x7 :: x8 :: x9 :: x10 :: some (.int (iz a)) :: rl) st w Tg := g_iloadX (i := 11) hd hp rfl h
theorem g_iload12 {a : Int} {x0 x1 x2 x3 x4 x5 x6 x7 x8 x9 x10 x11 : Option Value} {rl : List (Option Value)} (hd : decode Y.2.1 pc = .ok (.iload 12, 2)) (hp : pc + 2 = pc') (h : GoT l E Y kc ks pc' (x0 :: x1 :: x2 :: x3 :: x4 :: x5 :: x6 :: x7 :: x8 :: x9 :: x10 :: x11 :: some (.int (iz a)) :: rl) (.int (iz a) :: st) w Tg) : GoT l E Y kc ks pc (x0 :: x1 :: x2 :: x3 :: x4 :: x5 :: x6 :: x7 :: x8 :: x9 :: x10 :: x11 :: some (.int (iz a)) :: rl) st w Tg := g_iloadX (i := 12) hd hp rfl h
theorem g_iload13 {a : Int} {x0 x1 x2 x3 x4 x5 x6 x7 x8 x9 x10 x11 x12 : Option Value} {rl : List (Option Value)} (hd : decode Y.2.1 pc = .ok (.iload 13, 2)) (hp : pc + 2 = pc') (h : GoT l E Y kc ks pc' (x0 :: x1 :: x2 :: x3 :: x4 :: x5 :: x6 :: x7 :: x8 :: x9 :: x10 :: x11 :: x12 :: some (.int (iz a)) :: rl) (.int (iz a) :: st) w Tg) : GoT l E Y kc ks pc (x0 :: x1 :: x2 :: x3 :: x4 :: x5 :: x6 :: x7 :: x8 :: x9 :: x10 :: x11 :: x12 :: some (.int (iz a)) :: rl) st w Tg := g_iloadX (i := 13) hd hp rfl h
theorem g_aload0 {a : Nat} {rl : List (Option Value)} (hd : decode Y.2.1 pc = .ok (.aload_n 0, 1)) (hp : pc + 1 = pc') (h : GoT l E Y kc ks pc' (some (.ref a) :: rl) (.ref a :: st) w Tg) : GoT l E Y kc ks pc (some (.ref a) :: rl) st w Tg := g_aloadN (i := 0) hd hp rfl h
theorem g_aload1 {a : Nat} {x0 : Option Value} {rl : List (Option Value)} (hd : decode Y.2.1 pc = .ok (.aload_n 1, 1)) (hp : pc + 1 = pc') (h : GoT l E Y kc ks pc' (x0 :: some (.ref a) :: rl) (.ref a :: st) w Tg) : GoT l E Y kc ks pc (x0 :: some (.ref a) :: rl) st w Tg := g_aloadN (i := 1) hd hp rfl h
theorem g_aload2 {a : Nat} {x0 x1 : Option Value} {rl : List (Option Value)} (hd : decode Y.2.1 pc = .ok (.aload_n 2, 1)) (hp : pc + 1 = pc') (h : GoT l E Y kc ks pc' (x0 :: x1 :: some (.ref a) :: rl) (.ref a :: st) w Tg) : GoT l E Y kc ks pc (x0 :: x1 :: some (.ref a) :: rl) st w Tg := g_aloadN (i := 2) hd hp rfl h
theorem g_aload3 {a : Nat} {x0 x1 x2 : Option Value} {rl : List (Option Value)} (hd : decode Y.2.1 pc = .ok (.aload_n 3, 1)) (hp : pc + 1 = pc') (h : GoT l E Y kc ks pc' (x0 :: x1 :: x2 :: some (.ref a) :: rl) (.ref a :: st) w Tg) : GoT l E Y kc ks pc (x0 :: x1 :: x2 :: some (.ref a) :: rl) st w Tg := g_aloadN (i := 3) hd hp rfl h
theorem g_aload4 {a : Nat} {x0 x1 x2 x3 : Option Value} {rl : List (Option Value)} (hd : decode Y.2.1 pc = .ok (.aload 4, 2)) (hp : pc + 2 = pc') (h : GoT l E Y kc ks pc' (x0 :: x1 :: x2 :: x3 :: some (.ref a) :: rl) (.ref a :: st) w Tg) : GoT l E Y kc ks pc (x0 :: x1 :: x2 :: x3 :: some (.ref a) :: rl) st w Tg := g_aloadX (i := 4) hd hp rfl h
theorem g_aload5 {a : Nat} {x0 x1 x2 x3 x4 : Option Value} {rl : List (Option Value)} (hd : decode Y.2.1 pc = .ok (.aload 5, 2)) (hp : pc + 2 = pc') (h : GoT l E Y kc ks pc' (x0 :: x1 :: x2 :: x3 :: x4 :: some (.ref a) :: rl) (.ref a :: st) w Tg) : GoT l E Y kc ks pc (x0 :: x1 :: x2 :: x3 :: x4 :: some (.ref a) :: rl) st w Tg := g_aloadX (i := 5) hd hp rfl h
theorem g_aload6 {a : Nat} {x0 x1 x2 x3 x4 x5 : Option Value} {rl : List (Option Value)} (hd : decode Y.2.1 pc = .ok (.aload 6, 2)) (hp : pc + 2 = pc') (h : GoT l E Y kc ks pc' (x0 :: x1 :: x2 :: x3 :: x4 :: x5 :: some (.ref a) :: rl) (.ref a :: st) w Tg) : GoT l E Y kc ks pc (x0 :: x1 :: x2 :: x3 :: x4 :: x5 :: some (.ref a) :: rl) st w Tg := g_aloadX (i := 6) hd hp rfl h
theorem g_aload7 {a : Nat} {x0 x1 x2 x3 x4 x5 x6 : Option Value} {rl : List (Option Value)} (hd : decode Y.2.1 pc = .ok (.aload 7, 2)) (hp : pc + 2 = pc') (h : GoT l E Y kc ks pc' (x0 :: x1 :: x2 :: x3 :: x4 :: x5 :: x6 :: some (.ref a) :: rl) (.ref a :: st) w Tg) : GoT l E Y kc ks pc (x0 :: x1 :: x2 :: x3 :: x4 :: x5 :: x6 :: some (.ref a) :: rl) st w Tg := g_aloadX (i := 7) hd hp rfl h
theorem g_aload8 {a : Nat} {x0 x1 x2 x3 x4 x5 x6 x7 : Option Value} {rl : List (Option Value)} (hd : decode Y.2.1 pc = .ok (.aload 8, 2)) (hp : pc + 2 = pc') (h : GoT l E Y kc ks pc' (x0 :: x1 :: x2 :: x3 :: x4 :: x5 :: x6 :: x7 :: some (.ref a) :: rl) (.ref a :: st) w Tg) : GoT l E Y kc ks pc (x0 :: x1 :: x2 :: x3 :: x4 :: x5 :: x6 :: x7 :: some (.ref a) :: rl) st w Tg := g_aloadX (i := 8) hd hp rfl h
theorem g_aload9 {a : Nat} {x0 x1 x2 x3 x4 x5 x6 x7 x8 : Option Value} {rl : List (Option Value)} (hd : decode Y.2.1 pc = .ok (.aload 9, 2)) (hp : pc + 2 = pc') (h : GoT l E Y kc ks pc' (x0 :: x1 :: x2 :: x3 :: x4 :: x5 :: x6 :: x7 :: x8 :: some (.ref a) :: rl) (.ref a :: st) w Tg) : GoT l E Y kc ks pc (x0 :: x1 :: x2 :: x3 :: x4 :: x5 :: x6 :: x7 :: x8 :: some (.ref a) :: rl) st w Tg := g_aloadX (i := 9) hd hp rfl h
theorem g_aload10 {a : Nat} {x0 x1 x2 x3 x4 x5 x6 x7 x8 x9 : Option Value} {rl : List (Option Value)} (hd : decode Y.2.1 pc = .ok (.aload 10, 2)) (hp : pc + 2 = pc') (h : GoT l E Y kc ks pc' (x0 :: x1 :: x2 :: x3 :: x4 :: x5 :: x6 :: x7 :: x8 :: x9 :: some (.ref a) :: rl) (.ref a :: st) w Tg) : GoT l E Y kc ks pc (x0 :: x1 :: x2 :: x3 :: x4 :: x5 :: x6 :: x7 :: x8 :: x9 :: some (.ref a) :: rl) st w Tg := g_aloadX (i := 10) hd hp rfl h
theorem g_aload11 {a : Nat} {x0 x1 x2 x3 x4 x5 x6 x7 x8 x9 x10 : Option Value} {rl : List (Option Value)} (hd : decode Y.2.1 pc = .ok (.aload 11, 2)) (hp : pc + 2 = pc') (h : GoT l E Y kc ks pc' (x0 :: x1 :: x2 :: x3 :: x4 :: x5 :: x6 :: x7 :: x8 :: x9 :: x10 :: some (.ref a) :: rl) (.ref a :: st) w Tg) : GoT l E Y kc ks pc (x0 :: x1 :: x2 :: x3 :: x4 :: x5 :: x6 :: x7 :: x8 :: x9 :: x10 :: some (.ref a) :: rl) st w Tg := g_aloadX (i := 11) hd hp rfl h
theorem g_aload12 {a : Nat} {x0 x1 x2 x3 x4 x5 x6 x7 x8 x9 x10 x11 : Option Value} {rl : List (Option Value)} (hd : decode Y.2.1 pc = .ok (.aload 12, 2)) (hp : pc + 2 = pc') (h : GoT l E Y kc ks pc' (x0 :: x1 :: x2 :: x3 :: x4 :: x5 :: x6 :: x7 :: x8 :: x9 :: x10 :: x11 :: some (.ref a) :: rl) (.ref a :: st) w Tg) : GoT l E Y kc ks pc (x0 :: x1 :: x2 :: x3 :: x4 :: x5 :: x6 :: x7 :: x8 :: x9 :: x10 :: x11 :: some (.ref a) :: rl) st w Tg := g_aloadX (i := 12) hd hp rfl h
theorem g_aload13 {a : Nat} {x0 x1 x2 x3 x4 x5 x6 x7 x8 x9 x10 x11 x12 : Option Value} {rl : List (Option Value)} (hd : decode Y.2.1 pc = .ok (.aload 13, 2)) (hp : pc + 2 = pc') (h : GoT l E Y kc ks pc' (x0 :: x1 :: x2 :: x3 :: x4 :: x5 :: x6 :: x7 :: x8 :: x9 :: x10 :: x11 :: x12 :: some (.ref a) :: rl) (.ref a :: st) w Tg) : GoT l E Y kc ks pc (x0 :: x1 :: x2 :: x3 :: x4 :: x5 :: x6 :: x7 :: x8 :: x9 :: x10 :: x11 :: x12 :: some (.ref a) :: rl) st w Tg := g_aloadX (i := 13) hd hp rfl h
theorem g_lload0 {a : Int64} {rl : List (Option Value)} (hd : decode Y.2.1 pc = .ok (.lload_n 0, 1)) (hp : pc + 1 = pc') (h : GoT l E Y kc ks pc' (some (.long a) :: rl) (.long a :: st) w Tg) : GoT l E Y kc ks pc (some (.long a) :: rl) st w Tg := g_lloadN (i := 0) hd hp rfl h
theorem g_lload1 {a : Int64} {x0 : Option Value} {rl : List (Option Value)} (hd : decode Y.2.1 pc = .ok (.lload_n 1, 1)) (hp : pc + 1 = pc') (h : GoT l E Y kc ks pc' (x0 :: some (.long a) :: rl) (.long a :: st) w Tg) : GoT l E Y kc ks pc (x0 :: some (.long a) :: rl) st w Tg := g_lloadN (i := 1) hd hp rfl h
theorem g_lload2 {a : Int64} {x0 x1 : Option Value} {rl : List (Option Value)} (hd : decode Y.2.1 pc = .ok (.lload_n 2, 1)) (hp : pc + 1 = pc') (h : GoT l E Y kc ks pc' (x0 :: x1 :: some (.long a) :: rl) (.long a :: st) w Tg) : GoT l E Y kc ks pc (x0 :: x1 :: some (.long a) :: rl) st w Tg := g_lloadN (i := 2) hd hp rfl h
theorem g_lload3 {a : Int64} {x0 x1 x2 : Option Value} {rl : List (Option Value)} (hd : decode Y.2.1 pc = .ok (.lload_n 3, 1)) (hp : pc + 1 = pc') (h : GoT l E Y kc ks pc' (x0 :: x1 :: x2 :: some (.long a) :: rl) (.long a :: st) w Tg) : GoT l E Y kc ks pc (x0 :: x1 :: x2 :: some (.long a) :: rl) st w Tg := g_lloadN (i := 3) hd hp rfl h
theorem g_lload4 {a : Int64} {x0 x1 x2 x3 : Option Value} {rl : List (Option Value)} (hd : decode Y.2.1 pc = .ok (.lload 4, 2)) (hp : pc + 2 = pc') (h : GoT l E Y kc ks pc' (x0 :: x1 :: x2 :: x3 :: some (.long a) :: rl) (.long a :: st) w Tg) : GoT l E Y kc ks pc (x0 :: x1 :: x2 :: x3 :: some (.long a) :: rl) st w Tg := g_lloadX (i := 4) hd hp rfl h
theorem g_lload5 {a : Int64} {x0 x1 x2 x3 x4 : Option Value} {rl : List (Option Value)} (hd : decode Y.2.1 pc = .ok (.lload 5, 2)) (hp : pc + 2 = pc') (h : GoT l E Y kc ks pc' (x0 :: x1 :: x2 :: x3 :: x4 :: some (.long a) :: rl) (.long a :: st) w Tg) : GoT l E Y kc ks pc (x0 :: x1 :: x2 :: x3 :: x4 :: some (.long a) :: rl) st w Tg := g_lloadX (i := 5) hd hp rfl h
theorem g_lload6 {a : Int64} {x0 x1 x2 x3 x4 x5 : Option Value} {rl : List (Option Value)} (hd : decode Y.2.1 pc = .ok (.lload 6, 2)) (hp : pc + 2 = pc') (h : GoT l E Y kc ks pc' (x0 :: x1 :: x2 :: x3 :: x4 :: x5 :: some (.long a) :: rl) (.long a :: st) w Tg) : GoT l E Y kc ks pc (x0 :: x1 :: x2 :: x3 :: x4 :: x5 :: some (.long a) :: rl) st w Tg := g_lloadX (i := 6) hd hp rfl h
theorem g_lload7 {a : Int64} {x0 x1 x2 x3 x4 x5 x6 : Option Value} {rl : List (Option Value)} (hd : decode Y.2.1 pc = .ok (.lload 7, 2)) (hp : pc + 2 = pc') (h : GoT l E Y kc ks pc' (x0 :: x1 :: x2 :: x3 :: x4 :: x5 :: x6 :: some (.long a) :: rl) (.long a :: st) w Tg) : GoT l E Y kc ks pc (x0 :: x1 :: x2 :: x3 :: x4 :: x5 :: x6 :: some (.long a) :: rl) st w Tg := g_lloadX (i := 7) hd hp rfl h
theorem g_lload8 {a : Int64} {x0 x1 x2 x3 x4 x5 x6 x7 : Option Value} {rl : List (Option Value)} (hd : decode Y.2.1 pc = .ok (.lload 8, 2)) (hp : pc + 2 = pc') (h : GoT l E Y kc ks pc' (x0 :: x1 :: x2 :: x3 :: x4 :: x5 :: x6 :: x7 :: some (.long a) :: rl) (.long a :: st) w Tg) : GoT l E Y kc ks pc (x0 :: x1 :: x2 :: x3 :: x4 :: x5 :: x6 :: x7 :: some (.long a) :: rl) st w Tg := g_lloadX (i := 8) hd hp rfl h
theorem g_lload9 {a : Int64} {x0 x1 x2 x3 x4 x5 x6 x7 x8 : Option Value} {rl : List (Option Value)} (hd : decode Y.2.1 pc = .ok (.lload 9, 2)) (hp : pc + 2 = pc') (h : GoT l E Y kc ks pc' (x0 :: x1 :: x2 :: x3 :: x4 :: x5 :: x6 :: x7 :: x8 :: some (.long a) :: rl) (.long a :: st) w Tg) : GoT l E Y kc ks pc (x0 :: x1 :: x2 :: x3 :: x4 :: x5 :: x6 :: x7 :: x8 :: some (.long a) :: rl) st w Tg := g_lloadX (i := 9) hd hp rfl h
theorem g_lload10 {a : Int64} {x0 x1 x2 x3 x4 x5 x6 x7 x8 x9 : Option Value} {rl : List (Option Value)} (hd : decode Y.2.1 pc = .ok (.lload 10, 2)) (hp : pc + 2 = pc') (h : GoT l E Y kc ks pc' (x0 :: x1 :: x2 :: x3 :: x4 :: x5 :: x6 :: x7 :: x8 :: x9 :: some (.long a) :: rl) (.long a :: st) w Tg) : GoT l E Y kc ks pc (x0 :: x1 :: x2 :: x3 :: x4 :: x5 :: x6 :: x7 :: x8 :: x9 :: some (.long a) :: rl) st w Tg := g_lloadX (i := 10) hd hp rfl h
theorem g_lload11 {a : Int64} {x0 x1 x2 x3 x4 x5 x6 x7 x8 x9 x10 : Option Value} {rl : List (Option Value)} (hd : decode Y.2.1 pc = .ok (.lload 11, 2)) (hp : pc + 2 = pc') (h : GoT l E Y kc ks pc' (x0 :: x1 :: x2 :: x3 :: x4 :: x5 :: x6 :: x7 :: x8 :: x9 :: x10 :: some (.long a) :: rl) (.long a :: st) w Tg) : GoT l E Y kc ks pc (x0 :: x1 :: x2 :: x3 :: x4 :: x5 :: x6 :: x7 :: x8 :: x9 :: x10 :: some (.long a) :: rl) st w Tg := g_lloadX (i := 11) hd hp rfl h
theorem g_lload12 {a : Int64} {x0 x1 x2 x3 x4 x5 x6 x7 x8 x9 x10 x11 : Option Value} {rl : List (Option Value)} (hd : decode Y.2.1 pc = .ok (.lload 12, 2)) (hp : pc + 2 = pc') (h : GoT l E Y kc ks pc' (x0 :: x1 :: x2 :: x3 :: x4 :: x5 :: x6 :: x7 :: x8 :: x9 :: x10 :: x11 :: some (.long a) :: rl) (.long a :: st) w Tg) : GoT l E Y kc ks pc (x0 :: x1 :: x2 :: x3 :: x4 :: x5 :: x6 :: x7 :: x8 :: x9 :: x10 :: x11 :: some (.long a) :: rl) st w Tg := g_lloadX (i := 12) hd hp rfl h
theorem g_lload13 {a : Int64} {x0 x1 x2 x3 x4 x5 x6 x7 x8 x9 x10 x11 x12 : Option Value} {rl : List (Option Value)} (hd : decode Y.2.1 pc = .ok (.lload 13, 2)) (hp : pc + 2 = pc') (h : GoT l E Y kc ks pc' (x0 :: x1 :: x2 :: x3 :: x4 :: x5 :: x6 :: x7 :: x8 :: x9 :: x10 :: x11 :: x12 :: some (.long a) :: rl) (.long a :: st) w Tg) : GoT l E Y kc ks pc (x0 :: x1 :: x2 :: x3 :: x4 :: x5 :: x6 :: x7 :: x8 :: x9 :: x10 :: x11 :: x12 :: some (.long a) :: rl) st w Tg := g_lloadX (i := 13) hd hp rfl h
theorem g_dload0 {a : UInt64} {rl : List (Option Value)} (hd : decode Y.2.1 pc = .ok (.dload_n 0, 1)) (hp : pc + 1 = pc') (h : GoT l E Y kc ks pc' (some (.double a) :: rl) (.double a :: st) w Tg) : GoT l E Y kc ks pc (some (.double a) :: rl) st w Tg := g_dloadN (i := 0) hd hp rfl h
theorem g_dload1 {a : UInt64} {x0 : Option Value} {rl : List (Option Value)} (hd : decode Y.2.1 pc = .ok (.dload_n 1, 1)) (hp : pc + 1 = pc') (h : GoT l E Y kc ks pc' (x0 :: some (.double a) :: rl) (.double a :: st) w Tg) : GoT l E Y kc ks pc (x0 :: some (.double a) :: rl) st w Tg := g_dloadN (i := 1) hd hp rfl h
theorem g_dload2 {a : UInt64} {x0 x1 : Option Value} {rl : List (Option Value)} (hd : decode Y.2.1 pc = .ok (.dload_n 2, 1)) (hp : pc + 1 = pc') (h : GoT l E Y kc ks pc' (x0 :: x1 :: some (.double a) :: rl) (.double a :: st) w Tg) : GoT l E Y kc ks pc (x0 :: x1 :: some (.double a) :: rl) st w Tg := g_dloadN (i := 2) hd hp rfl h
theorem g_dload3 {a : UInt64} {x0 x1 x2 : Option Value} {rl : List (Option Value)} (hd : decode Y.2.1 pc = .ok (.dload_n 3, 1)) (hp : pc + 1 = pc') (h : GoT l E Y kc ks pc' (x0 :: x1 :: x2 :: some (.double a) :: rl) (.double a :: st) w Tg) : GoT l E Y kc ks pc (x0 :: x1 :: x2 :: some (.double a) :: rl) st w Tg := g_dloadN (i := 3) hd hp rfl h
theorem g_dload4 {a : UInt64} {x0 x1 x2 x3 : Option Value} {rl : List (Option Value)} (hd : decode Y.2.1 pc = .ok (.dload 4, 2)) (hp : pc + 2 = pc') (h : GoT l E Y kc ks pc' (x0 :: x1 :: x2 :: x3 :: some (.double a) :: rl) (.double a :: st) w Tg) : GoT l E Y kc ks pc (x0 :: x1 :: x2 :: x3 :: some (.double a) :: rl) st w Tg := g_dloadX (i := 4) hd hp rfl h
theorem g_dload5 {a : UInt64} {x0 x1 x2 x3 x4 : Option Value} {rl : List (Option Value)} (hd : decode Y.2.1 pc = .ok (.dload 5, 2)) (hp : pc + 2 = pc') (h : GoT l E Y kc ks pc' (x0 :: x1 :: x2 :: x3 :: x4 :: some (.double a) :: rl) (.double a :: st) w Tg) : GoT l E Y kc ks pc (x0 :: x1 :: x2 :: x3 :: x4 :: some (.double a) :: rl) st w Tg := g_dloadX (i := 5) hd hp rfl h
theorem g_dload6 {a : UInt64} {x0 x1 x2 x3 x4 x5 : Option Value} {rl : List (Option Value)} (hd : decode Y.2.1 pc = .ok (.dload 6, 2)) (hp : pc + 2 = pc') (h : GoT l E Y kc ks pc' (x0 :: x1 :: x2 :: x3 :: x4 :: x5 :: some (.double a) :: rl) (.double a :: st) w Tg) : GoT l E Y kc ks pc (x0 :: x1 :: x2 :: x3 :: x4 :: x5 :: some (.double a) :: rl) st w Tg := g_dloadX (i := 6) hd hp rfl h
theorem g_dload7 {a : UInt64} {x0 x1 x2 x3 x4 x5 x6 : Option Value} {rl : List (Option Value)} (hd : decode Y.2.1 pc = .ok (.dload 7, 2)) (hp : pc + 2 = pc') (h : GoT l E Y kc ks pc' (x0 :: x1 :: x2 :: x3 :: x4 :: x5 :: x6 :: some (.double a) :: rl) (.double a :: st) w Tg) : GoT l E Y kc ks pc (x0 :: x1 :: x2 :: x3 :: x4 :: x5 :: x6 :: some (.double a) :: rl) st w Tg := g_dloadX (i := 7) hd hp rfl h
theorem g_dload8 {a : UInt64} {x0 x1 x2 x3 x4 x5 x6 x7 : Option Value} {rl : List (Option Value)} (hd : decode Y.2.1 pc = .ok (.dload 8, 2)) (hp : pc + 2 = pc') (h : GoT l E Y kc ks pc' (x0 :: x1 :: x2 :: x3 :: x4 :: x5 :: x6 :: x7 :: some (.double a) :: rl) (.double a :: st) w Tg) : GoT l E Y kc ks pc (x0 :: x1 :: x2 :: x3 :: x4 :: x5 :: x6 :: x7 :: some (.double a) :: rl) st w Tg := g_dloadX (i := 8) hd hp rfl h
theorem g_dload9 {a : UInt64} {x0 x1 x2 x3 x4 x5 x6 x7 x8 : Option Value} {rl : List (Option Value)} (hd : decode Y.2.1 pc = .ok (.dload 9, 2)) (hp : pc + 2 = pc') (h : GoT l E Y kc ks pc' (x0 :: x1 :: x2 :: x3 :: x4 :: x5 :: x6 :: x7 :: x8 :: some (.double a) :: rl) (.double a :: st) w Tg) : GoT l E Y kc ks pc (x0 :: x1 :: x2 :: x3 :: x4 :: x5 :: x6 :: x7 :: x8 :: some (.double a) :: rl) st w Tg := g_dloadX (i := 9) hd hp rfl h
theorem g_dload10 {a : UInt64} {x0 x1 x2 x3 x4 x5 x6 x7 x8 x9 : Option Value} {rl : List (Option Value)} (hd : decode Y.2.1 pc = .ok (.dload 10, 2)) (hp : pc + 2 = pc') (h : GoT l E Y kc ks pc' (x0 :: x1 :: x2 :: x3 :: x4 :: x5 :: x6 :: x7 :: x8 :: x9 :: some (.double a) :: rl) (.double a :: st) w Tg) : GoT l E Y kc ks pc (x0 :: x1 :: x2 :: x3 :: x4 :: x5 :: x6 :: x7 :: x8 :: x9 :: some (.double a) :: rl) st w Tg := g_dloadX (i := 10) hd hp rfl h
theorem g_dload11 {a : UInt64} {x0 x1 x2 x3 x4 x5 x6 x7 x8 x9 x10 : Option Value} {rl : List (Option Value)} (hd : decode Y.2.1 pc = .ok (.dload 11, 2)) (hp : pc + 2 = pc') (h : GoT l E Y kc ks pc' (x0 :: x1 :: x2 :: x3 :: x4 :: x5 :: x6 :: x7 :: x8 :: x9 :: x10 :: some (.double a) :: rl) (.double a :: st) w Tg) : GoT l E Y kc ks pc (x0 :: x1 :: x2 :: x3 :: x4 :: x5 :: x6 :: x7 :: x8 :: x9 :: x10 :: some (.double a) :: rl) st w Tg := g_dloadX (i := 11) hd hp rfl h
theorem g_dload12 {a : UInt64} {x0 x1 x2 x3 x4 x5 x6 x7 x8 x9 x10 x11 : Option Value} {rl : List (Option Value)} (hd : decode Y.2.1 pc = .ok (.dload 12, 2)) (hp : pc + 2 = pc') (h : GoT l E Y kc ks pc' (x0 :: x1 :: x2 :: x3 :: x4 :: x5 :: x6 :: x7 :: x8 :: x9 :: x10 :: x11 :: some (.double a) :: rl) (.double a :: st) w Tg) : GoT l E Y kc ks pc (x0 :: x1 :: x2 :: x3 :: x4 :: x5 :: x6 :: x7 :: x8 :: x9 :: x10 :: x11 :: some (.double a) :: rl) st w Tg := g_dloadX (i := 12) hd hp rfl h
theorem g_dload13 {a : UInt64} {x0 x1 x2 x3 x4 x5 x6 x7 x8 x9 x10 x11 x12 : Option Value} {rl : List (Option Value)} (hd : decode Y.2.1 pc = .ok (.dload 13, 2)) (hp : pc + 2 = pc') (h : GoT l E Y kc ks pc' (x0 :: x1 :: x2 :: x3 :: x4 :: x5 :: x6 :: x7 :: x8 :: x9 :: x10 :: x11 :: x12 :: some (.double a) :: rl) (.double a :: st) w Tg) : GoT l E Y kc ks pc (x0 :: x1 :: x2 :: x3 :: x4 :: x5 :: x6 :: x7 :: x8 :: x9 :: x10 :: x11 :: x12 :: some (.double a) :: rl) st w Tg := g_dloadX (i := 13) hd hp rfl h
theorem g_istoreN {a : Int} {i : Fin 4} (hd : decode Y.2.1 pc = .ok (.istore_n i, 1)) (hp : pc + 1 = pc') (hi : (i : Nat) < Y.2.2.1) (hc : ∀ u, L[(i : Nat) - 1]? = some (some u) → (i : Nat) ≠ 0 → okc (some u) = true) (h : GoT l E Y kc ks pc' (L.set (i : Nat) (some (.int (iz a)))) st w Tg) : GoT l E Y kc ks pc L (.int (iz a) :: st) w Tg := by
  intro p e s m args below meth c H locs ls C hH hS hl
  obtain ⟨hx, hb, hml, hr, ho, hts, hK, hlk, hnm, hbs⟩ := id C
  subst hp
  refine lv_istore_n hx hb hd rfl hl hi rfl (fun ls' hl' => ?_)
  exact h p e s m args below meth c H locs ls' C hH hS (q_l_set1 hl' hc)
theorem g_istoreX {a : Int} {i : Nat} (hd : decode Y.2.1 pc = .ok (.istore i, 2)) (hp : pc + 2 = pc') (hi : i < Y.2.2.1) (hc : ∀ u, L[i - 1]? = some (some u) → i ≠ 0 → okc (some u) = true) (h : GoT l E Y kc ks pc' (L.set i (some (.int (iz a)))) st w Tg) : GoT l E Y kc ks pc L (.int (iz a) :: st) w Tg := by
  intro p e s m args below meth c H locs ls C hH hS hl
  obtain ⟨hx, hb, hml, hr, ho, hts, hK, hlk, hnm, hbs⟩ := id C
  subst hp
  refine lv_istore hx hb hd hl hi rfl (fun ls' hl' => ?_)
  exact h p e s m args below meth c H locs ls' C hH hS (q_l_set1 hl' hc)
theorem g_astoreN {a : Nat} {i : Fin 4} (hd : decode Y.2.1 pc = .ok (.astore_n i, 1)) (hp : pc + 1 = pc') (hi : (i : Nat) < Y.2.2.1) (hc : ∀ u, L[(i : Nat) - 1]? = some (some u) → (i : Nat) ≠ 0 → okc (some u) = true) (h : GoT l E Y kc ks pc' (L.set (i : Nat) (some (.ref a))) st w Tg) : GoT l E Y kc ks pc L (.ref a :: st) w Tg := by
  intro p e s m args below meth c H locs ls C hH hS hl
  obtain ⟨hx, hb, hml, hr, ho, hts, hK, hlk, hnm, hbs⟩ := id C
  subst hp
  refine lv_astore_n hx hb hd rfl hl hi rfl (fun ls' hl' => ?_)
  exact h p e s m args below meth c H locs ls' C hH hS (q_l_set1 hl' hc)
theorem g_astoreX {a : Nat} {i : Nat} (hd : decode Y.2.1 pc = .ok (.astore i, 2)) (hp : pc + 2 = pc') (hi : i < Y.2.2.1) (hc : ∀ u, L[i - 1]? = some (some u) → i ≠ 0 → okc (some u) = true) (h : GoT l E Y kc ks pc' (L.set i (some (.ref a))) st w Tg) : GoT l E Y kc ks pc L (.ref a :: st) w Tg := by
  intro p e s m args below meth c H locs ls C hH hS hl
  obtain ⟨hx, hb, hml, hr, ho, hts, hK, hlk, hnm, hbs⟩ := id C
  subst hp
  refine lv_astore hx hb hd hl hi rfl (fun ls' hl' => ?_)
  exact h p e s m args below meth c H locs ls' C hH hS (q_l_set1 hl' hc)
theorem g_lstoreN {a : Int64} {i : Fin 4} (hd : decode Y.2.1 pc = .ok (.lstore_n i, 1)) (hp : pc + 1 = pc') (hi : (i : Nat) + 1 < Y.2.2.1) (hc : ∀ u, L[(i : Nat) - 1]? = some (some u) → (i : Nat) ≠ 0 → okc (some u) = true) (h : GoT l E Y kc ks pc' ((L.set (i : Nat) (some (.long a))).set ((i : Nat) + 1) none) st w Tg) : GoT l E Y kc ks pc L (.long a :: st) w Tg := by
  intro p e s m args below meth c H locs ls C hH hS hl
  obtain ⟨hx, hb, hml, hr, ho, hts, hK, hlk, hnm, hbs⟩ := id C
  subst hp
  refine lv_lstore_n hx hb hd rfl hl hi rfl (fun ls' hl' => ?_)
  exact h p e s m args below meth c H locs ls' C hH hS (q_l_set2 hl' hc)
theorem g_lstoreX {a : Int64} {i : Nat} (hd : decode Y.2.1 pc = .ok (.lstore i, 2)) (hp : pc + 2 = pc') (hi : i + 1 < Y.2.2.1) (hc : ∀ u, L[i - 1]? = some (some u) → i ≠ 0 → okc (some u) = true) (h : GoT l E Y kc ks pc' ((L.set i (some (.long a))).set (i + 1) none) st w Tg) : GoT l E Y kc ks pc L (.long a :: st) w Tg := by
  intro p e s m args below meth c H locs ls C hH hS hl
  obtain ⟨hx, hb, hml, hr, ho, hts, hK, hlk, hnm, hbs⟩ := id C
  subst hp
  refine lv_lstore hx hb hd hl hi rfl (fun ls' hl' => ?_)
  exact h p e s m args below meth c H locs ls' C hH hS (q_l_set2 hl' hc)
theorem g_dstoreN {a : UInt64} {i : Fin 4} (hd : decode Y.2.1 pc = .ok (.dstore_n i, 1)) (hp : pc + 1 = pc') (hi : (i : Nat) + 1 < Y.2.2.1) (hc : ∀ u, L[(i : Nat) - 1]? = some (some u) → (i : Nat) ≠ 0 → okc (some u) = true) (h : GoT l E Y kc ks pc' ((L.set (i : Nat) (some (.double a))).set ((i : Nat) + 1) none) st w Tg) : GoT l E Y kc ks pc L (.double a :: st) w Tg := by
  intro p e s m args below meth c H locs ls C hH hS hl
  obtain ⟨hx, hb, hml, hr, ho, hts, hK, hlk, hnm, hbs⟩ := id C
  subst hp
  refine lv_dstore_n hx hb hd rfl hl hi rfl (fun ls' hl' => ?_)
  exact h p e s m args below meth c H locs ls' C hH hS (q_l_set2 hl' hc)
theorem g_dstoreX {a : UInt64} {i : Nat} (hd : decode Y.2.1 pc = .ok (.dstore i, 2)) (hp : pc + 2 = pc') (hi : i + 1 < Y.2.2.1) (hc : ∀ u, L[i - 1]? = some (some u) → i ≠ 0 → okc (some u) = true) (h : GoT l E Y kc ks pc' ((L.set i (some (.double a))).set (i + 1) none) st w Tg) : GoT l E Y kc ks pc L (.double a :: st) w Tg := by
  intro p e s m args below meth c H locs ls C hH hS hl
  obtain ⟨hx, hb, hml, hr, ho, hts, hK, hlk, hnm, hbs⟩ := id C
  subst hp
  refine lv_dstore hx hb hd hl hi rfl (fun ls' hl' => ?_)
  exact h p e s m args below meth c H locs ls' C hH hS (q_l_set2 hl' hc)
theorem g_istore0 {a : Int} {y : Option Value} {rl : List (Option Value)} (hd : decode Y.2.1 pc = .ok (.istore_n 0, 1)) (hp : pc + 1 = pc') (hi : 0 < Y.2.2.1) (h : GoT l E Y kc ks pc' (some (.int (iz a)) :: rl) st w Tg) : GoT l E Y kc ks pc (y :: rl) (.int (iz a) :: st) w Tg := by
  refine g_istoreN (i := 0) hd hp hi (fun u _ h0 => absurd rfl h0) h
theorem g_istore1 {a : Int} {x0 : Option Value} {y : Option Value} {rl : List (Option Value)} (hd : decode Y.2.1 pc = .ok (.istore_n 1, 1)) (hp : pc + 1 = pc') (hi : 1 < Y.2.2.1) (hc : okc x0 = true) (h : GoT l E Y kc ks pc' (x0 :: some (.int (iz a)) :: rl) st w Tg) : GoT l E Y kc ks pc (x0 :: y :: rl) (.int (iz a) :: st) w Tg := by
  refine g_istoreN (i := 1) hd hp hi (fun u hu _ => ?_) h
  have e : x0 = some u := Option.some.inj (show some x0 = some (some u) from hu)
  rw [← e]; exact hc
theorem g_istore2 {a : Int} {x0 x1 : Option Value} {y : Option Value} {rl : List (Option Value)} (hd : decode Y.2.1 pc = .ok (.istore_n 2, 1)) (hp : pc + 1 = pc') (hi : 2 < Y.2.2.1) (hc : okc x1 = true) (h : GoT l E Y kc ks pc' (x0 :: x1 :: some (.int (iz a)) :: rl) st w Tg) : GoT l E Y kc ks pc (x0 :: x1 :: y :: rl) (.int (iz a) :: st) w Tg := by
  refine g_istoreN (i := 2) hd hp hi (fun u hu _ => ?_) h
  have e : x1 = some u := Option.some.inj (show some x1 = some (some u) from hu)
  rw [← e]; exact hc
theorem g_istore3 {a : Int} {x0 x1 x2 : Option Value} {y : Option Value} {rl : List (Option Value)} (hd : decode Y.2.1 pc = .ok (.istore_n 3, 1)) (hp : pc + 1 = pc') (hi : 3 < Y.2.2.1) (hc : okc x2 = true) (h : GoT l E Y kc ks pc' (x0 :: x1 :: x2 :: some (.int (iz a)) :: rl) st w Tg) : GoT l E Y kc ks pc (x0 :: x1 :: x2 :: y :: rl) (.int (iz a) :: st) w Tg := by
  refine g_istoreN (i := 3) hd hp hi (fun u hu _ => ?_) h
  have e : x2 = some u := Option.some.inj (show some x2 = some (some u) from hu)
  rw [← e]; exact hc
theorem g_istore4 {a : Int} {x0 x1 x2 x3 : Option Value} {y : Option Value} {rl : List (Option Value)} (hd : decode Y.2.1 pc = .ok (.istore 4, 2)) (hp : pc + 2 = pc') (hi : 4 < Y.2.2.1) (hc : okc x3 = true) (h : GoT l E Y kc ks pc' (x0 :: x1 :: x2 :: x3 :: some (.int (iz a)) :: rl) st w Tg) : GoT l E Y kc ks pc (x0 :: x1 :: x2 :: x3 :: y :: rl) (.int (iz a) :: st) w Tg := by
  refine g_istoreX (i := 4) hd hp hi (fun u hu _ => ?_) h
  have e : x3 = some u := Option.some.inj (show some x3 = some (some u) from hu)
  rw [← e]; exact hc
theorem g_istore5 {a : Int} {x0 x1 x2 x3 x4 : Option Value} {y : Option Value} {rl : List (Option Value)} (hd : decode Y.2.1 pc = .ok (.istore 5, 2)) (hp : pc + 2 = pc') (hi : 5 < Y.2.2.1) (hc : okc x4 = true) (h : GoT l E Y kc ks pc' (x0 :: x1 :: x2 :: x3 :: x4 :: some (.int (iz a)) :: rl) st w Tg) : GoT l E Y kc ks pc (x0 :: x1 :: x2 :: x3 :: x4 :: y :: rl) (.int (iz a) :: st) w Tg := by
  refine g_istoreX (i := 5) hd hp hi (fun u hu _ => ?_) h
  have e : x4 = some u := Option.some.inj (show some x4 = some (some u) from hu)
  rw [← e]; exact hc
theorem g_istore6 {a : Int} {x0 x1 x2 x3 x4 x5 : Option Value} {y : Option Value} {rl : List (Option Value)} (hd : decode Y.2.1 pc = .ok (.istore 6, 2)) (hp : pc + 2 = pc') (hi : 6 < Y.2.2.1) (hc : okc x5 = true) (h : GoT l E Y kc ks pc' (x0 :: x1 :: x2 :: x3 :: x4 :: x5 :: some (.int (iz a)) :: rl) st w Tg) : GoT l E Y kc ks pc (x0 :: x1 :: x2 :: x3 :: x4 :: x5 :: y :: rl) (.int (iz a) :: st) w Tg := by
  refine g_istoreX (i := 6) hd hp hi (fun u hu _ => ?_) h
  have e : x5 = some u := Option.some.inj (show some x5 = some (some u) from hu)
  rw [← e]; exact hc
theorem g_istore7 {a : Int} {x0 x1 x2 x3 x4 x5 x6 : Option Value} {y : Option Value} {rl : List (Option Value)} (hd : decode Y.2.1 pc = .ok (.istore 7, 2)) (hp : pc + 2 = pc') (hi : 7 < Y.2.2.1) (hc : okc x6 = true) (h : GoT l E Y kc ks pc' (x0 :: x1 :: x2 :: x3 :: x4 :: x5 :: x6 :: some (.int (iz a)) :: rl) st w Tg) : GoT l E Y kc ks pc (x0 :: x1 :: x2 :: x3 :: x4 :: x5 :: x6 :: y :: rl) (.int (iz a) :: st) w Tg := by
  refine g_istoreX (i := 7) hd hp hi (fun u hu _ => ?_) h
  have e : x6 = some u := Option.some.inj (show some x6 = some (some u) from hu)
  rw [← e]; exact hc
theorem g_istore8 {a : Int} {x0 x1 x2 x3 x4 x5 x6 x7 : Option Value} {y : Option Value} {rl : List (Option Value)} (hd : decode Y.2.1 pc = .ok (.istore 8, 2)) (hp : pc + 2 = pc') (hi : 8 < Y.2.2.1) (hc : okc x7 = true) (h : GoT l E Y kc ks pc' (x0 :: x1 :: x2 :: x3 :: x4 :: x5 :: x6 :: x7 :: some (.int (iz a)) :: rl) st w Tg) : GoT l E Y kc ks pc (x0 :: x1 :: x2 :: x3 :: x4 :: x5 :: x6 :: x7 :: y :: rl) (.int (iz a) :: st) w Tg := by
  refine g_istoreX (i := 8) hd hp hi (fun u hu _ => ?_) h
  have e : x7 = some u := Option.some.inj (show some x7 = some (some u) from hu)
  rw [← e]; exact hc
theorem g_istore9 {a : Int} {x0 x1 x2 x3 x4 x5 x6 x7 x8 : Option Value} {y : Option Value} {rl : List (Option Value)} (hd : decode Y.2.1 pc = .ok (.istore 9, 2)) (hp : pc + 2 = pc') (hi : 9 < Y.2.2.1) (hc : okc x8 = true) (h : GoT l E Y kc ks pc' (x0 :: x1 :: x2 :: x3 :: x4 :: x5 :: x6 :: x7 :: x8 :: some (.int (iz a)) :: rl) st w Tg) : GoT l E Y kc ks pc (x0 :: x1 :: x2 :: x3 :: x4 :: x5 :: x6 :: x7 :: x8 :: y :: rl) (.int (iz a) :: st) w Tg := by
  refine g_istoreX (i := 9) hd hp hi (fun u hu _ => ?_) h
  have e : x8 = some u := Option.some.inj (show some x8 = some (some u) from hu)
  rw [← e]; exact hc
theorem g_istore10 {a : Int} {x0 x1 x2 x3 x4 x5 x6 x7 x8 x9 : Option Value} {y : Option Value} {rl : List (Option Value)} (hd : decode Y.2.1 pc = .ok (.istore 10, 2)) (hp : pc + 2 = pc') (hi : 10 < Y.2.2.1) (hc : okc x9 = true) (h : GoT l E Y kc ks pc' (x0 :: x1 :: x2 :: x3 :: x4 :: x5 :: x6 :: x7 :: x8 :: x9 :: some (.int (iz a)) :: rl) st w Tg) : GoT l E Y kc ks pc (x0 :: x1 :: x2 :: x3 :: x4 :: x5 :: x6 :: x7 :: x8 :: x9 :: y :: rl) (.int (iz a) :: st) w Tg := by
  refine g_istoreX (i := 10) hd hp hi (fun u hu _ => ?_) h
  have e : x9 = some u := Option.some.inj (show some x9 = some (some u) from hu)
  rw [← e]; exact hc
theorem g_istore11 {a : Int} {x0 x1 x2 x3 x4 x5 x6 x7 x8 x9 x10 : Option Value} {y : Option Value} {rl : List (Option Value)} (hd : decode Y.2.1 pc = .ok (.istore 11, 2)) (hp : pc + 2 = pc') (hi : 11 < Y.2.2.1) (hc : okc x10 = true) (h : GoT l E Y kc ks pc' (x0 :: x1 :: x2 :: x3 :: x4 :: x5 :: x6 :: x7 :: x8 :: x9 :: x10 :: some (.int (iz a)) :: rl) st w Tg) : GoT l E Y kc ks pc (x0 :: x1 :: x2 :: x3 :: x4 :: x5 :: x6 :: x7 :: x8 :: x9 :: x10 :: y :: rl) (.int (iz a) :: st) w Tg := by
  refine g_istoreX (i := 11) hd hp hi (fun u hu _ => ?_) h
  have e : x10 = some u := Option.some.inj (show some x10 = some (some u) from hu)
  rw [← e]; exact hc
theorem g_istore12 {a : Int} {x0 x1 x2 x3 x4 x5 x6 x7 x8 x9 x10 x11 : Option Value} {y : Option Value} {rl : List (Option Value)} (hd : decode Y.2.1 pc = .ok (.istore 12, 2)) (hp : pc + 2 = pc') (hi : 12 < Y.2.2.1) (hc : okc x11 = true) (h : GoT l E Y kc ks pc' (x0 :: x1 :: x2 :: x3 :: x4 :: x5 :: x6 :: x7 :: x8 :: x9 :: x10 :: x11 :: some (.int (iz a)) :: rl) st w Tg) : GoT l E Y kc ks pc (x0 :: x1 :: x2 :: x3 :: x4 :: x5 :: x6 :: x7 :: x8 :: x9 :: x10 :: x11 :: y :: rl) (.int (iz a) :: st) w Tg := by
  refine g_istoreX (i := 12) hd hp hi (fun u hu _ => ?_) h
  have e : x11 = some u := Option.some.inj (show some x11 = some (some u) from hu)
  rw [← e]; exact hc
theorem g_istore13 {a : Int} {x0 x1 x2 x3 x4 x5 x6 x7 x8 x9 x10 x11 x12 : Option Value} {y : Option Value} {rl : List (Option Value)} (hd : decode Y.2.1 pc = .ok (.istore 13, 2)) (hp : pc + 2 = pc') (hi : 13 < Y.2.2.1) (hc : okc x12 = true) (h : GoT l E Y kc ks pc' (x0 :: x1 :: x2 :: x3 :: x4 :: x5 :: x6 :: x7 :: x8 :: x9 :: x10 :: x11 :: x12 :: some (.int (iz a)) :: rl) st w Tg) : GoT l E Y kc ks pc (x0 :: x1 :: x2 :: x3 :: x4 :: x5 :: x6 :: x7 :: x8 :: x9 :: x10 :: x11 :: x12 :: y :: rl) (.int (iz a) :: st) w Tg := by
  refine g_istoreX (i := 13) hd hp hi (fun u hu _ => ?_) h
  have e : x12 = some u := Option.some.inj (show some x12 = some (some u) from hu)
  rw [← e]; exact hc
theorem g_astore0 {a : Nat} {y : Option Value} {rl : List (Option Value)} (hd : decode Y.2.1 pc = .ok (.astore_n 0, 1)) (hp : pc + 1 = pc') (hi : 0 < Y.2.2.1) (h : GoT l E Y kc ks pc' (some (.ref a) :: rl) st w Tg) : GoT l E Y kc ks pc (y :: rl) (.ref a :: st) w Tg := by
  refine g_astoreN (i := 0) hd hp hi (fun u _ h0 => absurd rfl h0) h
theorem g_astore1 {a : Nat} {x0 : Option Value} {y : Option Value} {rl : List (Option Value)} (hd : decode Y.2.1 pc = .ok (.astore_n 1, 1)) (hp : pc + 1 = pc') (hi : 1 < Y.2.2.1) (hc : okc x0 = true) (h : GoT l E Y kc ks pc' (x0 :: some (.ref a) :: rl) st w Tg) : GoT l E Y kc ks pc (x0 :: y :: rl) (.ref a :: st) w Tg := by
  refine g_astoreN (i := 1) hd hp hi (fun u hu _ => ?_) h
  have e : x0 = some u := Option.some.inj (show some x0 = some (some u) from hu)
  rw [← e]; exact hc
theorem g_astore2 {a : Nat} {x0 x1 : Option Value} {y : Option Value} {rl : List (Option Value)} (hd : decode Y.2.1 pc = .ok (.astore_n 2, 1)) (hp : pc + 1 = pc') (hi : 2 < Y.2.2.1) (hc : okc x1 = true) (h : GoT l E Y kc ks pc' (x0 :: x1 :: some (.ref a) :: rl) st w Tg) : GoT l E Y kc ks pc (x0 :: x1 :: y :: rl) (.ref a :: st) w Tg := by
  refine g_astoreN (i := 2) hd hp hi (fun u hu _ => ?_) h
  have e : x1 = some u := Option.some.inj (show some x1 = some (some u) from hu)
  rw [← e]; exact hc
theorem g_astore3 {a : Nat} {x0 x1 x2 : Option Value} {y : Option Value} {rl : List (Option Value)} (hd : decode Y.2.1 pc = .ok (.astore_n 3, 1)) (hp : pc + 1 = pc') (hi : 3 < Y.2.2.1) (hc : okc x2 = true) (h : GoT l E Y kc ks pc' (x0 :: x1 :: x2 :: some (.ref a) :: rl) st w Tg) : GoT l E Y kc ks pc (x0 :: x1 :: x2 :: y :: rl) (.ref a :: st) w Tg := by
  refine g_astoreN (i := 3) hd hp hi (fun u hu _ => ?_) h
  have e : x2 = some u := Option.some.inj (show some x2 = some (some u) from hu)
  rw [← e]; exact hc
theorem g_astore4 {a : Nat} {x0 x1 x2 x3 : Option Value} {y : Option Value} {rl : List (Option Value)} (hd : decode Y.2.1 pc = .ok (.astore 4, 2)) (hp : pc + 2 = pc') (hi : 4 < Y.2.2.1) (hc : okc x3 = true) (h : GoT l E Y kc ks pc' (x0 :: x1 :: x2 :: x3 :: some (.ref a) :: rl) st w Tg) : GoT l E Y kc ks pc (x0 :: x1 :: x2 :: x3 :: y :: rl) (.ref a :: st) w Tg := by
  refine g_astoreX (i := 4) hd hp hi (fun u hu _ => ?_) h
  have e : x3 = some u := Option.some.inj (show some x3 = some (some u) from hu)
  rw [← e]; exact hc
theorem g_astore5 {a : Nat} {x0 x1 x2 x3 x4 : Option Value} {y : Option Value} {rl : List (Option Value)} (hd : decode Y.2.1 pc = .ok (.astore 5, 2)) (hp : pc + 2 = pc') (hi : 5 < Y.2.2.1) (hc : okc x4 = true) (h : GoT l E Y kc ks pc' (x0 :: x1 :: x2 :: x3 :: x4 :: some (.ref a) :: rl) st w Tg) : GoT l E Y kc ks pc (x0 :: x1 :: x2 :: x3 :: x4 :: y :: rl) (.ref a :: st) w Tg := by
  refine g_astoreX (i := 5) hd hp hi (fun u hu _ => ?_) h
  have e : x4 = some u := Option.some.inj (show some x4 = some (some u) from hu)
  rw [← e]; exact hc
theorem g_astore6 {a : Nat} {x0 x1 x2 x3 x4 x5 : Option Value} {y : Option Value} {rl : List (Option Value)} (hd : decode Y.2.1 pc = .ok (.astore 6, 2)) (hp : pc + 2 = pc') (hi : 6 < Y.2.2.1) (hc : okc x5 = true) (h : GoT l E Y kc ks pc' (x0 :: x1 :: x2 :: x3 :: x4 :: x5 :: some (.ref a) :: rl) st w Tg) : GoT l E Y kc ks pc (x0 :: x1 :: x2 :: x3 :: x4 :: x5 :: y :: rl) (.ref a :: st) w Tg := by
  refine g_astoreX (i := 6) hd hp hi (fun u hu _ => ?_) h
  have e : x5 = some u := Option.some.inj (show some x5 = some (some u) from hu)
  rw [← e]; exact hc
theorem g_astore7 {a : Nat} {x0 x1 x2 x3 x4 x5 x6 : Option Value} {y : Option Value} {rl : List (Option Value)} (hd : decode Y.2.1 pc = .ok (.astore 7, 2)) (hp : pc + 2 = pc') (hi : 7 < Y.2.2.1) (hc : okc x6 = true) (h : GoT l E Y kc ks pc' (x0 :: x1 :: x2 :: x3 :: x4 :: x5 :: x6 :: some (.ref a) :: rl) st w Tg) : GoT l E Y kc ks pc (x0 :: x1 :: x2 :: x3 :: x4 :: x5 :: x6 :: y :: rl) (.ref a :: st) w Tg := by
  refine g_astoreX (i := 7) hd hp hi (fun u hu _ => ?_) h
  have e : x6 = some u := Option.some.inj (show some x6 = some (some u) from hu)
  rw [← e]; exact hc
theorem g_astore8 {a : Nat} {x0 x1 x2 x3 x4 x5 x6 x7 : Option Value} {y : Option Value} {rl : List (Option Value)} (hd : decode Y.2.1 pc = .ok (.astore 8, 2)) (hp : pc + 2 = pc') (hi : 8 < Y.2.2.1) (hc : okc x7 = true) (h : GoT l E Y kc ks pc' (x0 :: x1 :: x2 :: x3 :: x4 :: x5 :: x6 :: x7 :: some (.ref a) :: rl) st w Tg) : GoT l E Y kc ks pc (x0 :: x1 :: x2 :: x3 :: x4 :: x5 :: x6 :: x7 :: y :: rl) (.ref a :: st) w Tg := by
  refine g_astoreX (i := 8) hd hp hi (fun u hu _ => ?_) h
  have e : x7 = some u := Option.some.inj (show some x7 = some (some u) from hu)
  rw [← e]; exact hc
theorem g_astore9 {a : Nat} {x0 x1 x2 x3 x4 x5 x6 x7 x8 : Option Value} {y : Option Value} {rl : List (Option Value)} (hd : decode Y.2.1 pc = .ok (.astore 9, 2)) (hp : pc + 2 = pc') (hi : 9 < Y.2.2.1) (hc : okc x8 = true) (h : GoT l E Y kc ks pc' (x0 :: x1 :: x2 :: x3 :: x4 :: x5 :: x6 :: x7 :: x8 :: some (.ref a) :: rl) st w Tg) : GoT l E Y kc ks pc (x0 :: x1 :: x2 :: x3 :: x4 :: x5 :: x6 :: x7 :: x8 :: y :: rl) (.ref a :: st) w Tg := by
  refine g_astoreX (i := 9) hd hp hi (fun u hu _ => ?_) h
  have e : x8 = some u := Option.some.inj (show some x8 = some (some u) from hu)
  rw [← e]; exact hc
theorem g_astore10 {a : Nat} {x0 x1 x2 x3 x4 x5 x6 x7 x8 x9 : Option Value} {y : Option Value} {rl : List (Option Value)} (hd : decode Y.2.1 pc = .ok (.astore 10, 2)) (hp : pc + 2 = pc') (hi : 10 < Y.2.2.1) (hc : okc x9 = true) (h : GoT l E Y kc ks pc' (x0 :: x1 :: x2 :: x3 :: x4 :: x5 :: x6 :: x7 :: x8 :: x9 :: some (.ref a) :: rl) st w Tg) : GoT l E Y kc ks pc (x0 :: x1 :: x2 :: x3 :: x4 :: x5 :: x6 :: x7 :: x8 :: x9 :: y :: rl) (.ref a :: st) w Tg := by
  refine g_astoreX (i := 10) hd hp hi (fun u hu _ => ?_) h
  have e : x9 = some u := Option.some.inj (show some x9 = some (some u) from hu)
  rw [← e]; exact hc
theorem g_astore11 {a : Nat} {x0 x1 x2 x3 x4 x5 x6 x7 x8 x9 x10 : Option Value} {y : Option Value} {rl : List (Option Value)} (hd : decode Y.2.1 pc = .ok (.astore 11, 2)) (hp : pc + 2 = pc') (hi : 11 < Y.2.2.1) (hc : okc x10 = true) (h : GoT l E Y kc ks pc' (x0 :: x1 :: x2 :: x3 :: x4 :: x5 :: x6 :: x7 :: x8 :: x9 :: x10 :: some (.ref a) :: rl) st w Tg) : GoT l E Y kc ks pc (x0 :: x1 :: x2 :: x3 :: x4 :: x5 :: x6 :: x7 :: x8 :: x9 :: x10 :: y :: rl) (.ref a :: st) w Tg := by
  refine g_astoreX (i := 11) hd hp hi (fun u hu _ => ?_) h
  have e : x10 = some u := Option.some.inj (show some x10 = some (some u) from hu)
  rw [← e]; exact hc
theorem g_astore12 {a : Nat} {x0 x1 x2 x3 x4 x5 x6 x7 x8 x9 x10 x11 : Option Value} {y : Option Value} {rl : List (Option Value)} (hd : decode Y.2.1 pc = .ok (.astore 12, 2)) (hp : pc + 2 = pc') (hi : 12 < Y.2.2.1) (hc : okc x11 = true) (h : GoT l E Y kc ks pc' (x0 :: x1 :: x2 :: x3 :: x4 :: x5 :: x6 :: x7 :: x8 :: x9 :: x10 :: x11 :: some (.ref a) :: rl) st w Tg) : GoT l E Y kc ks pc (x0 :: x1 :: x2 :: x3 :: x4 :: x5 :: x6 :: x7 :: x8 :: x9 :: x10 :: x11 :: y :: rl) (.ref a :: st) w Tg := by
  refine g_astoreX (i := 12) hd hp hi (fun u hu _ => ?_) h
  have e : x11 = some u := Option.some.inj (show some x11 = some (some u) from hu)
  rw [← e]; exact hc
theorem g_astore13 {a : Nat} {x0 x1 x2 x3 x4 x5 x6 x7 x8 x9 x10 x11 x12 : Option Value} {y : Option Value} {rl : List (Option Value)} (hd : decode Y.2.1 pc = .ok (.astore 13, 2)) (hp : pc + 2 = pc') (hi : 13 < Y.2.2.1) (hc : okc x12 = true) (h : GoT l E Y kc ks pc' (x0 :: x1 :: x2 :: x3 :: x4 :: x5 :: x6 :: x7 :: x8 :: x9 :: x10 :: x11 :: x12 :: some (.ref a) :: rl) st w Tg) : GoT l E Y kc ks pc (x0 :: x1 :: x2 :: x3 :: x4 :: x5 :: x6 :: x7 :: x8 :: x9 :: x10 :: x11 :: x12 :: y :: rl) (.ref a :: st) w Tg := by
  refine g_astoreX (i := 13) hd hp hi (fun u hu _ => ?_) h
  have e : x12 = some u := Option.some.inj (show some x12 = some (some u) from hu)
  rw [← e]; exact hc
theorem g_lstore0 {a : Int64} {y0 y1 : Option Value} {rl : List (Option Value)} (hd : decode Y.2.1 pc = .ok (.lstore_n 0, 1)) (hp : pc + 1 = pc') (hi : 0 + 1 < Y.2.2.1) (h : GoT l E Y kc ks pc' (some (.long a) :: none :: rl) st w Tg) : GoT l E Y kc ks pc (y0 :: y1 :: rl) (.long a :: st) w Tg := by
  refine g_lstoreN (i := 0) hd hp hi (fun u _ h0 => absurd rfl h0) h
theorem g_lstore1 {a : Int64} {x0 : Option Value} {y0 y1 : Option Value} {rl : List (Option Value)} (hd : decode Y.2.1 pc = .ok (.lstore_n 1, 1)) (hp : pc + 1 = pc') (hi : 1 + 1 < Y.2.2.1) (hc : okc x0 = true) (h : GoT l E Y kc ks pc' (x0 :: some (.long a) :: none :: rl) st w Tg) : GoT l E Y kc ks pc (x0 :: y0 :: y1 :: rl) (.long a :: st) w Tg := by
  refine g_lstoreN (i := 1) hd hp hi (fun u hu _ => ?_) h
  have e : x0 = some u := Option.some.inj (show some x0 = some (some u) from hu)
  rw [← e]; exact hc
theorem g_lstore2 {a : Int64} {x0 x1 : Option Value} {y0 y1 : Option Value} {rl : List (Option Value)} (hd : decode Y.2.1 pc = .ok (.lstore_n 2, 1)) (hp : pc + 1 = pc') (hi : 2 + 1 < Y.2.2.1) (hc : okc x1 = true) (h : GoT l E Y kc ks pc' (x0 :: x1 :: some (.long a) :: none :: rl) st w Tg) : GoT l E Y kc ks pc (x0 :: x1 :: y0 :: y1 :: rl) (.long a :: st) w Tg := by
  refine g_lstoreN (i := 2) hd hp hi (fun u hu _ => ?_) h
  have e : x1 = some u := Option.some.inj (show some x1 = some (some u) from hu)
  rw [← e]; exact hc
theorem g_lstore3 {a : Int64} {x0 x1 x2 : Option Value} {y0 y1 : Option Value} {rl : List (Option Value)} (hd : decode Y.2.1 pc = .ok (.lstore_n 3, 1)) (hp : pc + 1 = pc') (hi : 3 + 1 < Y.2.2.1) (hc : okc x2 = true) (h : GoT l E Y kc ks pc' (x0 :: x1 :: x2 :: some (.long a) :: none :: rl) st w Tg) : GoT l E Y kc ks pc (x0 :: x1 :: x2 :: y0 :: y1 :: rl) (.long a :: st) w Tg := by
  refine g_lstoreN (i := 3) hd hp hi (fun u hu _ => ?_) h
  have e : x2 = some u := Option.some.inj (show some x2 = some (some u) from hu)
  rw [← e]; exact hc
theorem g_lstore4 {a : Int64} {x0 x1 x2 x3 : Option Value} {y0 y1 : Option Value} {rl : List (Option Value)} (hd : decode Y.2.1 pc = .ok (.lstore 4, 2)) (hp : pc + 2 = pc') (hi : 4 + 1 < Y.2.2.1) (hc : okc x3 = true) (h : GoT l E Y kc ks pc' (x0 :: x1 :: x2 :: x3 :: some (.long a) :: none :: rl) st w Tg) : GoT l E Y kc ks pc (x0 :: x1 :: x2 :: x3 :: y0 :: y1 :: rl) (.long a :: st) w Tg := by
  refine g_lstoreX (i := 4) hd hp hi (fun u hu _ => ?_) h
  have e : x3 = some u := Option.some.inj (show some x3 = some (some u) from hu)
  rw [← e]; exact hc
theorem g_lstore5 {a : Int64} {x0 x1 x2 x3 x4 : Option Value} {y0 y1 : Option Value} {rl : List (Option Value)} (hd : decode Y.2.1 pc = .ok (.lstore 5, 2)) (hp : pc + 2 = pc') (hi : 5 + 1 < Y.2.2.1) (hc : okc x4 = true) (h : GoT l E Y kc ks pc' (x0 :: x1 :: x2 :: x3 :: x4 :: some (.long a) :: none :: rl) st w Tg) : GoT l E Y kc ks pc (x0 :: x1 :: x2 :: x3 :: x4 :: y0 :: y1 :: rl) (.long a :: st) w Tg := by
  refine g_lstoreX (i := 5) hd hp hi (fun u hu _ => ?_) h
  have e : x4 = some u := Option.some.inj (show some x4 = some (some u) from hu)
  rw [← e]; exact hc
theorem g_lstore6 {a : Int64} {x0 x1 x2 x3 x4 x5 : Option Value} {y0 y1 : Option Value} {rl : List (Option Value)} (hd : decode Y.2.1 pc = .ok (.lstore 6, 2)) (hp : pc + 2 = pc') (hi : 6 + 1 < Y.2.2.1) (hc : okc x5 = true) (h : GoT l E Y kc ks pc' (x0 :: x1 :: x2 :: x3 :: x4 :: x5 :: some (.long a) :: none :: rl) st w Tg) : GoT l E Y kc ks pc (x0 :: x1 :: x2 :: x3 :: x4 :: x5 :: y0 :: y1 :: rl) (.long a :: st) w Tg := by
  refine g_lstoreX (i := 6) hd hp hi (fun u hu _ => ?_) h
  have e : x5 = some u := Option.some.inj (show some x5 = some (some u) from hu)
  rw [← e]; exact hc
theorem g_lstore7 {a : Int64} {x0 x1 x2 x3 x4 x5 x6 : Option Value} {y0 y1 : Option Value} {rl : List (Option Value)} (hd : decode Y.2.1 pc = .ok (.lstore 7, 2)) (hp : pc + 2 = pc') (hi : 7 + 1 < Y.2.2.1) (hc : okc x6 = true) (h : GoT l E Y kc ks pc' (x0 :: x1 :: x2 :: x3 :: x4 :: x5 :: x6 :: some (.long a) :: none :: rl) st w Tg) : GoT l E Y kc ks pc (x0 :: x1 :: x2 :: x3 :: x4 :: x5 :: x6 :: y0 :: y1 :: rl) (.long a :: st) w Tg := by
  refine g_lstoreX (i := 7) hd hp hi (fun u hu _ => ?_) h
  have e : x6 = some u := Option.some.inj (show some x6 = some (some u) from hu)
  rw [← e]; exact hc
theorem g_lstore8 {a : Int64} {x0 x1 x2 x3 x4 x5 x6 x7 : Option Value} {y0 y1 : Option Value} {rl : List (Option Value)} (hd : decode Y.2.1 pc = .ok (.lstore 8, 2)) (hp : pc + 2 = pc') (hi : 8 + 1 < Y.2.2.1) (hc : okc x7 = true) (h : GoT l E Y kc ks pc' (x0 :: x1 :: x2 :: x3 :: x4 :: x5 :: x6 :: x7 :: some (.long a) :: none :: rl) st w Tg) : GoT l E Y kc ks pc (x0 :: x1 :: x2 :: x3 :: x4 :: x5 :: x6 :: x7 :: y0 :: y1 :: rl) (.long a :: st) w Tg := by
  refine g_lstoreX (i := 8) hd hp hi (fun u hu _ => ?_) h
  have e : x7 = some u := Option.some.inj (show some x7 = some (some u) from hu)
  rw [← e]; exact hc
theorem g_lstore9 {a : Int64} {x0 x1 x2 x3 x4 x5 x6 x7 x8 : Option Value} {y0 y1 : Option Value} {rl : List (Option Value)} (hd : decode Y.2.1 pc = .ok (.lstore 9, 2)) (hp : pc + 2 = pc') (hi : 9 + 1 < Y.2.2.1) (hc : okc x8 = true) (h : GoT l E Y kc ks pc' (x0 :: x1 :: x2 :: x3 :: x4 :: x5 :: x6 :: x7 :: x8 :: some (.long a) :: none :: rl) st w Tg) : GoT l E Y kc ks pc (x0 :: x1 :: x2 :: x3 :: x4 :: x5 :: x6 :: x7 :: x8 :: y0 :: y1 :: rl) (.long a :: st) w Tg := by
  refine g_lstoreX (i := 9) hd hp hi (fun u hu _ => ?_) h
  have e : x8 = some u := Option.some.inj (show some x8 = some (some u) from hu)
  rw [← e]; exact hc
theorem g_lstore10 {a : Int64} {x0 x1 x2 x3 x4 x5 x6 x7 x8 x9 : Option Value} {y0 y1 : Option Value} {rl : List (Option Value)} (hd : decode Y.2.1 pc = .ok (.lstore 10, 2)) (hp : pc + 2 = pc') (hi : 10 + 1 < Y.2.2.1) (hc : okc x9 = true) (h : GoT l E Y kc ks pc' (x0 :: x1 :: x2 :: x3 :: x4 :: x5 :: x6 :: x7 :: x8 :: x9 :: some (.long a) :: none :: rl) st w Tg) : GoT l E Y kc ks pc (x0 :: x1 :: x2 :: x3 :: x4 :: x5 :: x6 :: x7 :: x8 :: x9 :: y0 :: y1 :: rl) (.long a :: st) w Tg := by
  refine g_lstoreX (i := 10) hd hp hi (fun u hu _ => ?_) h
  have e : x9 = some u := Option.some.inj (show some x9 = some (some u) from hu)
  rw [← e]; exact hc
theorem g_lstore11 {a : Int64} {x0 x1 x2 x3 x4 x5 x6 x7 x8 x9 x10 : Option Value} {y0 y1 : Option Value} {rl : List (Option Value)} (hd : decode Y.2.1 pc = .ok (.lstore 11, 2)) (hp : pc + 2 = pc') (hi : 11 + 1 < Y.2.2.1) (hc : okc x10 = true) (h : GoT l E Y kc ks pc' (x0 :: x1 :: x2 :: x3 :: x4 :: x5 :: x6 :: x7 :: x8 :: x9 :: x10 :: some (.long a) :: none :: rl) st w Tg) : GoT l E Y kc ks pc (x0 :: x1 :: x2 :: x3 :: x4 :: x5 :: x6 :: x7 :: x8 :: x9 :: x10 :: y0 :: y1 :: rl) (.long a :: st) w Tg := by
  refine g_lstoreX (i := 11) hd hp hi (fun u hu _ => ?_) h
  have e : x10 = some u := Option.some.inj (show some x10 = some (some u) from hu)
  rw [← e]; exact hc
theorem g_lstore12 {a : Int64} {x0 x1 x2 x3 x4 x5 x6 x7 x8 x9 x10 x11 : Option Value} {y0 y1 : Option Value} {rl : List (Option Value)} (hd : decode Y.2.1 pc = .ok (.lstore 12, 2)) (hp : pc + 2 = pc') (hi : 12 + 1 < Y.2.2.1) (hc : okc x11 = true) (h : GoT l E Y kc ks pc' (x0 :: x1 :: x2 :: x3 :: x4 :: x5 :: x6 :: x7 :: x8 :: x9 :: x10 :: x11 :: some (.long a) :: none :: rl) st w Tg) : GoT l E Y kc ks pc (x0 :: x1 :: x2 :: x3 :: x4 :: x5 :: x6 :: x7 :: x8 :: x9 :: x10 :: x11 :: y0 :: y1 :: rl) (.long a :: st) w Tg := by
  refine g_lstoreX (i := 12) hd hp hi (fun u hu _ => ?_) h
  have e : x11 = some u := Option.some.inj (show some x11 = some (some u) from hu)
  rw [← e]; exact hc
theorem g_lstore13 {a : Int64} {x0 x1 x2 x3 x4 x5 x6 x7 x8 x9 x10 x11 x12 : Option Value} {y0 y1 : Option Value} {rl : List (Option Value)} (hd : decode Y.2.1 pc = .ok (.lstore 13, 2)) (hp : pc + 2 = pc') (hi : 13 + 1 < Y.2.2.1) (hc : okc x12 = true) (h : GoT l E Y kc ks pc' (x0 :: x1 :: x2 :: x3 :: x4 :: x5 :: x6 :: x7 :: x8 :: x9 :: x10 :: x11 :: x12 :: some (.long a) :: none :: rl) st w Tg) : GoT l E Y kc ks pc (x0 :: x1 :: x2 :: x3 :: x4 :: x5 :: x6 :: x7 :: x8 :: x9 :: x10 :: x11 :: x12 :: y0 :: y1 :: rl) (.long a :: st) w Tg := by
  refine g_lstoreX (i := 13) hd hp hi (fun u hu _ => ?_) h
  have e : x12 = some u := Option.some.inj (show some x12 = some (some u) from hu)
  rw [← e]; exact hc
theorem g_dstore0 {a : UInt64} {y0 y1 : Option Value} {rl : List (Option Value)} (hd : decode Y.2.1 pc = .ok (.dstore_n 0, 1)) (hp : pc + 1 = pc') (hi : 0 + 1 < Y.2.2.1) (h : GoT l E Y kc ks pc' (some (.double a) :: none :: rl) st w Tg) : GoT l E Y kc ks pc (y0 :: y1 :: rl) (.double a :: st) w Tg := by
  refine g_dstoreN (i := 0) hd hp hi (fun u _ h0 => absurd rfl h0) h
theorem g_dstore1 {a : UInt64} {x0 : Option Value} {y0 y1 : Option Value} {rl : List (Option Value)} (hd : decode Y.2.1 pc = .ok (.dstore_n 1, 1)) (hp : pc + 1 = pc') (hi : 1 + 1 < Y.2.2.1) (hc : okc x0 = true) (h : GoT l E Y kc ks pc' (x0 :: some (.double a) :: none :: rl) st w Tg) : GoT l E Y kc ks pc (x0 :: y0 :: y1 :: rl) (.double a :: st) w Tg := by
  refine g_dstoreN (i := 1) hd hp hi (fun u hu _ => ?_) h
  have e : x0 = some u := Option.some.inj (show some x0 = some (some u) from hu)
  rw [← e]; exact hc
theorem g_dstore2 {a : UInt64} {x0 x1 : Option Value} {y0 y1 : Option Value} {rl : List (Option Value)} (hd : decode Y.2.1 pc = .ok (.dstore_n 2, 1)) (hp : pc + 1 = pc') (hi : 2 + 1 < Y.2.2.1) (hc : okc x1 = true) (h : GoT l E Y kc ks pc' (x0 :: x1 :: some (.double a) :: none :: rl) st w Tg) : GoT l E Y kc ks pc (x0 :: x1 :: y0 :: y1 :: rl) (.double a :: st) w Tg := by
  refine g_dstoreN (i := 2) hd hp hi (fun u hu _ => ?_) h
  have e : x1 = some u := Option.some.inj (show some x1 = some (some u) from hu)
  rw [← e]; exact hc
theorem g_dstore3 {a : UInt64} {x0 x1 x2 : Option Value} {y0 y1 : Option Value} {rl : List (Option Value)} (hd : decode Y.2.1 pc = .ok (.dstore_n 3, 1)) (hp : pc + 1 = pc') (hi : 3 + 1 < Y.2.2.1) (hc : okc x2 = true) (h : GoT l E Y kc ks pc' (x0 :: x1 :: x2 :: some (.double a) :: none :: rl) st w Tg) : GoT l E Y kc ks pc (x0 :: x1 :: x2 :: y0 :: y1 :: rl) (.double a :: st) w Tg := by
  refine g_dstoreN (i := 3) hd hp hi (fun u hu _ => ?_) h
  have e : x2 = some u := Option.some.inj (show some x2 = some (some u) from hu)
  rw [← e]; exact hc
theorem g_dstore4 {a : UInt64} {x0 x1 x2 x3 : Option Value} {y0 y1 : Option Value} {rl : List (Option Value)} (hd : decode Y.2.1 pc = .ok (.dstore 4, 2)) (hp : pc + 2 = pc') (hi : 4 + 1 < Y.2.2.1) (hc : okc x3 = true) (h : GoT l E Y kc ks pc' (x0 :: x1 :: x2 :: x3 :: some (.double a) :: none :: rl) st w Tg) : GoT l E Y kc ks pc (x0 :: x1 :: x2 :: x3 :: y0 :: y1 :: rl) (.double a :: st) w Tg := by
  refine g_dstoreX (i := 4) hd hp hi (fun u hu _ => ?_) h
  have e : x3 = some u := Option.some.inj (show some x3 = some (some u) from hu)
  rw [← e]; exact hc
theorem g_dstore5 {a : UInt64} {x0 x1 x2 x3 x4 : Option Value} {y0 y1 : Option Value} {rl : List (Option Value)} (hd : decode Y.2.1 pc = .ok (.dstore 5, 2)) (hp : pc + 2 = pc') (hi : 5 + 1 < Y.2.2.1) (hc : okc x4 = true) (h : GoT l E Y kc ks pc' (x0 :: x1 :: x2 :: x3 :: x4 :: some (.double a) :: none :: rl) st w Tg) : GoT l E Y kc ks pc (x0 :: x1 :: x2 :: x3 :: x4 :: y0 :: y1 :: rl) (.double a :: st) w Tg := by
  refine g_dstoreX (i := 5) hd hp hi (fun u hu _ => ?_) h
  have e : x4 = some u := Option.some.inj (show some x4 = some (some u) from hu)
  rw [← e]; exact hc
theorem g_dstore6 {a : UInt64} {x0 x1 x2 x3 x4 x5 : Option Value} {y0 y1 : Option Value} {rl : List (Option Value)} (hd : decode Y.2.1 pc = .ok (.dstore 6, 2)) (hp : pc + 2 = pc') (hi : 6 + 1 < Y.2.2.1) (hc : okc x5 = true) (h : GoT l E Y kc ks pc' (x0 :: x1 :: x2 :: x3 :: x4 :: x5 :: some (.double a) :: none :: rl) st w Tg) : GoT l E Y kc ks pc (x0 :: x1 :: x2 :: x3 :: x4 :: x5 :: y0 :: y1 :: rl) (.double a :: st) w Tg := by
  refine g_dstoreX (i := 6) hd hp hi (fun u hu _ => ?_) h
  have e : x5 = some u := Option.some.inj (show some x5 = some (some u) from hu)
  rw [← e]; exact hc
theorem g_dstore7 {a : UInt64} {x0 x1 x2 x3 x4 x5 x6 : Option Value} {y0 y1 : Option Value} {rl : List (Option Value)} (hd : decode Y.2.1 pc = .ok (.dstore 7, 2)) (hp : pc + 2 = pc') (hi : 7 + 1 < Y.2.2.1) (hc : okc x6 = true) (h : GoT l E Y kc ks pc' (x0 :: x1 :: x2 :: x3 :: x4 :: x5 :: x6 :: some (.double a) :: none :: rl) st w Tg) : GoT l E Y kc ks pc (x0 :: x1 :: x2 :: x3 :: x4 :: x5 :: x6 :: y0 :: y1 :: rl) (.double a :: st) w Tg := by
  refine g_dstoreX (i := 7) hd hp hi (fun u hu _ => ?_) h
  have e : x6 = some u := Option.some.inj (show some x6 = some (some u) from hu)
  rw [← e]; exact hc
theorem g_dstore8 {a : UInt64} {x0 x1 x2 x3 x4 x5 x6 x7 : Option Value} {y0 y1 : Option Value} {rl : List (Option Value)} (hd : decode Y.2.1 pc = .ok (.dstore 8, 2)) (hp : pc + 2 = pc') (hi : 8 + 1 < Y.2.2.1) (hc : okc x7 = true) (h : GoT l E Y kc ks pc' (x0 :: x1 :: x2 :: x3 :: x4 :: x5 :: x6 :: x7 :: some (.double a) :: none :: rl) st w Tg) : GoT l E Y kc ks pc (x0 :: x1 :: x2 :: x3 :: x4 :: x5 :: x6 :: x7 :: y0 :: y1 :: rl) (.double a :: st) w Tg := by
  refine g_dstoreX (i := 8) hd hp hi (fun u hu _ => ?_) h
  have e : x7 = some u := Option.some.inj (show some x7 = some (some u) from hu)
  rw [← e]; exact hc
theorem g_dstore9 {a : UInt64} {x0 x1 x2 x3 x4 x5 x6 x7 x8 : Option Value} {y0 y1 : Option Value} {rl : List (Option Value)} (hd : decode Y.2.1 pc = .ok (.dstore 9, 2)) (hp : pc + 2 = pc') (hi : 9 + 1 < Y.2.2.1) (hc : okc x8 = true) (h : GoT l E Y kc ks pc' (x0 :: x1 :: x2 :: x3 :: x4 :: x5 :: x6 :: x7 :: x8 :: some (.double a) :: none :: rl) st w Tg) : GoT l E Y kc ks pc (x0 :: x1 :: x2 :: x3 :: x4 :: x5 :: x6 :: x7 :: x8 :: y0 :: y1 :: rl) (.double a :: st) w Tg := by
  refine g_dstoreX (i := 9) hd hp hi (fun u hu _ => ?_) h
  have e : x8 = some u := Option.some.inj (show some x8 = some (some u) from hu)
  rw [← e]; exact hc
theorem g_dstore10 {a : UInt64} {x0 x1 x2 x3 x4 x5 x6 x7 x8 x9 : Option Value} {y0 y1 : Option Value} {rl : List (Option Value)} (hd : decode Y.2.1 pc = .ok (.dstore 10, 2)) (hp : pc + 2 = pc') (hi : 10 + 1 < Y.2.2.1) (hc : okc x9 = true) (h : GoT l E Y kc ks pc' (x0 :: x1 :: x2 :: x3 :: x4 :: x5 :: x6 :: x7 :: x8 :: x9 :: some (.double a) :: none :: rl) st w Tg) : GoT l E Y kc ks pc (x0 :: x1 :: x2 :: x3 :: x4 :: x5 :: x6 :: x7 :: x8 :: x9 :: y0 :: y1 :: rl) (.double a :: st) w Tg := by
  refine g_dstoreX (i := 10) hd hp hi (fun u hu _ => ?_) h
  have e : x9 = some u := Option.some.inj (show some x9 = some (some u) from hu)
  rw [← e]; exact hc
theorem g_dstore11 {a : UInt64} {x0 x1 x2 x3 x4 x5 x6 x7 x8 x9 x10 : Option Value} {y0 y1 : Option Value} {rl : List (Option Value)} (hd : decode Y.2.1 pc = .ok (.dstore 11, 2)) (hp : pc + 2 = pc') (hi : 11 + 1 < Y.2.2.1) (hc : okc x10 = true) (h : GoT l E Y kc ks pc' (x0 :: x1 :: x2 :: x3 :: x4 :: x5 :: x6 :: x7 :: x8 :: x9 :: x10 :: some (.double a) :: none :: rl) st w Tg) : GoT l E Y kc ks pc (x0 :: x1 :: x2 :: x3 :: x4 :: x5 :: x6 :: x7 :: x8 :: x9 :: x10 :: y0 :: y1 :: rl) (.double a :: st) w Tg := by
  refine g_dstoreX (i := 11) hd hp hi (fun u hu _ => ?_) h
  have e : x10 = some u := Option.some.inj (show some x10 = some (some u) from hu)
  rw [← e]; exact hc
theorem g_dstore12 {a : UInt64} {x0 x1 x2 x3 x4 x5 x6 x7 x8 x9 x10 x11 : Option Value} {y0 y1 : Option Value} {rl : List (Option Value)} (hd : decode Y.2.1 pc = .ok (.dstore 12, 2)) (hp : pc + 2 = pc') (hi : 12 + 1 < Y.2.2.1) (hc : okc x11 = true) (h : GoT l E Y kc ks pc' (x0 :: x1 :: x2 :: x3 :: x4 :: x5 :: x6 :: x7 :: x8 :: x9 :: x10 :: x11 :: some (.double a) :: none :: rl) st w Tg) : GoT l E Y kc ks pc (x0 :: x1 :: x2 :: x3 :: x4 :: x5 :: x6 :: x7 :: x8 :: x9 :: x10 :: x11 :: y0 :: y1 :: rl) (.double a :: st) w Tg := by
  refine g_dstoreX (i := 12) hd hp hi (fun u hu _ => ?_) h
  have e : x11 = some u := Option.some.inj (show some x11 = some (some u) from hu)
  rw [← e]; exact hc
theorem g_dstore13 {a : UInt64} {x0 x1 x2 x3 x4 x5 x6 x7 x8 x9 x10 x11 x12 : Option Value} {y0 y1 : Option Value} {rl : List (Option Value)} (hd : decode Y.2.1 pc = .ok (.dstore 13, 2)) (hp : pc + 2 = pc') (hi : 13 + 1 < Y.2.2.1) (hc : okc x12 = true) (h : GoT l E Y kc ks pc' (x0 :: x1 :: x2 :: x3 :: x4 :: x5 :: x6 :: x7 :: x8 :: x9 :: x10 :: x11 :: x12 :: some (.double a) :: none :: rl) st w Tg) : GoT l E Y kc ks pc (x0 :: x1 :: x2 :: x3 :: x4 :: x5 :: x6 :: x7 :: x8 :: x9 :: x10 :: x11 :: x12 :: y0 :: y1 :: rl) (.double a :: st) w Tg := by
  refine g_dstoreX (i := 13) hd hp hi (fun u hu _ => ?_) h
  have e : x12 = some u := Option.some.inj (show some x12 = some (some u) from hu)
  rw [← e]; exact hc
theorem g_iincX {a k : Int} {i : Nat} (hd : decode Y.2.1 pc = .ok (.iinc i k, 3)) (hp : pc + 3 = pc') (hi : i < Y.2.2.1) (hL : L[i]? = some (some (.int (iz a)))) (hc : ∀ u, L[i - 1]? = some (some u) → i ≠ 0 → okc (some u) = true) (h : GoT l E Y kc ks pc' (L.set i (some (.int (iz (a + k))))) st w Tg) : GoT l E Y kc ks pc L st w Tg := by
  intro p e s m args below meth c H locs ls C hH hS hl
  obtain ⟨hx, hb, hml, hr, ho, hts, hK, hlk, hnm, hbs⟩ := id C
  subst hp
  have hm := q_l_in L 0 i _ hL
  rw [Nat.zero_add] at hm
  obtain ⟨q, hq⟩ := List.getElem?_of_mem hm
  refine lv_iinc (v := iz (a + k)) hx hb hd hl hq (iz_add a k) hi rfl (fun ls' hl' => ?_)
  exact h p e s m args below meth c H locs ls' C hH hS (q_l_set1 hl' hc)
theorem g_iinc0 {a k : Int} {rl : List (Option Value)} (hd : decode Y.2.1 pc = .ok (.iinc 0 k, 3)) (hp : pc + 3 = pc') (hi : 0 < Y.2.2.1) (h : GoT l E Y kc ks pc' (some (.int (iz (a + k))) :: rl) st w Tg) : GoT l E Y kc ks pc (some (.int (iz a)) :: rl) st w Tg := by
  refine g_iincX (i := 0) hd hp hi rfl (fun u _ h0 => absurd rfl h0) h
theorem g_iinc1 {a k : Int} {x0 : Option Value} {rl : List (Option Value)} (hd : decode Y.2.1 pc = .ok (.iinc 1 k, 3)) (hp : pc + 3 = pc') (hi : 1 < Y.2.2.1) (hc : okc x0 = true) (h : GoT l E Y kc ks pc' (x0 :: some (.int (iz (a + k))) :: rl) st w Tg) : GoT l E Y kc ks pc (x0 :: some (.int (iz a)) :: rl) st w Tg := by
  refine g_iincX (i := 1) hd hp hi rfl (fun u hu _ => ?_) h
  have e : x0 = some u := Option.some.inj (show some x0 = some (some u) from hu)
  rw [← e]; exact hc
theorem g_iinc2 {a k : Int} {x0 x1 : Option Value} {rl : List (Option Value)} (hd : decode Y.2.1 pc = .ok (.iinc 2 k, 3)) (hp : pc + 3 = pc') (hi : 2 < Y.2.2.1) (hc : okc x1 = true) (h : GoT l E Y kc ks pc' (x0 :: x1 :: some (.int (iz (a + k))) :: rl) st w Tg) : GoT l E Y kc ks pc (x0 :: x1 :: some (.int (iz a)) :: rl) st w Tg := by
  refine g_iincX (i := 2) hd hp hi rfl (fun u hu _ => ?_) h
  have e : x1 = some u := Option.some.inj (show some x1 = some (some u) from hu)
  rw [← e]; exact hc
theorem g_iinc3 {a k : Int} {x0 x1 x2 : Option Value} {rl : List (Option Value)} (hd : decode Y.2.1 pc = .ok (.iinc 3 k, 3)) (hp : pc + 3 = pc') (hi : 3 < Y.2.2.1) (hc : okc x2 = true) (h : GoT l E Y kc ks pc' (x0 :: x1 :: x2 :: some (.int (iz (a + k))) :: rl) st w Tg) : GoT l E Y kc ks pc (x0 :: x1 :: x2 :: some (.int (iz a)) :: rl) st w Tg := by
  refine g_iincX (i := 3) hd hp hi rfl (fun u hu _ => ?_) h
  have e : x2 = some u := Option.some.inj (show some x2 = some (some u) from hu)
  rw [← e]; exact hc
theorem g_iinc4 {a k : Int} {x0 x1 x2 x3 : Option Value} {rl : List (Option Value)} (hd : decode Y.2.1 pc = .ok (.iinc 4 k, 3)) (hp : pc + 3 = pc') (hi : 4 < Y.2.2.1) (hc : okc x3 = true) (h : GoT l E Y kc ks pc' (x0 :: x1 :: x2 :: x3 :: some (.int (iz (a + k))) :: rl) st w Tg) : GoT l E Y kc ks pc (x0 :: x1 :: x2 :: x3 :: some (.int (iz a)) :: rl) st w Tg := by
  refine g_iincX (i := 4) hd hp hi rfl (fun u hu _ => ?_) h
  have e : x3 = some u := Option.some.inj (show some x3 = some (some u) from hu)
  rw [← e]; exact hc
theorem g_iinc5 {a k : Int} {x0 x1 x2 x3 x4 : Option Value} {rl : List (Option Value)} (hd : decode Y.2.1 pc = .ok (.iinc 5 k, 3)) (hp : pc + 3 = pc') (hi : 5 < Y.2.2.1) (hc : okc x4 = true) (h : GoT l E Y kc ks pc' (x0 :: x1 :: x2 :: x3 :: x4 :: some (.int (iz (a + k))) :: rl) st w Tg) : GoT l E Y kc ks pc (x0 :: x1 :: x2 :: x3 :: x4 :: some (.int (iz a)) :: rl) st w Tg := by
  refine g_iincX (i := 5) hd hp hi rfl (fun u hu _ => ?_) h
  have e : x4 = some u := Option.some.inj (show some x4 = some (some u) from hu)
  rw [← e]; exact hc
theorem g_iinc6 {a k : Int} {x0 x1 x2 x3 x4 x5 : Option Value} {rl : List (Option Value)} (hd : decode Y.2.1 pc = .ok (.iinc 6 k, 3)) (hp : pc + 3 = pc') (hi : 6 < Y.2.2.1) (hc : okc x5 = true) (h : GoT l E Y kc ks pc' (x0 :: x1 :: x2 :: x3 :: x4 :: x5 :: some (.int (iz (a + k))) :: rl) st w Tg) : GoT l E Y kc ks pc (x0 :: x1 :: x2 :: x3 :: x4 :: x5 :: some (.int (iz a)) :: rl) st w Tg := by
  refine g_iincX (i := 6) hd hp hi rfl (fun u hu _ => ?_) h
  have e : x5 = some u := Option.some.inj (show some x5 = some (some u) from hu)
  rw [← e]; exact hc
theorem g_iinc7 {a k : Int} {x0 x1 x2 x3 x4 x5 x6 : Option Value} {rl : List (Option Value)} (hd : decode Y.2.1 pc = .ok (.iinc 7 k, 3)) (hp : pc + 3 = pc') (hi : 7 < Y.2.2.1) (hc : okc x6 = true) (h : GoT l E Y kc ks pc' (x0 :: x1 :: x2 :: x3 :: x4 :: x5 :: x6 :: some (.int (iz (a + k))) :: rl) st w Tg) : GoT l E Y kc ks pc (x0 :: x1 :: x2 :: x3 :: x4 :: x5 :: x6 :: some (.int (iz a)) :: rl) st w Tg := by
  refine g_iincX (i := 7) hd hp hi rfl (fun u hu _ => ?_) h
  have e : x6 = some u := Option.some.inj (show some x6 = some (some u) from hu)
  rw [← e]; exact hc
theorem g_iinc8 {a k : Int} {x0 x1 x2 x3 x4 x5 x6 x7 : Option Value} {rl : List (Option Value)} (hd : decode Y.2.1 pc = .ok (.iinc 8 k, 3)) (hp : pc + 3 = pc') (hi : 8 < Y.2.2.1) (hc : okc x7 = true) (h : GoT l E Y kc ks pc' (x0 :: x1 :: x2 :: x3 :: x4 :: x5 :: x6 :: x7 :: some (.int (iz (a + k))) :: rl) st w Tg) : GoT l E Y kc ks pc (x0 :: x1 :: x2 :: x3 :: x4 :: x5 :: x6 :: x7 :: some (.int (iz a)) :: rl) st w Tg := by
  refine g_iincX (i := 8) hd hp hi rfl (fun u hu _ => ?_) h
  have e : x7 = some u := Option.some.inj (show some x7 = some (some u) from hu)
  rw [← e]; exact hc
theorem g_iinc9 {a k : Int} {x0 x1 x2 x3 x4 x5 x6 x7 x8 : Option Value} {rl : List (Option Value)} (hd : decode Y.2.1 pc = .ok (.iinc 9 k, 3)) (hp : pc + 3 = pc') (hi : 9 < Y.2.2.1) (hc : okc x8 = true) (h : GoT l E Y kc ks pc' (x0 :: x1 :: x2 :: x3 :: x4 :: x5 :: x6 :: x7 :: x8 :: some (.int (iz (a + k))) :: rl) st w Tg) : GoT l E Y kc ks pc (x0 :: x1 :: x2 :: x3 :: x4 :: x5 :: x6 :: x7 :: x8 :: some (.int (iz a)) :: rl) st w Tg := by
  refine g_iincX (i := 9) hd hp hi rfl (fun u hu _ => ?_) h
  have e : x8 = some u := Option.some.inj (show some x8 = some (some u) from hu)
  rw [← e]; exact hc
theorem g_iinc10 {a k : Int} {x0 x1 x2 x3 x4 x5 x6 x7 x8 x9 : Option Value} {rl : List (Option Value)} (hd : decode Y.2.1 pc = .ok (.iinc 10 k, 3)) (hp : pc + 3 = pc') (hi : 10 < Y.2.2.1) (hc : okc x9 = true) (h : GoT l E Y kc ks pc' (x0 :: x1 :: x2 :: x3 :: x4 :: x5 :: x6 :: x7 :: x8 :: x9 :: some (.int (iz (a + k))) :: rl) st w Tg) : GoT l E Y kc ks pc (x0 :: x1 :: x2 :: x3 :: x4 :: x5 :: x6 :: x7 :: x8 :: x9 :: some (.int (iz a)) :: rl) st w Tg := by
  refine g_iincX (i := 10) hd hp hi rfl (fun u hu _ => ?_) h
  have e : x9 = some u := Option.some.inj (show some x9 = some (some u) from hu)
  rw [← e]; exact hc
theorem g_iinc11 {a k : Int} {x0 x1 x2 x3 x4 x5 x6 x7 x8 x9 x10 : Option Value} {rl : List (Option Value)} (hd : decode Y.2.1 pc = .ok (.iinc 11 k, 3)) (hp : pc + 3 = pc') (hi : 11 < Y.2.2.1) (hc : okc x10 = true) (h : GoT l E Y kc ks pc' (x0 :: x1 :: x2 :: x3 :: x4 :: x5 :: x6 :: x7 :: x8 :: x9 :: x10 :: some (.int (iz (a + k))) :: rl) st w Tg) : GoT l E Y kc ks pc (x0 :: x1 :: x2 :: x3 :: x4 :: x5 :: x6 :: x7 :: x8 :: x9 :: x10 :: some (.int (iz a)) :: rl) st w Tg := by
  refine g_iincX (i := 11) hd hp hi rfl (fun u hu _ => ?_) h
  have e : x10 = some u := Option.some.inj (show some x10 = some (some u) from hu)
  rw [← e]; exact hc
theorem g_iinc12 {a k : Int} {x0 x1 x2 x3 x4 x5 x6 x7 x8 x9 x10 x11 : Option Value} {rl : List (Option Value)} (hd : decode Y.2.1 pc = .ok (.iinc 12 k, 3)) (hp : pc + 3 = pc') (hi : 12 < Y.2.2.1) (hc : okc x11 = true) (h : GoT l E Y kc ks pc' (x0 :: x1 :: x2 :: x3 :: x4 :: x5 :: x6 :: x7 :: x8 :: x9 :: x10 :: x11 :: some (.int (iz (a + k))) :: rl) st w Tg) : GoT l E Y kc ks pc (x0 :: x1 :: x2 :: x3 :: x4 :: x5 :: x6 :: x7 :: x8 :: x9 :: x10 :: x11 :: some (.int (iz a)) :: rl) st w Tg := by
  refine g_iincX (i := 12) hd hp hi rfl (fun u hu _ => ?_) h
  have e : x11 = some u := Option.some.inj (show some x11 = some (some u) from hu)
  rw [← e]; exact hc
theorem g_iinc13 {a k : Int} {x0 x1 x2 x3 x4 x5 x6 x7 x8 x9 x10 x11 x12 : Option Value} {rl : List (Option Value)} (hd : decode Y.2.1 pc = .ok (.iinc 13 k, 3)) (hp : pc + 3 = pc') (hi : 13 < Y.2.2.1) (hc : okc x12 = true) (h : GoT l E Y kc ks pc' (x0 :: x1 :: x2 :: x3 :: x4 :: x5 :: x6 :: x7 :: x8 :: x9 :: x10 :: x11 :: x12 :: some (.int (iz (a + k))) :: rl) st w Tg) : GoT l E Y kc ks pc (x0 :: x1 :: x2 :: x3 :: x4 :: x5 :: x6 :: x7 :: x8 :: x9 :: x10 :: x11 :: x12 :: some (.int (iz a)) :: rl) st w Tg := by
  refine g_iincX (i := 13) hd hp hi rfl (fun u hu _ => ?_) h
  have e : x12 = some u := Option.some.inj (show some x12 = some (some u) from hu)
  rw [← e]; exact hc
theorem g_iadd {a b : Int} (hd : decode Y.2.1 pc = .ok (.iadd, 1)) (hp : pc + 1 = pc') (h : GoT l E Y kc ks pc' L (.int (iz (a + b)) :: st) w Tg) : GoT l E Y kc ks pc L (.int (iz b) :: .int (iz a) :: st) w Tg := by
  intro p e s m args below meth c H locs ls C hH hS hl
  obtain ⟨hx, hb, hml, hr, ho, hts, hK, hlk, hnm, hbs⟩ := id C
  subst hp
  refine lv_iadd hx hb hd ?_
  rw [iz_add]
  exact h p e s m args below meth c H locs ls C hH hS hl
theorem g_isub {a b : Int} (hd : decode Y.2.1 pc = .ok (.isub, 1)) (hp : pc + 1 = pc') (h : GoT l E Y kc ks pc' L (.int (iz (a - b)) :: st) w Tg) : GoT l E Y kc ks pc L (.int (iz b) :: .int (iz a) :: st) w Tg := by
  intro p e s m args below meth c H locs ls C hH hS hl
  obtain ⟨hx, hb, hml, hr, ho, hts, hK, hlk, hnm, hbs⟩ := id C
  subst hp
  refine lv_isub hx hb hd ?_
  rw [iz_sub]
  exact h p e s m args below meth c H locs ls C hH hS hl
theorem g_imul {a b : Int} (hd : decode Y.2.1 pc = .ok (.imul, 1)) (hp : pc + 1 = pc') (h : GoT l E Y kc ks pc' L (.int (iz (a * b)) :: st) w Tg) : GoT l E Y kc ks pc L (.int (iz b) :: .int (iz a) :: st) w Tg := by
  intro p e s m args below meth c H locs ls C hH hS hl
  obtain ⟨hx, hb, hml, hr, ho, hts, hK, hlk, hnm, hbs⟩ := id C
  subst hp
  refine lv_imul hx hb hd ?_
  rw [iz_mul]
  exact h p e s m args below meth c H locs ls C hH hS hl
theorem g_ineg {a : Int} (hd : decode Y.2.1 pc = .ok (.ineg, 1)) (hp : pc + 1 = pc') (h : GoT l E Y kc ks pc' L (.int (iz (-a)) :: st) w Tg) : GoT l E Y kc ks pc L (.int (iz a) :: st) w Tg := by
  intro p e s m args below meth c H locs ls C hH hS hl
  obtain ⟨hx, hb, hml, hr, ho, hts, hK, hlk, hnm, hbs⟩ := id C
  subst hp
  refine lv_ineg hx hb hd ?_
  rw [iz_neg]
  exact h p e s m args below meth c H locs ls C hH hS hl
theorem g_idiv {a b : Int} (hd : decode Y.2.1 pc = .ok (.idiv, 1)) (hp : pc + 1 = pc') (ha1 : R32 a) (hb1 : R32 b) (h0 : b ≠ 0) (h : GoT l E Y kc ks pc' L (.int (iz (a.tdiv b)) :: st) w Tg) : GoT l E Y kc ks pc L (.int (iz b) :: .int (iz a) :: st) w Tg := by
  intro p e s m args below meth c H locs ls C hH hS hl
  obtain ⟨hx, hb, hml, hr, ho, hts, hK, hlk, hnm, hbs⟩ := id C
  subst hp
  refine lv_idiv hx hb hd (fun q => h0 ((iz_eq0 hb1).mp q)) ?_
  rw [iz_div ha1 hb1]
  exact h p e s m args below meth c H locs ls C hH hS hl
theorem g_irem {a b : Int} (hd : decode Y.2.1 pc = .ok (.irem, 1)) (hp : pc + 1 = pc') (ha1 : R32 a) (hb1 : R32 b) (h0 : b ≠ 0) (h : GoT l E Y kc ks pc' L (.int (iz (a - a.tdiv b * b)) :: st) w Tg) : GoT l E Y kc ks pc L (.int (iz b) :: .int (iz a) :: st) w Tg := by
  intro p e s m args below meth c H locs ls C hH hS hl
  obtain ⟨hx, hb, hml, hr, ho, hts, hK, hlk, hnm, hbs⟩ := id C
  subst hp
  refine lv_irem hx hb hd (fun q => h0 ((iz_eq0 hb1).mp q)) ?_
  rw [iz_div ha1 hb1, iz_mul, iz_sub]
  exact h p e s m args below meth c H locs ls C hH hS hl
theorem g_iand {a b v : Int} (hd : decode Y.2.1 pc = .ok (.iand, 1)) (hp : pc + 1 = pc') (hv : iz a &&& iz b = iz v) (h : GoT l E Y kc ks pc' L (.int (iz v) :: st) w Tg) : GoT l E Y kc ks pc L (.int (iz b) :: .int (iz a) :: st) w Tg := by
  intro p e s m args below meth c H locs ls C hH hS hl
  obtain ⟨hx, hb, hml, hr, ho, hts, hK, hlk, hnm, hbs⟩ := id C
  subst hp
  refine lv_iand hx hb hd ?_
  rw [hv]
  exact h p e s m args below meth c H locs ls C hH hS hl
theorem g_ior {a b v : Int} (hd : decode Y.2.1 pc = .ok (.ior, 1)) (hp : pc + 1 = pc') (hv : iz a ||| iz b = iz v) (h : GoT l E Y kc ks pc' L (.int (iz v) :: st) w Tg) : GoT l E Y kc ks pc L (.int (iz b) :: .int (iz a) :: st) w Tg := by
  intro p e s m args below meth c H locs ls C hH hS hl
  obtain ⟨hx, hb, hml, hr, ho, hts, hK, hlk, hnm, hbs⟩ := id C
  subst hp
  refine lv_ior hx hb hd ?_
  rw [hv]
  exact h p e s m args below meth c H locs ls C hH hS hl
theorem g_ishl {a b v : Int} (hd : decode Y.2.1 pc = .ok (.ishl, 1)) (hp : pc + 1 = pc') (hv : iz a <<< (iz b &&& 31) = iz v) (h : GoT l E Y kc ks pc' L (.int (iz v) :: st) w Tg) : GoT l E Y kc ks pc L (.int (iz b) :: .int (iz a) :: st) w Tg := by
  intro p e s m args below meth c H locs ls C hH hS hl
  obtain ⟨hx, hb, hml, hr, ho, hts, hK, hlk, hnm, hbs⟩ := id C
  subst hp
  refine lv_ishl hx hb hd ?_
  rw [hv]
  exact h p e s m args below meth c H locs ls C hH hS hl
theorem g_ishr {a b v : Int} (hd : decode Y.2.1 pc = .ok (.ishr, 1)) (hp : pc + 1 = pc') (hv : iz a >>> (iz b &&& 31) = iz v) (h : GoT l E Y kc ks pc' L (.int (iz v) :: st) w Tg) : GoT l E Y kc ks pc L (.int (iz b) :: .int (iz a) :: st) w Tg := by
  intro p e s m args below meth c H locs ls C hH hS hl
  obtain ⟨hx, hb, hml, hr, ho, hts, hK, hlk, hnm, hbs⟩ := id C
  subst hp
  refine lv_ishr hx hb hd ?_
  rw [hv]
  exact h p e s m args below meth c H locs ls C hH hS hl
theorem g_iushr {a b v : Int} (hd : decode Y.2.1 pc = .ok (.iushr, 1)) (hp : pc + 1 = pc') (hv : ((iz a).toUInt32 >>> ((iz b).toUInt32 &&& Int32.toUInt32 31)).toInt32 = iz v) (h : GoT l E Y kc ks pc' L (.int (iz v) :: st) w Tg) : GoT l E Y kc ks pc L (.int (iz b) :: .int (iz a) :: st) w Tg := by
  intro p e s m args below meth c H locs ls C hH hS hl
  obtain ⟨hx, hb, hml, hr, ho, hts, hK, hlk, hnm, hbs⟩ := id C
  subst hp
  refine lv_iushr hx hb hd hv ?_
  exact h p e s m args below meth c H locs ls C hH hS hl
theorem g_ladd {a b : Int64} (hd : decode Y.2.1 pc = .ok (.ladd, 1)) (hp : pc + 1 = pc') (h : GoT l E Y kc ks pc' L (.long (a + b) :: st) w Tg) : GoT l E Y kc ks pc L (.long b :: .long a :: st) w Tg := by
  intro p e s m args below meth c H locs ls C hH hS hl
  obtain ⟨hx, hb, hml, hr, ho, hts, hK, hlk, hnm, hbs⟩ := id C
  subst hp
  refine lv_ladd hx hb hd ?_
  exact h p e s m args below meth c H locs ls C hH hS hl
theorem g_lsub {a b : Int64} (hd : decode Y.2.1 pc = .ok (.lsub, 1)) (hp : pc + 1 = pc') (h : GoT l E Y kc ks pc' L (.long (a - b) :: st) w Tg) : GoT l E Y kc ks pc L (.long b :: .long a :: st) w Tg := by
  intro p e s m args below meth c H locs ls C hH hS hl
  obtain ⟨hx, hb, hml, hr, ho, hts, hK, hlk, hnm, hbs⟩ := id C
  subst hp
  refine lv_lsub hx hb hd ?_
  exact h p e s m args below meth c H locs ls C hH hS hl
theorem g_lmul {a b : Int64} (hd : decode Y.2.1 pc = .ok (.lmul, 1)) (hp : pc + 1 = pc') (h : GoT l E Y kc ks pc' L (.long (a * b) :: st) w Tg) : GoT l E Y kc ks pc L (.long b :: .long a :: st) w Tg := by
  intro p e s m args below meth c H locs ls C hH hS hl
  obtain ⟨hx, hb, hml, hr, ho, hts, hK, hlk, hnm, hbs⟩ := id C
  subst hp
  refine lv_lmul hx hb hd ?_
  exact h p e s m args below meth c H locs ls C hH hS hl
theorem g_land {a b : Int64} (hd : decode Y.2.1 pc = .ok (.land, 1)) (hp : pc + 1 = pc') (h : GoT l E Y kc ks pc' L (.long (a &&& b) :: st) w Tg) : GoT l E Y kc ks pc L (.long b :: .long a :: st) w Tg := by
  intro p e s m args below meth c H locs ls C hH hS hl
  obtain ⟨hx, hb, hml, hr, ho, hts, hK, hlk, hnm, hbs⟩ := id C
  subst hp
  refine lv_land hx hb hd ?_
  exact h p e s m args below meth c H locs ls C hH hS hl
theorem g_lor {a b : Int64} (hd : decode Y.2.1 pc = .ok (.lor, 1)) (hp : pc + 1 = pc') (h : GoT l E Y kc ks pc' L (.long (a ||| b) :: st) w Tg) : GoT l E Y kc ks pc L (.long b :: .long a :: st) w Tg := by
  intro p e s m args below meth c H locs ls C hH hS hl
  obtain ⟨hx, hb, hml, hr, ho, hts, hK, hlk, hnm, hbs⟩ := id C
  subst hp
  refine lv_lor hx hb hd ?_
  exact h p e s m args below meth c H locs ls C hH hS hl
theorem g_lshl {a v : Int64} {b : Int} (hd : decode Y.2.1 pc = .ok (.lshl, 1)) (hp : pc + 1 = pc') (hv : a <<< ((iz b).toInt64 &&& 63) = v) (h : GoT l E Y kc ks pc' L (.long v :: st) w Tg) : GoT l E Y kc ks pc L (.int (iz b) :: .long a :: st) w Tg := by
  intro p e s m args below meth c H locs ls C hH hS hl
  obtain ⟨hx, hb, hml, hr, ho, hts, hK, hlk, hnm, hbs⟩ := id C
  subst hp
  refine lv_lshl hx hb hd hv ?_
  exact h p e s m args below meth c H locs ls C hH hS hl
theorem g_lshr {a v : Int64} {b : Int} (hd : decode Y.2.1 pc = .ok (.lshr, 1)) (hp : pc + 1 = pc') (hv : a >>> ((iz b).toInt64 &&& 63) = v) (h : GoT l E Y kc ks pc' L (.long v :: st) w Tg) : GoT l E Y kc ks pc L (.int (iz b) :: .long a :: st) w Tg := by
  intro p e s m args below meth c H locs ls C hH hS hl
  obtain ⟨hx, hb, hml, hr, ho, hts, hK, hlk, hnm, hbs⟩ := id C
  subst hp
  refine lv_lshr hx hb hd hv ?_
  exact h p e s m args below meth c H locs ls C hH hS hl
theorem g_i2l {a : Int} (hd : decode Y.2.1 pc = .ok (.i2l, 1)) (hp : pc + 1 = pc') (h : GoT l E Y kc ks pc' L (.long (iz a).toInt64 :: st) w Tg) : GoT l E Y kc ks pc L (.int (iz a) :: st) w Tg := by
  intro p e s m args below meth c H locs ls C hH hS hl
  obtain ⟨hx, hb, hml, hr, ho, hts, hK, hlk, hnm, hbs⟩ := id C
  subst hp
  refine lv_i2l hx hb hd rfl ?_
  exact h p e s m args below meth c H locs ls C hH hS hl
theorem g_lcmp {a b : Int64} {v : Int} (hd : decode Y.2.1 pc = .ok (.lcmp, 1)) (hp : pc + 1 = pc') (hv : lg_cmp a b = iz v) (h : GoT l E Y kc ks pc' L (.int (iz v) :: st) w Tg) : GoT l E Y kc ks pc L (.long b :: .long a :: st) w Tg := by
  intro p e s m args below meth c H locs ls C hH hS hl
  obtain ⟨hx, hb, hml, hr, ho, hts, hK, hlk, hnm, hbs⟩ := id C
  subst hp
  refine W.lcmp hx hb hd ?_
  rw [hv]
  exact h p e s m args below meth c H locs ls C hH hS hl
theorem g_dcmp {a b : UInt64} {op : CmpOp} {v : Int} (hd : decode Y.2.1 pc = .ok (.dcmp op, 1)) (hp : pc + 1 = pc') (hv : Op.cmpValue (FP.dcmp a b) op = iz v) (h : GoT l E Y kc ks pc' L (.int (iz v) :: st) w Tg) : GoT l E Y kc ks pc L (.double b :: .double a :: st) w Tg := by
  intro p e s m args below meth c H locs ls C hH hS hl
  obtain ⟨hx, hb, hml, hr, ho, hts, hK, hlk, hnm, hbs⟩ := id C
  subst hp
  refine lv_dcmp hx hb hd ?_
  rw [hv]
  exact h p e s m args below meth c H locs ls C hH hS hl
theorem g_ddiv {a b : UInt64} (hd : decode Y.2.1 pc = .ok (.ddiv, 1)) (hp : pc + 1 = pc') (hne : vf_n64 (FP.ddiv a b)) (h : GoT l E Y kc ks pc' L (.double (FP.ddiv a b) :: st) w Tg) : GoT l E Y kc ks pc L (.double b :: .double a :: st) w Tg := by
  intro p e s m args below meth c H locs ls C hH hS hl
  obtain ⟨hx, hb, hml, hr, ho, hts, hK, hlk, hnm, hbs⟩ := id C
  subst hp
  refine lv_ddiv hx hb hd hne ?_
  exact h p e s m args below meth c H locs ls C hH hS hl
theorem g_dmul {a b : UInt64} (hd : decode Y.2.1 pc = .ok (.dmul, 1)) (hp : pc + 1 = pc') (hne : vf_n64 (FP.dmul a b)) (h : GoT l E Y kc ks pc' L (.double (FP.dmul a b) :: st) w Tg) : GoT l E Y kc ks pc L (.double b :: .double a :: st) w Tg := by
  intro p e s m args below meth c H locs ls C hH hS hl
  obtain ⟨hx, hb, hml, hr, ho, hts, hK, hlk, hnm, hbs⟩ := id C
  subst hp
  refine lv_dmul hx hb hd hne ?_
  exact h p e s m args below meth c H locs ls C hH hS hl
theorem g_dsub {a b : UInt64} (hd : decode Y.2.1 pc = .ok (.dsub, 1)) (hp : pc + 1 = pc') (hne : vf_n64 (FP.dsub a b)) (h : GoT l E Y kc ks pc' L (.double (FP.dsub a b) :: st) w Tg) : GoT l E Y kc ks pc L (.double b :: .double a :: st) w Tg := by
  intro p e s m args below meth c H locs ls C hH hS hl
  obtain ⟨hx, hb, hml, hr, ho, hts, hK, hlk, hnm, hbs⟩ := id C
  subst hp
  refine lv_dsub hx hb hd hne ?_
  exact h p e s m args below meth c H locs ls C hH hS hl
theorem g_i2d {a : Int} (hd : decode Y.2.1 pc = .ok (.i2d, 1)) (hp : pc + 1 = pc') (h : GoT l E Y kc ks pc' L (.double (FP.i2d (iz a)) :: st) w Tg) : GoT l E Y kc ks pc L (.int (iz a) :: st) w Tg := by
  intro p e s m args below meth c H locs ls C hH hS hl
  obtain ⟨hx, hb, hml, hr, ho, hts, hK, hlk, hnm, hbs⟩ := id C
  subst hp
  refine lv_i2d hx hb hd ?_
  exact h p e s m args below meth c H locs ls C hH hS hl
theorem g_d2l {a : UInt64} (hd : decode Y.2.1 pc = .ok (.d2l, 1)) (hp : pc + 1 = pc') (h : GoT l E Y kc ks pc' L (.long (FP.d2l a) :: st) w Tg) : GoT l E Y kc ks pc L (.double a :: st) w Tg := by
  intro p e s m args below meth c H locs ls C hH hS hl
  obtain ⟨hx, hb, hml, hr, ho, hts, hK, hlk, hnm, hbs⟩ := id C
  subst hp
  refine lv_d2l hx hb hd ?_
  exact h p e s m args below meth c H locs ls C hH hS hl
theorem g_dup {v : Value} (hd : decode Y.2.1 pc = .ok (.dup, 1)) (hp : pc + 1 = pc') (hc : v.category = 1) (h : GoT l E Y kc ks pc' L (v :: v :: st) w Tg) : GoT l E Y kc ks pc L (v :: st) w Tg := by
  intro p e s m args below meth c H locs ls C hH hS hl
  obtain ⟨hx, hb, hml, hr, ho, hts, hK, hlk, hnm, hbs⟩ := id C
  subst hp
  refine lv_dup hx hb hd hc ?_
  exact h p e s m args below meth c H locs ls C hH hS hl
theorem g_dup2 {u v : Value} (hd : decode Y.2.1 pc = .ok (.dup2, 1)) (hp : pc + 1 = pc') (hc : v.category = 1) (hc2 : u.category = 1) (h : GoT l E Y kc ks pc' L (v :: u :: v :: u :: st) w Tg) : GoT l E Y kc ks pc L (v :: u :: st) w Tg := by
  intro p e s m args below meth c H locs ls C hH hS hl
  obtain ⟨hx, hb, hml, hr, ho, hts, hK, hlk, hnm, hbs⟩ := id C
  subst hp
  refine lv_dup2_11 hx hb hd hc hc2 ?_
  exact h p e s m args below meth c H locs ls C hH hS hl
theorem g_pop {v : Value} (hd : decode Y.2.1 pc = .ok (.pop, 1)) (hp : pc + 1 = pc') (hc : v.category = 1) (h : GoT l E Y kc ks pc' L (st) w Tg) : GoT l E Y kc ks pc L (v :: st) w Tg := by
  intro p e s m args below meth c H locs ls C hH hS hl
  obtain ⟨hx, hb, hml, hr, ho, hts, hK, hlk, hnm, hbs⟩ := id C
  subst hp
  refine lv_pop hx hb hd hc ?_
  exact h p e s m args below meth c H locs ls C hH hS hl
theorem g_icmp_eq {a b off : Int} {t : Nat} (hd : decode Y.2.1 pc = .ok (.if_icmp .eq off, 3)) (ht : (pc : Int) + off = (t : Int)) (hp : pc + 3 = pc') (ha1 : R32 a) (hb1 : R32 b) (h1 : a = b → GoT l E Y kc ks t L st w Tg) (h2 : ¬ a = b → GoT l E Y kc ks pc' L st w Tg) : GoT l E Y kc ks pc L (.int (iz b) :: .int (iz a) :: st) w Tg := by
  intro p e s m args below meth c H locs ls C hH hS hl
  obtain ⟨hx, hb, hml, hr, ho, hts, hK, hlk, hnm, hbs⟩ := id C
  subst hp
  have ht1 := fun q => h1 q p e s m args below meth c H locs ls C hH hS hl
  have hf1 := fun q => h2 q p e s m args below meth c H locs ls C hH hS hl
  exact lv_icmp_eq hx hb hd ht (fun q => ht1 ((iz_eq ha1 hb1).mp q)) (fun q => hf1 (fun q2 => q ((iz_eq ha1 hb1).mpr q2)))
theorem g_icmp_ne {a b off : Int} {t : Nat} (hd : decode Y.2.1 pc = .ok (.if_icmp .ne off, 3)) (ht : (pc : Int) + off = (t : Int)) (hp : pc + 3 = pc') (ha1 : R32 a) (hb1 : R32 b) (h1 : ¬ a = b → GoT l E Y kc ks t L st w Tg) (h2 : a = b → GoT l E Y kc ks pc' L st w Tg) : GoT l E Y kc ks pc L (.int (iz b) :: .int (iz a) :: st) w Tg := by
  intro p e s m args below meth c H locs ls C hH hS hl
  obtain ⟨hx, hb, hml, hr, ho, hts, hK, hlk, hnm, hbs⟩ := id C
  subst hp
  have ht1 := fun q => h1 q p e s m args below meth c H locs ls C hH hS hl
  have hf1 := fun q => h2 q p e s m args below meth c H locs ls C hH hS hl
  exact lv_icmp_ne hx hb hd ht (fun q => ht1 (fun q2 => q ((iz_eq ha1 hb1).mpr q2))) (fun q => hf1 ((iz_eq ha1 hb1).mp q))
theorem g_icmp_lt {a b off : Int} {t : Nat} (hd : decode Y.2.1 pc = .ok (.if_icmp .lt off, 3)) (ht : (pc : Int) + off = (t : Int)) (hp : pc + 3 = pc') (ha1 : R32 a) (hb1 : R32 b) (h1 : a < b → GoT l E Y kc ks t L st w Tg) (h2 : ¬ a < b → GoT l E Y kc ks pc' L st w Tg) : GoT l E Y kc ks pc L (.int (iz b) :: .int (iz a) :: st) w Tg := by
  intro p e s m args below meth c H locs ls C hH hS hl
  obtain ⟨hx, hb, hml, hr, ho, hts, hK, hlk, hnm, hbs⟩ := id C
  subst hp
  have ht1 := fun q => h1 q p e s m args below meth c H locs ls C hH hS hl
  have hf1 := fun q => h2 q p e s m args below meth c H locs ls C hH hS hl
  exact lv_icmp_lt hx hb hd ht (fun q => ht1 ((iz_lt ha1 hb1).mp q)) (fun q => hf1 (fun q2 => q ((iz_lt ha1 hb1).mpr q2)))
theorem g_icmp_ge {a b off : Int} {t : Nat} (hd : decode Y.2.1 pc = .ok (.if_icmp .ge off, 3)) (ht : (pc : Int) + off = (t : Int)) (hp : pc + 3 = pc') (ha1 : R32 a) (hb1 : R32 b) (h1 : b ≤ a → GoT l E Y kc ks t L st w Tg) (h2 : ¬ b ≤ a → GoT l E Y kc ks pc' L st w Tg) : GoT l E Y kc ks pc L (.int (iz b) :: .int (iz a) :: st) w Tg := by
  intro p e s m args below meth c H locs ls C hH hS hl
  obtain ⟨hx, hb, hml, hr, ho, hts, hK, hlk, hnm, hbs⟩ := id C
  subst hp
  have ht1 := fun q => h1 q p e s m args below meth c H locs ls C hH hS hl
  have hf1 := fun q => h2 q p e s m args below meth c H locs ls C hH hS hl
  exact lv_icmp_ge hx hb hd ht (fun q => ht1 ((iz_le hb1 ha1).mp q)) (fun q => hf1 (fun q2 => q ((iz_le hb1 ha1).mpr q2)))
theorem g_icmp_gt {a b off : Int} {t : Nat} (hd : decode Y.2.1 pc = .ok (.if_icmp .gt off, 3)) (ht : (pc : Int) + off = (t : Int)) (hp : pc + 3 = pc') (ha1 : R32 a) (hb1 : R32 b) (h1 : b < a → GoT l E Y kc ks t L st w Tg) (h2 : ¬ b < a → GoT l E Y kc ks pc' L st w Tg) : GoT l E Y kc ks pc L (.int (iz b) :: .int (iz a) :: st) w Tg := by
  intro p e s m args below meth c H locs ls C hH hS hl
  obtain ⟨hx, hb, hml, hr, ho, hts, hK, hlk, hnm, hbs⟩ := id C
  subst hp
  have ht1 := fun q => h1 q p e s m args below meth c H locs ls C hH hS hl
  have hf1 := fun q => h2 q p e s m args below meth c H locs ls C hH hS hl
  exact lv_icmp_gt hx hb hd ht (fun q => ht1 ((iz_lt hb1 ha1).mp q)) (fun q => hf1 (fun q2 => q ((iz_lt hb1 ha1).mpr q2)))
theorem g_icmp_le {a b off : Int} {t : Nat} (hd : decode Y.2.1 pc = .ok (.if_icmp .le off, 3)) (ht : (pc : Int) + off = (t : Int)) (hp : pc + 3 = pc') (ha1 : R32 a) (hb1 : R32 b) (h1 : a ≤ b → GoT l E Y kc ks t L st w Tg) (h2 : ¬ a ≤ b → GoT l E Y kc ks pc' L st w Tg) : GoT l E Y kc ks pc L (.int (iz b) :: .int (iz a) :: st) w Tg := by
  intro p e s m args below meth c H locs ls C hH hS hl
  obtain ⟨hx, hb, hml, hr, ho, hts, hK, hlk, hnm, hbs⟩ := id C
  subst hp
  have ht1 := fun q => h1 q p e s m args below meth c H locs ls C hH hS hl
  have hf1 := fun q => h2 q p e s m args below meth c H locs ls C hH hS hl
  exact lv_icmp_le hx hb hd ht (fun q => ht1 ((iz_le ha1 hb1).mp q)) (fun q => hf1 (fun q2 => q ((iz_le ha1 hb1).mpr q2)))
theorem g_if_eq {a off : Int} {t : Nat} (hd : decode Y.2.1 pc = .ok (.ifCond .eq off, 3)) (ht : (pc : Int) + off = (t : Int)) (hp : pc + 3 = pc') (ha1 : R32 a) (h1 : a = 0 → GoT l E Y kc ks t L st w Tg) (h2 : ¬ a = 0 → GoT l E Y kc ks pc' L st w Tg) : GoT l E Y kc ks pc L (.int (iz a) :: st) w Tg := by
  intro p e s m args below meth c H locs ls C hH hS hl
  obtain ⟨hx, hb, hml, hr, ho, hts, hK, hlk, hnm, hbs⟩ := id C
  subst hp
  have ht1 := fun q => h1 q p e s m args below meth c H locs ls C hH hS hl
  have hf1 := fun q => h2 q p e s m args below meth c H locs ls C hH hS hl
  exact lv_if_eq hx hb hd ht (fun q => ht1 ((iz_eq0 ha1).mp q)) (fun q => hf1 (fun q2 => q ((iz_eq0 ha1).mpr q2)))
theorem g_if_ne {a off : Int} {t : Nat} (hd : decode Y.2.1 pc = .ok (.ifCond .ne off, 3)) (ht : (pc : Int) + off = (t : Int)) (hp : pc + 3 = pc') (ha1 : R32 a) (h1 : ¬ a = 0 → GoT l E Y kc ks t L st w Tg) (h2 : a = 0 → GoT l E Y kc ks pc' L st w Tg) : GoT l E Y kc ks pc L (.int (iz a) :: st) w Tg := by
  intro p e s m args below meth c H locs ls C hH hS hl
  obtain ⟨hx, hb, hml, hr, ho, hts, hK, hlk, hnm, hbs⟩ := id C
  subst hp
  have ht1 := fun q => h1 q p e s m args below meth c H locs ls C hH hS hl
  have hf1 := fun q => h2 q p e s m args below meth c H locs ls C hH hS hl
  exact lv_if_ne hx hb hd ht (fun q => ht1 (fun q2 => q ((iz_eq0 ha1).mpr q2))) (fun q => hf1 ((iz_eq0 ha1).mp q))
theorem g_if_lt {a off : Int} {t : Nat} (hd : decode Y.2.1 pc = .ok (.ifCond .lt off, 3)) (ht : (pc : Int) + off = (t : Int)) (hp : pc + 3 = pc') (ha1 : R32 a) (h1 : a < 0 → GoT l E Y kc ks t L st w Tg) (h2 : ¬ a < 0 → GoT l E Y kc ks pc' L st w Tg) : GoT l E Y kc ks pc L (.int (iz a) :: st) w Tg := by
  intro p e s m args below meth c H locs ls C hH hS hl
  obtain ⟨hx, hb, hml, hr, ho, hts, hK, hlk, hnm, hbs⟩ := id C
  subst hp
  have ht1 := fun q => h1 q p e s m args below meth c H locs ls C hH hS hl
  have hf1 := fun q => h2 q p e s m args below meth c H locs ls C hH hS hl
  exact lv_if_lt hx hb hd ht (fun q => ht1 ((iz_lt0 ha1).mp q)) (fun q => hf1 (fun q2 => q ((iz_lt0 ha1).mpr q2)))
theorem g_if_ge {a off : Int} {t : Nat} (hd : decode Y.2.1 pc = .ok (.ifCond .ge off, 3)) (ht : (pc : Int) + off = (t : Int)) (hp : pc + 3 = pc') (ha1 : R32 a) (h1 : 0 ≤ a → GoT l E Y kc ks t L st w Tg) (h2 : ¬ 0 ≤ a → GoT l E Y kc ks pc' L st w Tg) : GoT l E Y kc ks pc L (.int (iz a) :: st) w Tg := by
  intro p e s m args below meth c H locs ls C hH hS hl
  obtain ⟨hx, hb, hml, hr, ho, hts, hK, hlk, hnm, hbs⟩ := id C
  subst hp
  have ht1 := fun q => h1 q p e s m args below meth c H locs ls C hH hS hl
  have hf1 := fun q => h2 q p e s m args below meth c H locs ls C hH hS hl
  exact lv_if_ge hx hb hd ht (fun q => ht1 ((iz_ge0 ha1).mp q)) (fun q => hf1 (fun q2 => q ((iz_ge0 ha1).mpr q2)))
theorem g_if_gt {a off : Int} {t : Nat} (hd : decode Y.2.1 pc = .ok (.ifCond .gt off, 3)) (ht : (pc : Int) + off = (t : Int)) (hp : pc + 3 = pc') (ha1 : R32 a) (h1 : 0 < a → GoT l E Y kc ks t L st w Tg) (h2 : ¬ 0 < a → GoT l E Y kc ks pc' L st w Tg) : GoT l E Y kc ks pc L (.int (iz a) :: st) w Tg := by
  intro p e s m args below meth c H locs ls C hH hS hl
  obtain ⟨hx, hb, hml, hr, ho, hts, hK, hlk, hnm, hbs⟩ := id C
  subst hp
  have ht1 := fun q => h1 q p e s m args below meth c H locs ls C hH hS hl
  have hf1 := fun q => h2 q p e s m args below meth c H locs ls C hH hS hl
  exact lv_if_gt hx hb hd ht (fun q => ht1 ((iz_gt0 ha1).mp q)) (fun q => hf1 (fun q2 => q ((iz_gt0 ha1).mpr q2)))
theorem g_if_le {a off : Int} {t : Nat} (hd : decode Y.2.1 pc = .ok (.ifCond .le off, 3)) (ht : (pc : Int) + off = (t : Int)) (hp : pc + 3 = pc') (ha1 : R32 a) (h1 : a ≤ 0 → GoT l E Y kc ks t L st w Tg) (h2 : ¬ a ≤ 0 → GoT l E Y kc ks pc' L st w Tg) : GoT l E Y kc ks pc L (.int (iz a) :: st) w Tg := by
  intro p e s m args below meth c H locs ls C hH hS hl
  obtain ⟨hx, hb, hml, hr, ho, hts, hK, hlk, hnm, hbs⟩ := id C
  subst hp
  have ht1 := fun q => h1 q p e s m args below meth c H locs ls C hH hS hl
  have hf1 := fun q => h2 q p e s m args below meth c H locs ls C hH hS hl
  exact lv_if_le hx hb hd ht (fun q => ht1 ((iz_le0 ha1).mp q)) (fun q => hf1 (fun q2 => q ((iz_le0 ha1).mpr q2)))
theorem g_goto {off : Int} {t : Nat} (hd : decode Y.2.1 pc = .ok (.goto off, 3)) (ht : (pc : Int) + off = (t : Int)) (h : GoT l E Y kc ks t L st w Tg) : GoT l E Y kc ks pc L st w Tg := by
  intro p e s m args below meth c H locs ls C hH hS hl
  obtain ⟨hx, hb, hml, hr, ho, hts, hK, hlk, hnm, hbs⟩ := id C
  exact lv_goto hx hb hd ht (h p e s m args below meth c H locs ls C hH hS hl)
theorem g_tswIn {a dflt lo hi off : Int} {offs : Array Int} {len t : Nat} (hd : decode Y.2.1 pc = .ok (.tableswitch dflt lo hi offs, len)) (ha1 : R32 a) (h1 : lo ≤ a) (h2 : a ≤ hi) (ho1 : offs[(a - lo).toNat]? = some off) (ht : (pc : Int) + off = (t : Int)) (h : GoT l E Y kc ks t L st w Tg) : GoT l E Y kc ks pc L (.int (iz a) :: st) w Tg := by
  intro p e s m args below meth c H locs ls C hH hS hl
  obtain ⟨hx, hb, hml, hr, ho, hts, hK, hlk, hnm, hbs⟩ := id C
  have e9 := iz_toInt ha1
  exact lv_tableIn hx hb hd (by rw [e9]; omega) (by rw [e9]; omega) (by rw [e9]; exact ho1) ht (h p e s m args below meth c H locs ls C hH hS hl)
theorem g_tswOut {a dflt lo hi : Int} {offs : Array Int} {len t : Nat} (hd : decode Y.2.1 pc = .ok (.tableswitch dflt lo hi offs, len)) (ha1 : R32 a) (h1 : a < lo ∨ hi < a) (ht : (pc : Int) + dflt = (t : Int)) (h : GoT l E Y kc ks t L st w Tg) : GoT l E Y kc ks pc L (.int (iz a) :: st) w Tg := by
  intro p e s m args below meth c H locs ls C hH hS hl
  obtain ⟨hx, hb, hml, hr, ho, hts, hK, hlk, hnm, hbs⟩ := id C
  have e9 := iz_toInt ha1
  exact lv_tableOut hx hb hd (by rw [e9]; exact h1) ht (h p e s m args below meth c H locs ls C hH hS hl)
theorem g_lsw {a dflt off : Int} {ps : Array (Int × Int)} {len t : Nat} (hd : decode Y.2.1 pc = .ok (.lookupswitch dflt ps, len)) (ha1 : R32 a) (hs : (ps.toList.zip (ps.toList.drop 1)).all (fun (a, next) => a.1 < next.1) = true) (ho1 : Op.lookupswitch.offset ps.toList dflt a = off) (ht : (pc : Int) + off = (t : Int)) (h : GoT l E Y kc ks t L st w Tg) : GoT l E Y kc ks pc L (.int (iz a) :: st) w Tg := by
  intro p e s m args below meth c H locs ls C hH hS hl
  obtain ⟨hx, hb, hml, hr, ho, hts, hK, hlk, hnm, hbs⟩ := id C
  have e9 := iz_toInt ha1
  exact lv_lookup hx hb hd hs (by rw [e9]; exact ho1) ht (h p e s m args below meth c H locs ls C hH hS hl)
theorem g_ifnull {a : Nat} {off : Int} (hd : decode Y.2.1 pc = .ok (.ifnull off, 3)) (hp : pc + 3 = pc') (h : GoT l E Y kc ks pc' L st w Tg) : GoT l E Y kc ks pc L (.ref a :: st) w Tg := by
  intro p e s m args below meth c H locs ls C hH hS hl
  obtain ⟨hx, hb, hml, hr, ho, hts, hK, hlk, hnm, hbs⟩ := id C
  subst hp
  exact lv_ifnull hx hb hd (h p e s m args below meth c H locs ls C hH hS hl)
theorem g_ifnonnull {a : Nat} {off : Int} {t : Nat} (hd : decode Y.2.1 pc = .ok (.ifnonnull off, 3)) (ht : (pc : Int) + off = (t : Int)) (h : GoT l E Y kc ks t L st w Tg) : GoT l E Y kc ks pc L (.ref a :: st) w Tg := by
  intro p e s m args below meth c H locs ls C hH hS hl
  obtain ⟨hx, hb, hml, hr, ho, hts, hK, hlk, hnm, hbs⟩ := id C
  exact lv_ifnonnull hx hb hd ht (h p e s m args below meth c H locs ls C hH hS hl)
theorem g_ifnullN {off : Int} {t : Nat} (hd : decode Y.2.1 pc = .ok (.ifnull off, 3)) (ht : (pc : Int) + off = (t : Int)) (h : GoT l E Y kc ks t L st w Tg) : GoT l E Y kc ks pc L (.null :: st) w Tg := by
  intro p e s m args below meth c H locs ls C hH hS hl
  obtain ⟨hx, hb, hml, hr, ho, hts, hK, hlk, hnm, hbs⟩ := id C
  exact lv_ifnullN hx hb hd ht (h p e s m args below meth c H locs ls C hH hS hl)
theorem g_ifnonnullN {off : Int} (hd : decode Y.2.1 pc = .ok (.ifnonnull off, 3)) (hp : pc + 3 = pc') (h : GoT l E Y kc ks pc' L st w Tg) : GoT l E Y kc ks pc L (.null :: st) w Tg := by
  intro p e s m args below meth c H locs ls C hH hS hl
  obtain ⟨hx, hb, hml, hr, ho, hts, hK, hlk, hnm, hbs⟩ := id C
  subst hp
  exact lv_ifnonnullN hx hb hd (h p e s m args below meth c H locs ls C hH hS hl)
theorem g_iret {a : Int} (hd : decode Y.2.1 pc = .ok (.ireturn, 1)) (hrt : Y.2.2.2.1 = some .int) (hkc : kc ≤ Y.2.2.2.2.cells) (hks : ks ≤ Y.2.2.2.2.slots) (h : K (some (.int (iz a))) w) : Go l E Y kc ks pc L [.int (iz a)] w K := by
  intro p e s m args below meth c H locs ls C hH hS hl
  obtain ⟨hx, hb, hml, hr, ho, hts, hK, hlk, hnm, hbs⟩ := id C
  refine W.widen (k := Y.2.2.2.2.cells) (n := Y.2.2.2.2.slots) hkc hks ?_
  exact W.iret hx hb (hr.trans hrt) (fun t ht hW => ⟨⟨_, w, rfl, h, by rw [ht]; exact hH⟩, hS.F ht⟩) hS.2.2 hd hlk
theorem g_zret {a : Int} (hd : decode Y.2.1 pc = .ok (.ireturn, 1)) (hrt : Y.2.2.2.1 = some .boolean) (ha : a = 0 ∨ a = 1) (hkc : kc ≤ Y.2.2.2.2.cells) (hks : ks ≤ Y.2.2.2.2.slots) (h : K (some (.int (iz a))) w) : Go l E Y kc ks pc L [.int (iz a)] w K := by
  intro p e s m args below meth c H locs ls C hH hS hl
  obtain ⟨hx, hb, hml, hr, ho, hts, hK, hlk, hnm, hbs⟩ := id C
  refine W.widen (k := Y.2.2.2.2.cells) (n := Y.2.2.2.2.slots) hkc hks ?_
  exact W.zret hx hb (hr.trans hrt) (by rcases ha with rfl | rfl <;> rfl) (fun t ht hW => ⟨⟨_, w, rfl, h, by rw [ht]; exact hH⟩, hS.F ht⟩) hS.2.2 hd hlk
theorem g_lret {a : Int64} (hd : decode Y.2.1 pc = .ok (.lreturn, 1)) (hrt : Y.2.2.2.1 = some .long) (hkc : kc ≤ Y.2.2.2.2.cells) (hks : ks ≤ Y.2.2.2.2.slots) (h : K (some (.long a)) w) : Go l E Y kc ks pc L [.long a] w K := by
  intro p e s m args below meth c H locs ls C hH hS hl
  obtain ⟨hx, hb, hml, hr, ho, hts, hK, hlk, hnm, hbs⟩ := id C
  refine W.widen (k := Y.2.2.2.2.cells) (n := Y.2.2.2.2.slots) hkc hks ?_
  exact W.lret hx hb (hr.trans hrt) (fun t ht hW => ⟨⟨_, w, rfl, h, by rw [ht]; exact hH⟩, hS.F ht⟩) hS.2.2 hd hlk
theorem g_dret {a : UInt64} (hd : decode Y.2.1 pc = .ok (.dreturn, 1)) (hrt : Y.2.2.2.1 = some .double) (hkc : kc ≤ Y.2.2.2.2.cells) (hks : ks ≤ Y.2.2.2.2.slots) (h : K (some (.double a)) w) : Go l E Y kc ks pc L [.double a] w K := by
  intro p e s m args below meth c H locs ls C hH hS hl
  obtain ⟨hx, hb, hml, hr, ho, hts, hK, hlk, hnm, hbs⟩ := id C
  refine W.widen (k := Y.2.2.2.2.cells) (n := Y.2.2.2.2.slots) hkc hks ?_
  exact W.dret hx hb (hr.trans hrt) (fun t ht hW => ⟨⟨_, w, rfl, h, by rw [ht]; exact hH⟩, hS.F ht⟩) hS.2.2 hd hlk
theorem g_vret (hd : decode Y.2.1 pc = .ok (.return_, 1)) (hrt : Y.2.2.2.1 = none) (hkc : kc ≤ Y.2.2.2.2.cells) (hks : ks ≤ Y.2.2.2.2.slots) (h : K none w) : Go l E Y kc ks pc L [] w K := by
  intro p e s m args below meth c H locs ls C hH hS hl
  obtain ⟨hx, hb, hml, hr, ho, hts, hK, hlk, hnm, hbs⟩ := id C
  refine W.widen (k := Y.2.2.2.2.cells) (n := Y.2.2.2.2.slots) hkc hks ?_
  exact W.vret hx hb (hr.trans hrt) (fun t ht hW => ⟨⟨_, w, rfl, h, by rw [ht]; exact hH⟩, hS.F ht⟩) hS.2.2 hd hlk
theorem g_aret {v : Value} {C : String} (hd : decode Y.2.1 pc = .ok (.areturn, 1)) (hrt : Y.2.2.2.1 = some (.object C)) (hv : v = .null ∨ ∃ a, v = .ref a) (hkc : kc ≤ Y.2.2.2.2.cells) (hks : ks ≤ Y.2.2.2.2.slots) (h : K (some v) w) : Go l E Y kc ks pc L [v] w K := by
  intro p e s m args below meth c H locs ls C hH hS hl
  obtain ⟨hx, hb, hml, hr, ho, hts, hK, hlk, hnm, hbs⟩ := id C
  refine W.widen (k := Y.2.2.2.2.cells) (n := Y.2.2.2.2.slots) hkc hks ?_
  exact W.aret hx hb (hr.trans hrt) (Or.inl ⟨_, rfl⟩) hv (fun t ht hW => ⟨⟨_, w, rfl, h, by rw [ht]; exact hH⟩, hS.F ht⟩) hS.2.2 hd hlk
end Rows2
end
section
/-! ROWS 3: arrays, statics, calls -/
section Rows3
variable {l : Launch} {E : QE} {Y : QY} {kc ks pc pc' : Nat} {L : List (Option Value)} {st : List Value} {T : Nat → Nat × Nat} {I : Nat → Nat → Int} {J : Nat → Nat → Int64} {R : Nat → Nat → Option Nat} {n z : Nat} {w : QW} {K : Option Value → QW → Prop} {Tg : List Frame → Array Value → State → State → Prop}
theorem g_iald {k len : Nat} {i : Int} (hd : decode Y.2.1 pc = .ok (.iaload, 1)) (hp : pc + 1 = pc') (hT : T k = (6, len)) (hk : k < n) (hl9 : len < 2147483648) (hi : 0 ≤ i ∧ i < len)
    (h : GoT l E Y kc ks pc' L (.int (iz (I k i.toNat)) :: st) (T, I, J, R, n, z) Tg) : GoT l E Y kc ks pc L (.int (iz i) :: .ref (E.1 + k) :: st) (T, I, J, R, n, z) Tg := by
  intro p e s m args below meth c H locs ls C hH hS hl
  obtain ⟨hx, hb, hml, hr, ho, hts, hK, hlk, hnm, hbs⟩ := id C
  obtain ⟨q, hq⟩ := q_place (E := E) (w := (T, I, J, R, n, z)) hk
  rw [q_c_int hT (Or.inl rfl)] at hq
  subst hp
  refine va_iald hx hb hK.1 hH.1 q 0 hq rfl (vp_in_iz hi hl9) hd ?_
  rw [iz_cl hi.1 (by omega)]
  exact h p e s m args below meth c H locs ls C hH hS hl
theorem g_zald {k len : Nat} {i : Int} (hd : decode Y.2.1 pc = .ok (.baload, 1)) (hp : pc + 1 = pc') (hT : T k = (7, len)) (hk : k < n) (hl9 : len < 2147483648) (hi : 0 ≤ i ∧ i < len)
    (h : GoT l E Y kc ks pc' L (.int (iz (I k i.toNat)) :: st) (T, I, J, R, n, z) Tg) : GoT l E Y kc ks pc L (.int (iz i) :: .ref (E.1 + k) :: st) (T, I, J, R, n, z) Tg := by
  intro p e s m args below meth c H locs ls C hH hS hl
  obtain ⟨hx, hb, hml, hr, ho, hts, hK, hlk, hnm, hbs⟩ := id C
  obtain ⟨q, hq⟩ := q_place (E := E) (w := (T, I, J, R, n, z)) hk
  rw [q_c_int hT (Or.inr rfl)] at hq
  subst hp
  refine va_zald hx hb hK.1 hH.1 q 1 hq rfl (vp_in_iz hi hl9) hd ?_
  rw [iz_cl hi.1 (by omega)]
  exact h p e s m args below meth c H locs ls C hH hS hl
theorem g_lald {k len : Nat} {i : Int} (hd : decode Y.2.1 pc = .ok (.laload, 1)) (hp : pc + 1 = pc') (hT : T k = (10, len)) (hk : k < n) (hl9 : len < 2147483648) (hi : 0 ≤ i ∧ i < len)
    (h : GoT l E Y kc ks pc' L (.long (J k i.toNat) :: st) (T, I, J, R, n, z) Tg) : GoT l E Y kc ks pc L (.int (iz i) :: .ref (E.1 + k) :: st) (T, I, J, R, n, z) Tg := by
  intro p e s m args below meth c H locs ls C hH hS hl
  obtain ⟨hx, hb, hml, hr, ho, hts, hK, hlk, hnm, hbs⟩ := id C
  obtain ⟨q, hq⟩ := q_place (E := E) (w := (T, I, J, R, n, z)) hk
  rw [q_c_long hT] at hq
  subst hp
  refine va_lald hx hb hK.1 hH.1 q 4 hq rfl (vp_in_iz hi hl9) hd ?_
  rw [iz_cl hi.1 (by omega)]
  exact h p e s m args below meth c H locs ls C hH hS hl
theorem g_aald {k kd len a : Nat} {i : Int} (hd : decode Y.2.1 pc = .ok (.aaload, 1)) (hp : pc + 1 = pc') (hT : T k = (kd, len)) (hkd : kd = 8 ∨ kd = 9) (hk : k < n) (hl9 : len < 2147483648) (hi : 0 ≤ i ∧ i < len) (hR : R k i.toNat = some a)
    (h : GoT l E Y kc ks pc' L (.ref (E.1 + a) :: st) (T, I, J, R, n, z) Tg) : GoT l E Y kc ks pc L (.int (iz i) :: .ref (E.1 + k) :: st) (T, I, J, R, n, z) Tg := by
  intro p e s m args below meth c H locs ls C hH hS hl
  obtain ⟨hx, hb, hml, hr, ho, hts, hK, hlk, hnm, hbs⟩ := id C
  obtain ⟨q, hq⟩ := q_place (E := E) (w := (T, I, J, R, n, z)) hk
  rw [q_c_ref hT hkd] at hq
  subst hp
  have key : va_rf (((fun j => (R k j).map (E.1 + ·)) : Nat → Option Nat) (iz i).toNatClampNeg) = .ref (E.1 + a) := by
    rw [iz_cl hi.1 (by omega)]
    show va_rf ((R k i.toNat).map (E.1 + ·)) = _
    rw [hR]; rfl
  rcases hkd with rfl | rfl
  · refine va_aldq hx hb hK.1 hH.1 q 2 hq rfl (vp_in_iz hi hl9) hd ?_
    rw [key]
    exact h p e s m args below meth c H locs ls C hH hS hl
  · refine va_aldq hx hb hK.1 hH.1 q 3 hq rfl (vp_in_iz hi hl9) hd ?_
    rw [key]
    exact h p e s m args below meth c H locs ls C hH hS hl
theorem g_iast {k len : Nat} {i x : Int} (hd : decode Y.2.1 pc = .ok (.iastore, 1)) (hp : pc + 1 = pc') (hT : T k = (6, len)) (hk : k < n) (hl9 : len < 2147483648) (hi : 0 ≤ i ∧ i < len)
    (h : GoT l E Y kc ks pc' L st (T, u2 I k i.toNat x, J, R, n, z) Tg) : GoT l E Y kc ks pc L (.int (iz x) :: .int (iz i) :: .ref (E.1 + k) :: st) (T, I, J, R, n, z) Tg := by
  intro p e s m args below meth c H locs ls C hH hS hl
  obtain ⟨hx, hb, hml, hr, ho, hts, hK, hlk, hnm, hbs⟩ := id C
  obtain ⟨q, hq⟩ := q_place (E := E) (w := (T, I, J, R, n, z)) hk
  have hq0 := hq
  rw [q_c_int hT (Or.inl rfl)] at hq
  subst hp
  have e0 := q_upd (w' := (T, u2 I k i.toNat x, J, R, n, z)) hH.2.1 hk hq0 rfl rfl (fun a ha => q_c_row rfl (u2_ne ha) rfl rfl)
  rw [q_c_int (w := (T, u2 I k i.toNat x, J, R, n, z)) hT (Or.inl rfl)] at e0
  refine W.iast hx hb (hH.1 q _ hq) ((hK.1.2 0 _ rfl).1 len (fun j => .int (iz (I k j)))) (fun q => by cases q) (by show ¬ (_ ∨ (arrV _ _ _).slots.size ≤ _); rw [arrV_size]; exact vp_in_iz hi hl9) rfl rfl hd fun H1 e1 z1 oq => ?_
  have hP1 := hH.1.set hH.2.1 hq (e := .inl (E.2.2.1 6, len, .inl (fun j => iz (u2 I k i.toNat x k j)))) (by
    show H1[E.1 + k]? = some (vp_cell _ _)
    rw [e1]
    dsimp only
    rw [vp_cell_i, vp_cell_i, arrV_store, iz_cl hi.1 (by omega)]
    congr 2
    funext j
    rw [u2_eq]
    by_cases hj9 : j = i.toNat <;> simp [updV, hj9]) oq
  have hD1 := hH.2.1.set (e := .inl (E.2.2.1 6, len, .inl (fun j => iz (u2 I k i.toNat x k j)))) hq
  have hA := hH.2.1.2 q _ hq
  rw [e0] at hP1 hD1
  exact h p e s m args below meth c H1 _ ls C ⟨hP1, hD1, by rw [z1]; exact hH.2.2⟩ (hS.put z1 oq hA) hl
theorem g_zast {k len : Nat} {i x : Int} (hd : decode Y.2.1 pc = .ok (.bastore, 1)) (hp : pc + 1 = pc') (hT : T k = (7, len)) (hk : k < n) (hl9 : len < 2147483648) (hi : 0 ≤ i ∧ i < len) (hx9 : x = 0 ∨ x = 1)
    (h : GoT l E Y kc ks pc' L st (T, u2 I k i.toNat x, J, R, n, z) Tg) : GoT l E Y kc ks pc L (.int (iz x) :: .int (iz i) :: .ref (E.1 + k) :: st) (T, I, J, R, n, z) Tg := by
  intro p e s m args below meth c H locs ls C hH hS hl
  obtain ⟨hx, hb, hml, hr, ho, hts, hK, hlk, hnm, hbs⟩ := id C
  obtain ⟨q, hq⟩ := q_place (E := E) (w := (T, I, J, R, n, z)) hk
  have hq0 := hq
  rw [q_c_int hT (Or.inr rfl)] at hq
  subst hp
  have e0 := q_upd (w' := (T, u2 I k i.toNat x, J, R, n, z)) hH.2.1 hk hq0 rfl rfl (fun a ha => q_c_row rfl (u2_ne ha) rfl rfl)
  rw [q_c_int (w := (T, u2 I k i.toNat x, J, R, n, z)) hT (Or.inr rfl)] at e0
  have hnr : narrow .boolean (.int (iz x)) = .int (iz x) := by rcases hx9 with rfl | rfl <;> rfl
  refine W.zast hx hb (hH.1 q _ hq) ((hK.1.2 1 _ rfl).1 len (fun j => .int (iz (I k j)))) (fun q => by cases q) (by show ¬ (_ ∨ (arrV _ _ _).slots.size ≤ _); rw [arrV_size]; exact vp_in_iz hi hl9) rfl rfl hd fun H1 e1 z1 oq => ?_
  have hP1 := hH.1.set hH.2.1 hq (e := .inl (E.2.2.1 7, len, .inl (fun j => iz (u2 I k i.toNat x k j)))) (by
    show H1[E.1 + k]? = some (vp_cell _ _)
    rw [e1, hnr]
    dsimp only
    rw [vp_cell_i, vp_cell_i, arrV_store, iz_cl hi.1 (by omega)]
    congr 2
    funext j
    rw [u2_eq]
    by_cases hj9 : j = i.toNat <;> simp [updV, hj9]) oq
  have hD1 := hH.2.1.set (e := .inl (E.2.2.1 7, len, .inl (fun j => iz (u2 I k i.toNat x k j)))) hq
  have hA := hH.2.1.2 q _ hq
  rw [e0] at hP1 hD1
  exact h p e s m args below meth c H1 _ ls C ⟨hP1, hD1, by rw [z1]; exact hH.2.2⟩ (hS.put z1 oq hA) hl
theorem g_last {k len : Nat} {i : Int} {x : Int64} (hd : decode Y.2.1 pc = .ok (.lastore, 1)) (hp : pc + 1 = pc') (hT : T k = (10, len)) (hk : k < n) (hl9 : len < 2147483648) (hi : 0 ≤ i ∧ i < len)
    (h : GoT l E Y kc ks pc' L st (T, I, u2 J k i.toNat x, R, n, z) Tg) : GoT l E Y kc ks pc L (.long x :: .int (iz i) :: .ref (E.1 + k) :: st) (T, I, J, R, n, z) Tg := by
  intro p e s m args below meth c H locs ls C hH hS hl
  obtain ⟨hx, hb, hml, hr, ho, hts, hK, hlk, hnm, hbs⟩ := id C
  obtain ⟨q, hq⟩ := q_place (E := E) (w := (T, I, J, R, n, z)) hk
  have hq0 := hq
  rw [q_c_long hT] at hq
  subst hp
  have e0 := q_upd (w' := (T, I, u2 J k i.toNat x, R, n, z)) hH.2.1 hk hq0 rfl rfl (fun a ha => q_c_row rfl rfl (u2_ne ha) rfl)
  rw [q_c_long (w := (T, I, u2 J k i.toNat x, R, n, z)) hT] at e0
  refine W.last hx hb (hH.1 q _ hq) ((hK.1.2 4 _ rfl).1 len (fun j => .long (J k j))) (fun q => by cases q) (by show ¬ (_ ∨ (arrV _ _ _).slots.size ≤ _); rw [arrV_size]; exact vp_in_iz hi hl9) rfl rfl hd fun H1 e1 z1 oq => ?_
  have hP1 := hH.1.set hH.2.1 hq (e := .inl (E.2.2.1 10, len, .inr (.inl (u2 J k i.toNat x k)))) (by
    show H1[E.1 + k]? = some (vp_cell _ _)
    rw [e1]
    dsimp only
    rw [vp_cell_l, vp_cell_l, arrV_store, iz_cl hi.1 (by omega)]
    congr 2
    funext j
    rw [u2_eq]
    by_cases hj9 : j = i.toNat <;> simp [updV, hj9]) oq
  have hD1 := hH.2.1.set (e := .inl (E.2.2.1 10, len, .inr (.inl (u2 J k i.toNat x k)))) hq
  have hA := hH.2.1.2 q _ hq
  rw [e0] at hP1 hD1
  exact h p e s m args below meth c H1 _ ls C ⟨hP1, hD1, by rw [z1]; exact hH.2.2⟩ (hS.put z1 oq hA) hl
theorem g_aast {k kd ci len a la : Nat} {i : Int} (hd : decode Y.2.1 pc = .ok (.aastore, 1)) (hp : pc + 1 = pc') (hT : T k = (kd, len)) (hkd : kd = 8 ∧ ci = 1 ∨ kd = 9 ∧ ci = 3) (hk : k < n) (hl9 : len < 2147483648) (hi : 0 ≤ i ∧ i < len) (hTa : T a = (ci, la)) (ha : a < n)
    (h : GoT l E Y kc ks pc' L st (T, I, J, u2 R k i.toNat (some a), n, z) Tg) : GoT l E Y kc ks pc L (.ref (E.1 + a) :: .int (iz i) :: .ref (E.1 + k) :: st) (T, I, J, R, n, z) Tg := by
  intro p e s m args below meth c H locs ls C hH hS hl
  obtain ⟨hx, hb, hml, hr, ho, hts, hK, hlk, hnm, hbs⟩ := id C
  obtain ⟨q, hq⟩ := q_place (E := E) (w := (T, I, J, R, n, z)) hk
  obtain ⟨qa, hqa⟩ := q_place (E := E) (w := (T, I, J, R, n, z)) ha
  have hq0 := hq
  have hkd' : kd = 8 ∨ kd = 9 := by rcases hkd with h | h; exact Or.inl h.1; exact Or.inr h.1
  rw [q_c_ref hT hkd'] at hq
  rw [q_c_obj hTa (by rcases hkd with h | h <;> omega)] at hqa
  subst hp
  have e0 := q_upd (w' := (T, I, J, u2 R k i.toNat (some a), n, z)) hH.2.1 hk hq0 rfl rfl (fun a ha => q_c_row rfl rfl rfl (u2_ne ha))
  rw [q_c_ref (w := (T, I, J, u2 R k i.toNat (some a), n, z)) hT hkd'] at e0
  have hlt : (iz i).toNatClampNeg < len := by rw [iz_cl hi.1 (by omega)]; omega
  have h0 : ¬ iz i < 0 := by rw [iz_lt0 ⟨by omega, by omega⟩]; omega
  obtain ⟨r', hr', cellV, g1, g2, g3, -⟩ := hH.1 qa _ hqa
  have fin : ∀ (t0 : Nat) (rC : vw_C) (ht : (q_tys E)[t0]? = some (E.2.2.1 kd, .object rC.1)) (hc : vwCl[ci]? = some rC), W p l e Y.2.2.2.2 s m args below meth c H locs kc ks (Tg below args s) (F0 m pc ls (.ref (E.1 + a) :: .int (iz i) :: .ref (E.1 + k) :: st)) := by
    intro t0 rC ht hc
    have hcls := (hK.1.1 ci rC hc).2
    obtain ⟨kA, comp, k1, k2, k3, -⟩ := (hK.1.2 t0 _ ht).2
    have hcomp : comp = E.2.1.1 ci := Option.some.inj (k3.symm.trans hcls.1)
    subst hcomp
    obtain ⟨kC, hkC, -⟩ := hcls.2
    refine W.aast hx hb (hH.1 q _ hq) (fun q h => by cases h) (fun h => by cases h) k1 k2 rfl hkC ⟨h0, by show _ < (arrV _ _ _).slots.size; rw [arrV_size]; exact hlt⟩ g1 (fun q h => by rw [g3] at h; cases h) (by rw [g2]; exact hkC) (by rw [g2]; exact va_assign hcls) rfl rfl hd fun H1 e1 z1 oq => ?_
    have hP1 := hH.1.set hH.2.1 hq (e := .inl (E.2.2.1 kd, len, .inr (.inr (.inr (.inr (fun j => (u2 R k i.toNat (some a) k j).map (E.1 + ·))))))) (by
      show H1[E.1 + k]? = some (vp_cell _ _)
      rw [e1]
      dsimp only
      rw [vp_cell_q, vp_cell_q, arrV_store, iz_cl hi.1 (by omega)]
      congr 2
      funext j
      rw [u2_eq]
      by_cases hj9 : j = i.toNat <;> simp [updV, hj9, va_rf]) oq
    have hD1 := hH.2.1.set (e := .inl (E.2.2.1 kd, len, .inr (.inr (.inr (.inr (fun j => (u2 R k i.toNat (some a) k j).map (E.1 + ·))))))) hq
    have hA := hH.2.1.2 q _ hq
    rw [e0] at hP1 hD1
    exact h p e s m args below meth c H1 _ ls C ⟨hP1, hD1, by rw [z1]; exact hH.2.2⟩ (hS.put z1 oq hA) hl
  rcases hkd with ⟨rfl, rfl⟩ | ⟨rfl, rfl⟩
  · exact fin 2 (RX1, TX1, 9) rfl rfl
  · exact fin 3 (RX3, TX3, 8) rfl rfl
theorem g_alen {k kd len : Nat} (hd : decode Y.2.1 pc = .ok (.arraylength, 1)) (hp : pc + 1 = pc') (hT : T k = (kd, len)) (hkd : 6 ≤ kd ∧ kd ≤ 10) (hk : k < n)
    (h : GoT l E Y kc ks pc' L (.int (iz len) :: st) (T, I, J, R, n, z) Tg) : GoT l E Y kc ks pc L (.ref (E.1 + k) :: st) (T, I, J, R, n, z) Tg := by
  intro p e s m args below meth c H locs ls C hH hS hl
  obtain ⟨hx, hb, hml, hr, ho, hts, hK, hlk, hnm, hbs⟩ := id C
  obtain ⟨q, hq⟩ := q_place (E := E) (w := (T, I, J, R, n, z)) hk
  subst hp
  have hv : Int32.ofNat len = iz len := Int32.ofInt_eq_ofNat.symm
  have kk := h p e s m args below meth c H locs ls C hH hS hl
  rcases (show kd = 6 ∨ kd = 7 ∨ kd = 8 ∨ kd = 9 ∨ kd = 10 by omega) with rfl | rfl | rfl | rfl | rfl
  · rw [q_c_int hT (Or.inl rfl)] at hq; exact va_alen hx hb hK.1 hH.1 q 0 hq rfl hv hd kk
  · rw [q_c_int hT (Or.inr rfl)] at hq; exact va_alen hx hb hK.1 hH.1 q 1 hq rfl hv hd kk
  · rw [q_c_ref hT (Or.inl rfl)] at hq; exact va_alen hx hb hK.1 hH.1 q 2 hq rfl hv hd kk
  · rw [q_c_ref hT (Or.inr rfl)] at hq; exact va_alen hx hb hK.1 hH.1 q 3 hq rfl hv hd kk
  · rw [q_c_long hT] at hq; exact va_alen hx hb hK.1 hH.1 q 4 hq rfl hv hd kk
/-! the class's own tables -/
theorem g_gets {idx i : Nat} (hd : decode Y.2.1 pc = .ok (.getstatic idx, 3)) (hp : pc + 3 = pc') (hi : i < 4) (hw : Cond.fieldLink Y.1.cls idx RX4 (q_sn i) "[I" ∈ q_T)
    (h : GoT l E Y kc ks pc' L (.ref (E.2.2.2 i) :: st) w Tg) : GoT l E Y kc ks pc L st w Tg := by
  intro p e s m args below meth c H locs ls C hH hS hl
  obtain ⟨hx, hb, hml, hr, ho, hts, hK, hlk, hnm, hbs⟩ := id C
  subst hp
  exact va_gets hx hb (hK.2.2.1 i hi).1 hS ho (hts _ hw) (fun _ h9 => h9) hd (h p e s m args below meth c H locs ls C hH hS hl)
theorem g_getsN {idx i : Nat} (hd : decode Y.2.1 pc = .ok (.getstatic idx, 3)) (hp : pc + 3 = pc') (hi : i < 4) (hw : Cond.fieldLinkNest Y.1.cls idx RX4 (q_sn i) "[I" "ScratchMap" ∈ q_N)
    (h : GoT l E Y kc ks pc' L (.ref (E.2.2.2 i) :: st) w Tg) : GoT l E Y kc ks pc L st w Tg := by
  intro p e s m args below meth c H locs ls C hH hS hl
  obtain ⟨hx, hb, hml, hr, ho, hts, hK, hlk, hnm, hbs⟩ := id C
  subst hp
  exact va_getsN hx hb (hK.2.2.1 i hi).1 hS ho (va_Nw.use rfl (hK.2.1 _ hw)) (fun _ h9 => h9) hd (h p e s m args below meth c H locs ls C hH hS hl)
theorem g_sald {i : Nat} {j : Int} (hd : decode Y.2.1 pc = .ok (.iaload, 1)) (hp : pc + 1 = pc') (hi : i < 4) (hj : 0 ≤ j ∧ j < 3)
    (h : GoT l E Y kc ks pc' L (.int (iz (q_sv i j.toNat)) :: st) w Tg) : GoT l E Y kc ks pc L (.int (iz j) :: .ref (E.2.2.2 i) :: st) w Tg := by
  intro p e s m args below meth c H locs ls C hH hS hl
  obtain ⟨hx, hb, hml, hr, ho, hts, hK, hlk, hnm, hbs⟩ := id C
  subst hp
  refine va_ti hx hb (hK.2.2.1 i hi).2 hS (vp_in_iz hj (by decide)) (v := .int (iz (q_sv i j.toNat))) ?_ hd (h p e s m args below meth c H locs ls C hH hS hl)
  rw [iz_cl hj.1 (by omega)]
theorem g_slen {i : Nat} (hd : decode Y.2.1 pc = .ok (.arraylength, 1)) (hp : pc + 1 = pc') (hi : i < 4)
    (h : GoT l E Y kc ks pc' L (.int (iz 3) :: st) w Tg) : GoT l E Y kc ks pc L (.ref (E.2.2.2 i) :: st) w Tg := by
  intro p e s m args below meth c H locs ls C hH hS hl
  obtain ⟨hx, hb, hml, hr, ho, hts, hK, hlk, hnm, hbs⟩ := id C
  subst hp
  exact va_tlen hx hb (hK.2.2.1 i hi).2 hS (v := iz 3) (by decide) hd (h p e s m args below meth c H locs ls C hH hS hl)
end Rows3
end
section
/-! ROWS 4: a method as a whole; calls -/
def SpV (l : Launch) (E : QE) (Y : QY) (vs : List Value) (w : QW) (v : Value) (w' : QW) : Prop := Sp l E Y vs w (fun r1 w1 => r1 = some v ∧ w1 = w')
def SpN (l : Launch) (E : QE) (Y : QY) (vs : List Value) (w : QW) (w' : QW) : Prop := Sp l E Y vs w (fun r1 w1 => r1 = none ∧ w1 = w')
def q_cx (Y' : QY) (m : Nat) : Prop := Y'.1.cls ≠ "java/lang/invoke/MethodHandle" ∧ Y'.1.cls ≠ "java/lang/invoke/VarHandle" ∧ (parseMethodDescriptor Y'.1.desc).map (fun d => d.parameters.length) = some m
def q_cv (own : String) (idx : Nat) (Y' : QY) (m : Nat) : Prop := q_cx Y' m ∧ Cond.methodLink own idx Y'.1 ∈ q_T ∧ Cond.instanceMethod Y'.1 ∈ q_T ∧ Cond.selects Y'.1.cls Y'.1 Y'.1 ∈ q_T ∧ Cond.initialized Y'.1.cls ∈ q_T ∧ Cond.code Y'.1 Y'.2.1 Y'.2.2.1 Y'.2.2.2.1 ∈ q_T
def q_cs (own : String) (idx : Nat) (Y' : QY) (m : Nat) : Prop := q_cx Y' m ∧ Cond.methodLink own idx Y'.1 ∈ q_T ∧ Cond.static Y'.1 ∈ q_T ∧ Cond.initialized Y'.1.cls ∈ q_T ∧ Cond.code Y'.1 Y'.2.1 Y'.2.2.1 Y'.2.2.2.1 ∈ q_T
def q_csN (own : String) (idx : Nat) (Y' : QY) (m : Nat) : Prop := q_cx Y' m ∧ Cond.methodLinkNest own idx Y'.1 "ScratchMap" ∈ q_N ∧ Cond.static Y'.1 ∈ q_T ∧ Cond.initialized Y'.1.cls ∈ q_T ∧ Cond.code Y'.1 Y'.2.1 Y'.2.2.1 Y'.2.2.2.1 ∈ q_T
def q_ci (own : String) (idx : Nat) (Y' : QY) (m : Nat) : Prop := q_cx Y' m ∧ Cond.methodLink own idx Y'.1 ∈ q_T ∧ Cond.instanceMethod Y'.1 ∈ q_T ∧ Cond.initialized Y'.1.cls ∈ q_T ∧ Cond.code Y'.1 Y'.2.1 Y'.2.2.1 Y'.2.2.2.1 ∈ q_T ∧ Y'.1.name = "<init>" ∧ Y'.2.2.2.1 = none
def q_ciN (own : String) (idx : Nat) (Y' : QY) (m : Nat) : Prop := q_cx Y' m ∧ Cond.methodLinkNest own idx Y'.1 "ScratchMap" ∈ q_N ∧ Cond.instanceMethod Y'.1 ∈ q_T ∧ Cond.initialized Y'.1.cls ∈ q_T ∧ Cond.code Y'.1 Y'.2.1 Y'.2.2.1 Y'.2.2.2.1 ∈ q_T ∧ Y'.1.name = "<init>" ∧ Y'.2.2.2.1 = none
def q_fit (Y Y' : QY) (kc ks : Nat) : Bool := Nat.ble (Y'.2.2.2.2.frames + 1) Y.2.2.2.2.frames && Nat.ble (8 + (Y'.2.2.1 + 11) + Y'.2.2.2.2.locals) Y.2.2.2.2.locals && Nat.ble (kc + Y'.2.2.2.2.cells) Y.2.2.2.2.cells && Nat.ble (ks + Y'.2.2.2.2.slots) Y.2.2.2.2.slots
theorem q_fit_of {Y Y' : QY} {kc ks : Nat} (h : q_fit Y Y' kc ks = true) : (Y'.2.2.2.2.frames + 1 ≤ Y.2.2.2.2.frames ∧ 8 + (Y'.2.2.1 + 11) + Y'.2.2.2.2.locals ≤ Y.2.2.2.2.locals) ∧ kc + Y'.2.2.2.2.cells ≤ Y.2.2.2.2.cells ∧ ks + Y'.2.2.2.2.slots ≤ Y.2.2.2.2.slots := by
  simp only [q_fit, Bool.and_eq_true, Nat.ble_eq] at h
  exact ⟨⟨h.1.1.1, h.1.1.2⟩, h.1.2, h.2⟩
def q_cat (st : List Value) : Bool := Nat.ble (st.map fun v => v.category).sum 8
section Calls4
variable {l : Launch} {E : QE} {Y : QY} {kc ks pc pc' : Nat} {L : List (Option Value)} {st : List Value} {w : QW} {K : Option Value → QW → Prop} {Tg : List Frame → Array Value → State → State → Prop}
theorem Sp.of {vs : List Value} (L : List (Option Value)) (hy : plainName Y.1.cls = true) (hle : (lg_sl vs).length ≤ Y.2.2.1) (hL : ∀ q ∈ q_l 0 L, q ∈ lv_args 0 vs) (h : Go l E Y 0 0 0 L [] w K) : Sp l E Y vs w K := by
  refine Met.ofW (cc := Y.2.1) (maxL := Y.2.2.1) (ret := Y.2.2.2.1) hy rfl ?_
  intro p e s m args below meth c s₁ B hml hv
  obtain ⟨rfl, hH, hK⟩ := hv
  rw [lg_entry_eq]
  have hl := lv_entry vs (n := Y.2.2.1) hle
  exact h p e s m _ below meth c s.heap [] _ ⟨B.exec, B.bytes, hml, B.returns, findClass_of_methodNamed B.named, fun w hw => atoms_spec (ws := q_wsY Y) B.pre w (List.mem_cons_of_mem _ hw), hK, B.notSynchronized, (name_of_methodNamed B.named B.method).1, hH.2.2.1⟩ hH va_S.rf ⟨hl.1, hl.2.1, fun q hq => hl.2.2 q (hL q hq)⟩
theorem q_blind {vs : List Value} : FrameBlind (q_Pc E w vs) := fun a U g mk h => by
  obtain ⟨h1, h2, h3⟩ := h
  exact ⟨h1, h2, h3.to (U := U.calling g mk a) (State.WarmedH.refl U) (fun _ _ _ => rfl)⟩
theorem q_pre {vs : List Value} {p : Program} {s : State} {m : MethodId} {args : Array Value} {meth : Method} {c : Code} {H : Heap} {locs : List Loc} (C : q_At E Y p s m args meth c) (hH : q_H E w H) (hS : va_S (q_A E) s.heap H locs) : ∀ U : State, U.heap = H → s.WarmedH U.vm → q_Pc E w vs vs.toArray U := by
  intro U hU hW
  obtain ⟨hx, hb, hml, hr, ho, hts, hK, hlk, hnm, hbs⟩ := id C
  refine ⟨rfl, by rw [hU]; exact hH, ?_⟩
  rw [hU]
  exact hK.to hW (fun a h1 h2 => hS.2.1 a h1 h2)
theorem q_goes {p : Program} {e : Env} {s : State} {m : MethodId} {args : Array Value} {below : List Frame} {meth : Method} {c : Code} {H : Heap} {locs : List Loc} {R : Room} {Q : State → Prop} {mc ms : Nat} {ls : Array Slot} {st0 rest : List Value} {K' : Option Value → QW → Prop} {a : Array Value}
    (hr : va_Run p l e R s m args below meth c H locs kc ks mc ms (F0 m pc ls st0) rest (q_Qc E K' a) (q_A E)) (hS : va_S (q_A E) s.heap H locs)
    (kk : ∀ (r : Option Value) (w1 : QW) (H1 : Heap) (locs1 : List Loc), K' r w1 → q_H E w1 H1 → va_S (q_A E) s.heap H1 locs1 → W p l e R s m args below meth c H1 locs1 (kc + mc) (ks + ms) Q (F0 m (pc + 3) ls (r.toList ++ rest))) : W p l e R s m args below meth c H locs kc ks Q (F0 m pc ls st0) := by
  intro T hT X
  obtain ⟨v, st₀, t, T', L1, h0, X', hL, e1, e2, ⟨⟨r, w1, hv, hp, hb⟩, hz, hk⟩, st⟩ := hr T hT X
  cases hv
  rw [h0] at hz hk
  obtain ⟨t2, a1, b1⟩ := kk v w1 T'.heap (locs ++ L1) hp (by rw [e1]; exact hb)
    ⟨Nat.le_trans hS.1 (by rw [e1]; exact hz), fun q h1 h2 => by rw [e1, hk q (Nat.lt_of_lt_of_le h1 hS.1) h2]; exact hS.2.1 q h1 h2, fun q hq => by
      rcases List.mem_append.mp hq with h | h
      · exact hS.2.2 q h
      · exact hL q h⟩ T' rfl X'
  exact ⟨t2, st t2 a1, b1⟩
theorem g_callV {Y' : QY} {idx m0 k c len : Nat} {vs : List Value} {K' : Option Value → QW → Prop} (hM : Sp l E Y' (.ref (E.1 + k) :: vs) w K') (hd : decode Y.2.1 pc = .ok (.invokevirtual idx, 3)) (hp : pc + 3 = pc') (hc : q_cv Y.1.cls idx Y' m0) (hfit : q_fit Y Y' kc ks = true)
    (hT : w.1 k = (c, len)) (hk : k < w.2.2.2.2.1) (hcl : c < 6 ∧ ∃ q, vwCl[c]? = some q ∧ q.1 = Y'.1.cls) {stk : List Value} (hstk : stk = vs.reverse ++ .ref (E.1 + k) :: st) (hlen : vs.length = m0) (hcat : q_cat st = true)
    (h : ∀ r w1, K' r w1 → GoT l E Y (kc + Y'.2.2.2.2.cells) (ks + Y'.2.2.2.2.slots) pc' L (r.toList ++ st) w1 Tg) : GoT l E Y kc ks pc L stk w Tg := by
  intro p e s m args below meth c0 H locs ls C hH hS hl
  obtain ⟨hx, hb, hml, hr, ho, hts, hK, hlk, hnm, hbs⟩ := id C
  obtain ⟨hcx, h1, h2, h3, h4, h5⟩ := hc
  obtain ⟨hR, hf⟩ := q_fit_of hfit
  obtain ⟨q, hq⟩ := q_place (E := E) (w := w) hk
  obtain ⟨hc6, cl, hcl, hcn⟩ := hcl
  rw [q_c_obj hT hc6] at hq
  subst hp; subst hstk
  have hG : GoodIn q_T (wsV Y.1.cls idx Y'.1.cls Y'.1 (q_wsY Y')) := by
    intro w0 hw0
    rcases List.mem_append.mp hw0 with hw0 | hw0
    · simp only [List.mem_cons, List.not_mem_nil, or_false] at hw0
      rcases hw0 with rfl | rfl | rfl | rfl
      · exact ⟨h1, good_of_word (List.mem_filter.mp h1).2⟩
      · exact ⟨h2, good_of_word (List.mem_filter.mp h2).2⟩
      · exact ⟨h3, good_of_word (List.mem_filter.mp h3).2⟩
      · exact ⟨h4, good_of_word (List.mem_filter.mp h4).2⟩
    · exact q_good h5 w0 hw0
  have hrun := va_runV (p := p) (l := l) (e := e) (below := below) (meth := meth) (locs := locs) (cells := kc) (slots := ks) (As := vs) (rest := st) (Ts := q_T) (g := F0 m pc ls (vs.reverse ++ .ref (E.1 + k) :: st)) ⟨hx, hb, hml, ho, hts⟩ hM (cwV m0 hts hG rfl rfl rfl ⟨rfl, hcx⟩ hR) ⟨q_blind, by rw [← hcn]; exact va_recv hK.1 hH.1 hcl hq, q_pre C hH hS⟩ rfl hlen hl.1 rfl (lv_room (Nat.le_of_ble_eq_true hcat)) hd hf
  exact q_goes hrun hS (fun r w1 H1 locs1 hk1 hH1 hS1 => h r w1 hk1 p e s m args below meth c0 H1 locs1 ls C hH1 hS1 hl)
theorem g_callS {Y' : QY} {idx m0 : Nat} {vs : List Value} {K' : Option Value → QW → Prop} (hM : Sp l E Y' vs w K') (hd : decode Y.2.1 pc = .ok (.invokestatic idx, 3)) (hp : pc + 3 = pc') (hc : q_cs Y.1.cls idx Y' m0) (hfit : q_fit Y Y' kc ks = true)
    {stk : List Value} (hstk : stk = vs.reverse ++ st) (hlen : vs.length = m0) (hcat : q_cat st = true)
    (h : ∀ r w1, K' r w1 → GoT l E Y (kc + Y'.2.2.2.2.cells) (ks + Y'.2.2.2.2.slots) pc' L (r.toList ++ st) w1 Tg) : GoT l E Y kc ks pc L stk w Tg := by
  intro p e s m args below meth c0 H locs ls C hH hS hl
  obtain ⟨hx, hb, hml, hr, ho, hts, hK, hlk, hnm, hbs⟩ := id C
  obtain ⟨hcx, h1, h2, h4, h5⟩ := hc
  obtain ⟨hR, hf⟩ := q_fit_of hfit
  subst hp; subst hstk
  have hG : GoodIn q_T (va_wsS Y.1.cls idx Y'.1 (q_wsY Y')) := by
    intro w0 hw0
    rcases List.mem_append.mp hw0 with hw0 | hw0
    · simp only [List.mem_cons, List.not_mem_nil, or_false] at hw0
      rcases hw0 with rfl | rfl | rfl
      · exact ⟨h1, good_of_word (List.mem_filter.mp h1).2⟩
      · exact ⟨h2, good_of_word (List.mem_filter.mp h2).2⟩
      · exact ⟨h4, good_of_word (List.mem_filter.mp h4).2⟩
    · exact q_good h5 w0 hw0
  have hrun := va_runS (p := p) (l := l) (e := e) (below := below) (meth := meth) (locs := locs) (cells := kc) (slots := ks) (As := vs) (rest := st) (Ts := q_T) (g := F0 m pc ls (vs.reverse ++ st)) ⟨hx, hb, hml, ho, hts⟩ hM (va_cwS m0 hts hG rfl rfl rfl hcx hR) ⟨q_blind, q_pre C hH hS⟩ rfl hlen hl.1 rfl (lv_room (Nat.le_of_ble_eq_true hcat)) hd hf
  exact q_goes hrun hS (fun r w1 H1 locs1 hk1 hH1 hS1 => h r w1 hk1 p e s m args below meth c0 H1 locs1 ls C hH1 hS1 hl)
theorem g_callSN {Y' : QY} {idx m0 : Nat} {vs : List Value} {K' : Option Value → QW → Prop} (hM : Sp l E Y' vs w K') (hd : decode Y.2.1 pc = .ok (.invokestatic idx, 3)) (hp : pc + 3 = pc') (hc : q_csN Y.1.cls idx Y' m0) (hfit : q_fit Y Y' kc ks = true)
    {stk : List Value} (hstk : stk = vs.reverse ++ st) (hlen : vs.length = m0) (hcat : q_cat st = true)
    (h : ∀ r w1, K' r w1 → GoT l E Y (kc + Y'.2.2.2.2.cells) (ks + Y'.2.2.2.2.slots) pc' L (r.toList ++ st) w1 Tg) : GoT l E Y kc ks pc L stk w Tg := by
  intro p e s m args below meth c0 H locs ls C hH hS hl
  obtain ⟨hx, hb, hml, hr, ho, hts, hK, hlk, hnm, hbs⟩ := id C
  obtain ⟨hcx, h1, h2, h4, h5⟩ := hc
  obtain ⟨hR, hf⟩ := q_fit_of hfit
  subst hp; subst hstk
  have hrun := va_runSN (p := p) (l := l) (e := e) (below := below) (meth := meth) (locs := locs) (cells := kc) (slots := ks) (As := vs) (rest := st) (Ts := q_T) (g := F0 m pc ls (vs.reverse ++ st)) ⟨hx, hb, hml, ho, hts⟩ hM ⟨va_cnB m0 hts (q_good h5) rfl rfl rfl (hK.2.1 _ h1) (hts _ h4) hcx hR, hts _ h2, trivial⟩ ⟨q_blind, q_pre C hH hS⟩ rfl hlen hl.1 rfl (lv_room (Nat.le_of_ble_eq_true hcat)) hd hf
  exact q_goes hrun hS (fun r w1 H1 locs1 hk1 hH1 hS1 => h r w1 hk1 p e s m args below meth c0 H1 locs1 ls C hH1 hS1 hl)
theorem g_callI {Y' : QY} {idx m0 b : Nat} {vs : List Value} {K' : Option Value → QW → Prop} (hM : Sp l E Y' (.ref b :: vs) w K') (hd : decode Y.2.1 pc = .ok (.invokespecial idx, 3)) (hp : pc + 3 = pc') (hc : q_ci Y.1.cls idx Y' m0) (hfit : q_fit Y Y' kc ks = true)
    {stk : List Value} (hstk : stk = vs.reverse ++ .ref b :: st) (hlen : vs.length = m0) (hcat : q_cat st = true)
    (h : ∀ r w1, K' r w1 → GoT l E Y (kc + Y'.2.2.2.2.cells) (ks + Y'.2.2.2.2.slots) pc' L (r.toList ++ st) w1 Tg) : GoT l E Y kc ks pc L stk w Tg := by
  intro p e s m args below meth c0 H locs ls C hH hS hl
  obtain ⟨hx, hb, hml, hr, ho, hts, hK, hlk, hnm, hbs⟩ := id C
  obtain ⟨hcx, h1, h2, h4, h5, h6, h7⟩ := hc
  obtain ⟨hR, hf⟩ := q_fit_of hfit
  subst hp; subst hstk
  have hrun := va_runI (p := p) (l := l) (e := e) (below := below) (meth := meth) (locs := locs) (cells := kc) (slots := ks) (As := vs) (rest := st) (Ts := q_T) (g := F0 m pc ls (vs.reverse ++ .ref b :: st)) ⟨hx, hb, hml, ho, hts⟩ hM (cwI m0 hts (q_good h5) (by unfold q_wsY; rw [h7]) rfl rfl (hts _ h4) (hts _ h1) (hts _ h2) h6 hcx hR) ⟨q_blind, q_pre C hH hS⟩ rfl hlen hl.1 rfl (lv_room (Nat.le_of_ble_eq_true hcat)) hd hf
  exact q_goes hrun hS (fun r w1 H1 locs1 hk1 hH1 hS1 => h r w1 hk1 p e s m args below meth c0 H1 locs1 ls C hH1 hS1 hl)
theorem g_callIN {Y' : QY} {idx m0 b : Nat} {vs : List Value} {K' : Option Value → QW → Prop} (hM : Sp l E Y' (.ref b :: vs) w K') (hd : decode Y.2.1 pc = .ok (.invokespecial idx, 3)) (hp : pc + 3 = pc') (hc : q_ciN Y.1.cls idx Y' m0) (hfit : q_fit Y Y' kc ks = true)
    {stk : List Value} (hstk : stk = vs.reverse ++ .ref b :: st) (hlen : vs.length = m0) (hcat : q_cat st = true)
    (h : ∀ r w1, K' r w1 → GoT l E Y (kc + Y'.2.2.2.2.cells) (ks + Y'.2.2.2.2.slots) pc' L (r.toList ++ st) w1 Tg) : GoT l E Y kc ks pc L stk w Tg := by
  intro p e s m args below meth c0 H locs ls C hH hS hl
  obtain ⟨hx, hb, hml, hr, ho, hts, hK, hlk, hnm, hbs⟩ := id C
  obtain ⟨hcx, h1, h2, h4, h5, h6, h7⟩ := hc
  obtain ⟨hR, hf⟩ := q_fit_of hfit
  subst hp; subst hstk
  have hrun := va_runIN (p := p) (l := l) (e := e) (below := below) (meth := meth) (locs := locs) (cells := kc) (slots := ks) (As := vs) (rest := st) (Ts := q_T) (g := F0 m pc ls (vs.reverse ++ .ref b :: st)) ⟨hx, hb, hml, ho, hts⟩ hM ⟨va_cnB m0 hts (q_good h5) (by unfold q_wsY; rw [h7]) rfl rfl (hK.2.1 _ h1) (hts _ h4) hcx hR, h6, hts _ h2⟩ ⟨q_blind, q_pre C hH hS⟩ rfl hlen hl.1 rfl (lv_room (Nat.le_of_ble_eq_true hcat)) hd hf
  exact q_goes hrun hS (fun r w1 H1 locs1 hk1 hH1 hS1 => h r w1 hk1 p e s m args below meth c0 H1 locs1 ls C hH1 hS1 hl)
end Calls4
end
