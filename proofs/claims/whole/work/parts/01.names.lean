-- ===== PART A: goes FIRST, ahead of the names: the tables' words, and 'selects' of the private methods out of them =====
/-- a private method of a class that the tables say can be made, by its rows of tables_1 -/
def lw_okq (q : MethodName × Nat) : Prop := (q.1.cls ≠ "java/lang/invoke/MethodHandle" ∧ q.1.cls ≠ "java/lang/invoke/VarHandle") ∧ Cond.instantiable q.1.cls q.2 ∈ tables_1 ∧ Cond.privateMethod q.1 ∈ tables_1 ∧ Cond.instanceMethod q.1 ∈ tables_1
theorem lw_p0 : lw_okq (⟨"SharedSleeves$Reader", "skipBlanks", "()V"⟩, 6) := ⟨⟨by decide +kernel, by decide +kernel⟩, List.mem_of_getElem? (i := 26) (by decide +kernel), List.mem_of_getElem? (i := 291) (by decide +kernel), List.mem_of_getElem? (i := 292) (by decide +kernel)⟩
theorem lw_p1 : lw_okq (⟨"SharedSleeves$Reader", "readClause", "(LSharedSleeves$Town;)V"⟩, 6) := ⟨⟨by decide +kernel, by decide +kernel⟩, List.mem_of_getElem? (i := 26) (by decide +kernel), List.mem_of_getElem? (i := 295) (by decide +kernel), List.mem_of_getElem? (i := 296) (by decide +kernel)⟩
theorem lw_p2 : lw_okq (⟨"SharedSleeves$Reader", "skipLetters", "()V"⟩, 6) := ⟨⟨by decide +kernel, by decide +kernel⟩, List.mem_of_getElem? (i := 26) (by decide +kernel), List.mem_of_getElem? (i := 299) (by decide +kernel), List.mem_of_getElem? (i := 300) (by decide +kernel)⟩
theorem lw_p3 : lw_okq (⟨"SharedSleeves$Reader", "kindOfWord", "(I)I"⟩, 6) := ⟨⟨by decide +kernel, by decide +kernel⟩, List.mem_of_getElem? (i := 26) (by decide +kernel), List.mem_of_getElem? (i := 303) (by decide +kernel), List.mem_of_getElem? (i := 304) (by decide +kernel)⟩
theorem lw_p4 : lw_okq (⟨"SharedSleeves$Reader", "isWord", "(ILjava/lang/String;)Z"⟩, 6) := ⟨⟨by decide +kernel, by decide +kernel⟩, List.mem_of_getElem? (i := 26) (by decide +kernel), List.mem_of_getElem? (i := 308) (by decide +kernel), List.mem_of_getElem? (i := 309) (by decide +kernel)⟩
theorem lw_p5 : lw_okq (⟨"SharedSleeves$Reader", "fail", "(II)V"⟩, 6) := ⟨⟨by decide +kernel, by decide +kernel⟩, List.mem_of_getElem? (i := 26) (by decide +kernel), List.mem_of_getElem? (i := 364) (by decide +kernel), List.mem_of_getElem? (i := 365) (by decide +kernel)⟩
theorem lw_p6 : lw_okq (⟨"SharedSleeves$Reader", "isOneTooMany", "(LSharedSleeves$Town;I)Z"⟩, 6) := ⟨⟨by decide +kernel, by decide +kernel⟩, List.mem_of_getElem? (i := 26) (by decide +kernel), List.mem_of_getElem? (i := 368) (by decide +kernel), List.mem_of_getElem? (i := 369) (by decide +kernel)⟩
theorem lw_p7 : lw_okq (⟨"SharedSleeves$Reader", "readPeople", "(LSharedSleeves$Town;)V"⟩, 6) := ⟨⟨by decide +kernel, by decide +kernel⟩, List.mem_of_getElem? (i := 26) (by decide +kernel), List.mem_of_getElem? (i := 372) (by decide +kernel), List.mem_of_getElem? (i := 373) (by decide +kernel)⟩
theorem lw_p8 : lw_okq (⟨"SharedSleeves$Reader", "readNumber", "(II)I"⟩, 6) := ⟨⟨by decide +kernel, by decide +kernel⟩, List.mem_of_getElem? (i := 26) (by decide +kernel), List.mem_of_getElem? (i := 376) (by decide +kernel), List.mem_of_getElem? (i := 377) (by decide +kernel)⟩
theorem lw_p9 : lw_okq (⟨"SharedSleeves$Reader", "clauseEnds", "()Z"⟩, 6) := ⟨⟨by decide +kernel, by decide +kernel⟩, List.mem_of_getElem? (i := 26) (by decide +kernel), List.mem_of_getElem? (i := 380) (by decide +kernel), List.mem_of_getElem? (i := 381) (by decide +kernel)⟩
theorem lw_p10 : lw_okq (⟨"SharedSleeves$Reader", "readCoat", "(LSharedSleeves$Town;)V"⟩, 6) := ⟨⟨by decide +kernel, by decide +kernel⟩, List.mem_of_getElem? (i := 26) (by decide +kernel), List.mem_of_getElem? (i := 384) (by decide +kernel), List.mem_of_getElem? (i := 385) (by decide +kernel)⟩
theorem lw_p11 : lw_okq (⟨"SharedSleeves$Reader", "readOther", "(LSharedSleeves$Town;I)I"⟩, 6) := ⟨⟨by decide +kernel, by decide +kernel⟩, List.mem_of_getElem? (i := 26) (by decide +kernel), List.mem_of_getElem? (i := 388) (by decide +kernel), List.mem_of_getElem? (i := 389) (by decide +kernel)⟩
theorem lw_p12 : lw_okq (⟨"SharedSleeves$Reader", "readGoes", "(LSharedSleeves$Town;)V"⟩, 6) := ⟨⟨by decide +kernel, by decide +kernel⟩, List.mem_of_getElem? (i := 26) (by decide +kernel), List.mem_of_getElem? (i := 396) (by decide +kernel), List.mem_of_getElem? (i := 397) (by decide +kernel)⟩
theorem lw_p13 : lw_okq (⟨"SharedSleeves$Reader", "readLikes", "(LSharedSleeves$Town;)V"⟩, 6) := ⟨⟨by decide +kernel, by decide +kernel⟩, List.mem_of_getElem? (i := 26) (by decide +kernel), List.mem_of_getElem? (i := 408) (by decide +kernel), List.mem_of_getElem? (i := 409) (by decide +kernel)⟩
theorem lw_p14 : lw_okq (⟨"SharedSleeves$Reader", "readFrost", "(LSharedSleeves$Town;)V"⟩, 6) := ⟨⟨by decide +kernel, by decide +kernel⟩, List.mem_of_getElem? (i := 26) (by decide +kernel), List.mem_of_getElem? (i := 420) (by decide +kernel), List.mem_of_getElem? (i := 421) (by decide +kernel)⟩
theorem lw_p15 : lw_okq (⟨"SharedSleeves$Wardrobe", "layOut", "(LSharedSleeves$Town;II)V"⟩, 5) := ⟨⟨by decide +kernel, by decide +kernel⟩, List.mem_of_getElem? (i := 52) (by decide +kernel), List.mem_of_getElem? (i := 465) (by decide +kernel), List.mem_of_getElem? (i := 466) (by decide +kernel)⟩
def lw_privs_1 : List (MethodName × Nat) := [(⟨"SharedSleeves$Reader", "skipBlanks", "()V"⟩, 6), (⟨"SharedSleeves$Reader", "readClause", "(LSharedSleeves$Town;)V"⟩, 6), (⟨"SharedSleeves$Reader", "skipLetters", "()V"⟩, 6), (⟨"SharedSleeves$Reader", "kindOfWord", "(I)I"⟩, 6), (⟨"SharedSleeves$Reader", "isWord", "(ILjava/lang/String;)Z"⟩, 6), (⟨"SharedSleeves$Reader", "fail", "(II)V"⟩, 6), (⟨"SharedSleeves$Reader", "isOneTooMany", "(LSharedSleeves$Town;I)Z"⟩, 6), (⟨"SharedSleeves$Reader", "readPeople", "(LSharedSleeves$Town;)V"⟩, 6), (⟨"SharedSleeves$Reader", "readNumber", "(II)I"⟩, 6), (⟨"SharedSleeves$Reader", "clauseEnds", "()Z"⟩, 6), (⟨"SharedSleeves$Reader", "readCoat", "(LSharedSleeves$Town;)V"⟩, 6), (⟨"SharedSleeves$Reader", "readOther", "(LSharedSleeves$Town;I)I"⟩, 6), (⟨"SharedSleeves$Reader", "readGoes", "(LSharedSleeves$Town;)V"⟩, 6), (⟨"SharedSleeves$Reader", "readLikes", "(LSharedSleeves$Town;)V"⟩, 6), (⟨"SharedSleeves$Reader", "readFrost", "(LSharedSleeves$Town;)V"⟩, 6), (⟨"SharedSleeves$Wardrobe", "layOut", "(LSharedSleeves$Town;II)V"⟩, 5)]
theorem lw_r1 : ∀ q ∈ lw_privs_1, lw_okq q := List.forall_mem_cons.mpr ⟨lw_p0, List.forall_mem_cons.mpr ⟨lw_p1, List.forall_mem_cons.mpr ⟨lw_p2, List.forall_mem_cons.mpr ⟨lw_p3, List.forall_mem_cons.mpr ⟨lw_p4, List.forall_mem_cons.mpr ⟨lw_p5, List.forall_mem_cons.mpr ⟨lw_p6, List.forall_mem_cons.mpr ⟨lw_p7, List.forall_mem_cons.mpr ⟨lw_p8, List.forall_mem_cons.mpr ⟨lw_p9, List.forall_mem_cons.mpr ⟨lw_p10, List.forall_mem_cons.mpr ⟨lw_p11, List.forall_mem_cons.mpr ⟨lw_p12, List.forall_mem_cons.mpr ⟨lw_p13, List.forall_mem_cons.mpr ⟨lw_p14, List.forall_mem_cons.mpr ⟨lw_p15, fun _ h => absurd h List.not_mem_nil⟩⟩⟩⟩⟩⟩⟩⟩⟩⟩⟩⟩⟩⟩⟩⟩
theorem lw_p16 : lw_okq (⟨"SharedSleeves$Wardrobe", "findConcerned", "(I)V"⟩, 5) := ⟨⟨by decide +kernel, by decide +kernel⟩, List.mem_of_getElem? (i := 52) (by decide +kernel), List.mem_of_getElem? (i := 490) (by decide +kernel), List.mem_of_getElem? (i := 491) (by decide +kernel)⟩
theorem lw_p17 : lw_okq (⟨"SharedSleeves$Wardrobe", "outOwners", "(I)I"⟩, 5) := ⟨⟨by decide +kernel, by decide +kernel⟩, List.mem_of_getElem? (i := 52) (by decide +kernel), List.mem_of_getElem? (i := 494) (by decide +kernel), List.mem_of_getElem? (i := 495) (by decide +kernel)⟩
theorem lw_p18 : lw_okq (⟨"SharedSleeves$Wardrobe", "weigh", "(I)V"⟩, 5) := ⟨⟨by decide +kernel, by decide +kernel⟩, List.mem_of_getElem? (i := 52) (by decide +kernel), List.mem_of_getElem? (i := 501) (by decide +kernel), List.mem_of_getElem? (i := 502) (by decide +kernel)⟩
theorem lw_p19 : lw_okq (⟨"SharedSleeves$Wardrobe", "firstBest", "(II)I"⟩, 5) := ⟨⟨by decide +kernel, by decide +kernel⟩, List.mem_of_getElem? (i := 52) (by decide +kernel), List.mem_of_getElem? (i := 505) (by decide +kernel), List.mem_of_getElem? (i := 506) (by decide +kernel)⟩
theorem lw_p20 : lw_okq (⟨"SharedSleeves$Wardrobe", "sparedBy", "(III)I"⟩, 5) := ⟨⟨by decide +kernel, by decide +kernel⟩, List.mem_of_getElem? (i := 52) (by decide +kernel), List.mem_of_getElem? (i := 509) (by decide +kernel), List.mem_of_getElem? (i := 510) (by decide +kernel)⟩
theorem lw_p21 : lw_okq (⟨"SharedSleeves$Net", "spread", "(LSharedSleeves$Town;I)V"⟩, 3) := ⟨⟨by decide +kernel, by decide +kernel⟩, List.mem_of_getElem? (i := 91) (by decide +kernel), List.mem_of_getElem? (i := 521) (by decide +kernel), List.mem_of_getElem? (i := 522) (by decide +kernel)⟩
theorem lw_p22 : lw_okq (⟨"SharedSleeves$Net", "kindBy", "(II)I"⟩, 3) := ⟨⟨by decide +kernel, by decide +kernel⟩, List.mem_of_getElem? (i := 91) (by decide +kernel), List.mem_of_getElem? (i := 573) (by decide +kernel), List.mem_of_getElem? (i := 574) (by decide +kernel)⟩
theorem lw_p23 : lw_okq (⟨"SharedSleeves$Planner", "findDressable", "(LSharedSleeves$Town;)V"⟩, 2) := ⟨⟨by decide +kernel, by decide +kernel⟩, List.mem_of_getElem? (i := 77) (by decide +kernel), List.mem_of_getElem? (i := 665) (by decide +kernel), List.mem_of_getElem? (i := 666) (by decide +kernel)⟩
theorem lw_p24 : lw_okq (⟨"SharedSleeves$Planner", "findUnderWay", "(LSharedSleeves$Town;)V"⟩, 2) := ⟨⟨by decide +kernel, by decide +kernel⟩, List.mem_of_getElem? (i := 77) (by decide +kernel), List.mem_of_getElem? (i := 670) (by decide +kernel), List.mem_of_getElem? (i := 671) (by decide +kernel)⟩
theorem lw_p25 : lw_okq (⟨"SharedSleeves$Planner", "canBeDone", "(LSharedSleeves$Town;I)Z"⟩, 2) := ⟨⟨by decide +kernel, by decide +kernel⟩, List.mem_of_getElem? (i := 77) (by decide +kernel), List.mem_of_getElem? (i := 675) (by decide +kernel), List.mem_of_getElem? (i := 676) (by decide +kernel)⟩
theorem lw_p26 : lw_okq (⟨"SharedSleeves", "chillIfCut", "(I)I"⟩, 11) := ⟨⟨by decide +kernel, by decide +kernel⟩, List.mem_of_getElem? (i := 18) (by decide +kernel), List.mem_of_getElem? (i := 686) (by decide +kernel), List.mem_of_getElem? (i := 687) (by decide +kernel)⟩
theorem lw_p27 : lw_okq (⟨"SharedSleeves", "ownersThere", "(I)I"⟩, 11) := ⟨⟨by decide +kernel, by decide +kernel⟩, List.mem_of_getElem? (i := 18) (by decide +kernel), List.mem_of_getElem? (i := 707) (by decide +kernel), List.mem_of_getElem? (i := 708) (by decide +kernel)⟩
theorem lw_p28 : lw_okq (⟨"SharedSleeves", "wasSeenElsewhere", "(I)Z"⟩, 11) := ⟨⟨by decide +kernel, by decide +kernel⟩, List.mem_of_getElem? (i := 18) (by decide +kernel), List.mem_of_getElem? (i := 715) (by decide +kernel), List.mem_of_getElem? (i := 716) (by decide +kernel)⟩
theorem lw_p29 : lw_okq (⟨"SharedSleeves", "isWrong", "(I)Z"⟩, 11) := ⟨⟨by decide +kernel, by decide +kernel⟩, List.mem_of_getElem? (i := 18) (by decide +kernel), List.mem_of_getElem? (i := 735) (by decide +kernel), List.mem_of_getElem? (i := 736) (by decide +kernel)⟩
theorem lw_p30 : lw_okq (⟨"SharedSleeves", "draw", "(I)I"⟩, 11) := ⟨⟨by decide +kernel, by decide +kernel⟩, List.mem_of_getElem? (i := 18) (by decide +kernel), List.mem_of_getElem? (i := 744) (by decide +kernel), List.mem_of_getElem? (i := 745) (by decide +kernel)⟩
theorem lw_p31 : lw_okq (⟨"SharedSleeves", "sellByDraws", "()V"⟩, 11) := ⟨⟨by decide +kernel, by decide +kernel⟩, List.mem_of_getElem? (i := 18) (by decide +kernel), List.mem_of_getElem? (i := 752) (by decide +kernel), List.mem_of_getElem? (i := 753) (by decide +kernel)⟩
def lw_privs_2 : List (MethodName × Nat) := [(⟨"SharedSleeves$Wardrobe", "findConcerned", "(I)V"⟩, 5), (⟨"SharedSleeves$Wardrobe", "outOwners", "(I)I"⟩, 5), (⟨"SharedSleeves$Wardrobe", "weigh", "(I)V"⟩, 5), (⟨"SharedSleeves$Wardrobe", "firstBest", "(II)I"⟩, 5), (⟨"SharedSleeves$Wardrobe", "sparedBy", "(III)I"⟩, 5), (⟨"SharedSleeves$Net", "spread", "(LSharedSleeves$Town;I)V"⟩, 3), (⟨"SharedSleeves$Net", "kindBy", "(II)I"⟩, 3), (⟨"SharedSleeves$Planner", "findDressable", "(LSharedSleeves$Town;)V"⟩, 2), (⟨"SharedSleeves$Planner", "findUnderWay", "(LSharedSleeves$Town;)V"⟩, 2), (⟨"SharedSleeves$Planner", "canBeDone", "(LSharedSleeves$Town;I)Z"⟩, 2), (⟨"SharedSleeves", "chillIfCut", "(I)I"⟩, 11), (⟨"SharedSleeves", "ownersThere", "(I)I"⟩, 11), (⟨"SharedSleeves", "wasSeenElsewhere", "(I)Z"⟩, 11), (⟨"SharedSleeves", "isWrong", "(I)Z"⟩, 11), (⟨"SharedSleeves", "draw", "(I)I"⟩, 11), (⟨"SharedSleeves", "sellByDraws", "()V"⟩, 11)]
theorem lw_r2 : ∀ q ∈ lw_privs_2, lw_okq q := List.forall_mem_cons.mpr ⟨lw_p16, List.forall_mem_cons.mpr ⟨lw_p17, List.forall_mem_cons.mpr ⟨lw_p18, List.forall_mem_cons.mpr ⟨lw_p19, List.forall_mem_cons.mpr ⟨lw_p20, List.forall_mem_cons.mpr ⟨lw_p21, List.forall_mem_cons.mpr ⟨lw_p22, List.forall_mem_cons.mpr ⟨lw_p23, List.forall_mem_cons.mpr ⟨lw_p24, List.forall_mem_cons.mpr ⟨lw_p25, List.forall_mem_cons.mpr ⟨lw_p26, List.forall_mem_cons.mpr ⟨lw_p27, List.forall_mem_cons.mpr ⟨lw_p28, List.forall_mem_cons.mpr ⟨lw_p29, List.forall_mem_cons.mpr ⟨lw_p30, List.forall_mem_cons.mpr ⟨lw_p31, fun _ h => absurd h List.not_mem_nil⟩⟩⟩⟩⟩⟩⟩⟩⟩⟩⟩⟩⟩⟩⟩⟩
theorem lw_p32 : lw_okq (⟨"SharedSleevesModel", "begin", "()V"⟩, 29) := ⟨⟨by decide +kernel, by decide +kernel⟩, List.mem_of_getElem? (i := 779) (by decide +kernel), List.mem_of_getElem? (i := 888) (by decide +kernel), List.mem_of_getElem? (i := 889) (by decide +kernel)⟩
theorem lw_p33 : lw_okq (⟨"SharedSleevesModel", "here", "()I"⟩, 29) := ⟨⟨by decide +kernel, by decide +kernel⟩, List.mem_of_getElem? (i := 779) (by decide +kernel), List.mem_of_getElem? (i := 892) (by decide +kernel), List.mem_of_getElem? (i := 893) (by decide +kernel)⟩
theorem lw_p34 : lw_okq (⟨"SharedSleevesModel", "takeClause", "()V"⟩, 29) := ⟨⟨by decide +kernel, by decide +kernel⟩, List.mem_of_getElem? (i := 779) (by decide +kernel), List.mem_of_getElem? (i := 896) (by decide +kernel), List.mem_of_getElem? (i := 897) (by decide +kernel)⟩
theorem lw_p35 : lw_okq (⟨"SharedSleevesModel", "takeWord", "()V"⟩, 29) := ⟨⟨by decide +kernel, by decide +kernel⟩, List.mem_of_getElem? (i := 779) (by decide +kernel), List.mem_of_getElem? (i := 900) (by decide +kernel), List.mem_of_getElem? (i := 901) (by decide +kernel)⟩
theorem lw_p36 : lw_okq (⟨"SharedSleevesModel", "isWord", "(IIIIIII)Z"⟩, 29) := ⟨⟨by decide +kernel, by decide +kernel⟩, List.mem_of_getElem? (i := 779) (by decide +kernel), List.mem_of_getElem? (i := 906) (by decide +kernel), List.mem_of_getElem? (i := 907) (by decide +kernel)⟩
theorem lw_p37 : lw_okq (⟨"SharedSleevesModel", "want", "(ZII)Z"⟩, 29) := ⟨⟨by decide +kernel, by decide +kernel⟩, List.mem_of_getElem? (i := 779) (by decide +kernel), List.mem_of_getElem? (i := 910) (by decide +kernel), List.mem_of_getElem? (i := 911) (by decide +kernel)⟩
theorem lw_p38 : lw_okq (⟨"SharedSleevesModel", "takeNumber", "(II)I"⟩, 29) := ⟨⟨by decide +kernel, by decide +kernel⟩, List.mem_of_getElem? (i := 779) (by decide +kernel), List.mem_of_getElem? (i := 914) (by decide +kernel), List.mem_of_getElem? (i := 915) (by decide +kernel)⟩
theorem lw_p39 : lw_okq (⟨"SharedSleevesModel", "takeCoat", "()V"⟩, 29) := ⟨⟨by decide +kernel, by decide +kernel⟩, List.mem_of_getElem? (i := 779) (by decide +kernel), List.mem_of_getElem? (i := 921) (by decide +kernel), List.mem_of_getElem? (i := 922) (by decide +kernel)⟩
theorem lw_p40 : lw_okq (⟨"SharedSleevesModel", "takePerson", "()I"⟩, 29) := ⟨⟨by decide +kernel, by decide +kernel⟩, List.mem_of_getElem? (i := 779) (by decide +kernel), List.mem_of_getElem? (i := 925) (by decide +kernel), List.mem_of_getElem? (i := 926) (by decide +kernel)⟩
theorem lw_p41 : lw_okq (⟨"SharedSleevesModel", "takeErrand", "()V"⟩, 29) := ⟨⟨by decide +kernel, by decide +kernel⟩, List.mem_of_getElem? (i := 779) (by decide +kernel), List.mem_of_getElem? (i := 929) (by decide +kernel), List.mem_of_getElem? (i := 930) (by decide +kernel)⟩
theorem lw_p42 : lw_okq (⟨"SharedSleevesModel", "isBusy", "(III)Z"⟩, 29) := ⟨⟨by decide +kernel, by decide +kernel⟩, List.mem_of_getElem? (i := 779) (by decide +kernel), List.mem_of_getElem? (i := 933) (by decide +kernel), List.mem_of_getElem? (i := 934) (by decide +kernel)⟩
theorem lw_p43 : lw_okq (⟨"SharedSleevesModel", "takeLike", "()V"⟩, 29) := ⟨⟨by decide +kernel, by decide +kernel⟩, List.mem_of_getElem? (i := 779) (by decide +kernel), List.mem_of_getElem? (i := 937) (by decide +kernel), List.mem_of_getElem? (i := 938) (by decide +kernel)⟩
theorem lw_p44 : lw_okq (⟨"SharedSleevesModel", "dayChill", "()I"⟩, 29) := ⟨⟨by decide +kernel, by decide +kernel⟩, List.mem_of_getElem? (i := 779) (by decide +kernel), List.mem_of_getElem? (i := 949) (by decide +kernel), List.mem_of_getElem? (i := 950) (by decide +kernel)⟩
theorem lw_p45 : lw_okq (⟨"SharedSleevesModel", "hourChill", "(I)I"⟩, 29) := ⟨⟨by decide +kernel, by decide +kernel⟩, List.mem_of_getElem? (i := 779) (by decide +kernel), List.mem_of_getElem? (i := 953) (by decide +kernel), List.mem_of_getElem? (i := 954) (by decide +kernel)⟩
theorem lw_p46 : lw_okq (⟨"SharedSleevesModel", "outMany", "(I)I"⟩, 29) := ⟨⟨by decide +kernel, by decide +kernel⟩, List.mem_of_getElem? (i := 779) (by decide +kernel), List.mem_of_getElem? (i := 957) (by decide +kernel), List.mem_of_getElem? (i := 958) (by decide +kernel)⟩
theorem lw_p47 : lw_okq (⟨"SharedSleevesModel", "isOut", "(II)Z"⟩, 29) := ⟨⟨by decide +kernel, by decide +kernel⟩, List.mem_of_getElem? (i := 779) (by decide +kernel), List.mem_of_getElem? (i := 961) (by decide +kernel), List.mem_of_getElem? (i := 962) (by decide +kernel)⟩
def lw_privs_3 : List (MethodName × Nat) := [(⟨"SharedSleevesModel", "begin", "()V"⟩, 29), (⟨"SharedSleevesModel", "here", "()I"⟩, 29), (⟨"SharedSleevesModel", "takeClause", "()V"⟩, 29), (⟨"SharedSleevesModel", "takeWord", "()V"⟩, 29), (⟨"SharedSleevesModel", "isWord", "(IIIIIII)Z"⟩, 29), (⟨"SharedSleevesModel", "want", "(ZII)Z"⟩, 29), (⟨"SharedSleevesModel", "takeNumber", "(II)I"⟩, 29), (⟨"SharedSleevesModel", "takeCoat", "()V"⟩, 29), (⟨"SharedSleevesModel", "takePerson", "()I"⟩, 29), (⟨"SharedSleevesModel", "takeErrand", "()V"⟩, 29), (⟨"SharedSleevesModel", "isBusy", "(III)Z"⟩, 29), (⟨"SharedSleevesModel", "takeLike", "()V"⟩, 29), (⟨"SharedSleevesModel", "dayChill", "()I"⟩, 29), (⟨"SharedSleevesModel", "hourChill", "(I)I"⟩, 29), (⟨"SharedSleevesModel", "outMany", "(I)I"⟩, 29), (⟨"SharedSleevesModel", "isOut", "(II)Z"⟩, 29)]
theorem lw_r3 : ∀ q ∈ lw_privs_3, lw_okq q := List.forall_mem_cons.mpr ⟨lw_p32, List.forall_mem_cons.mpr ⟨lw_p33, List.forall_mem_cons.mpr ⟨lw_p34, List.forall_mem_cons.mpr ⟨lw_p35, List.forall_mem_cons.mpr ⟨lw_p36, List.forall_mem_cons.mpr ⟨lw_p37, List.forall_mem_cons.mpr ⟨lw_p38, List.forall_mem_cons.mpr ⟨lw_p39, List.forall_mem_cons.mpr ⟨lw_p40, List.forall_mem_cons.mpr ⟨lw_p41, List.forall_mem_cons.mpr ⟨lw_p42, List.forall_mem_cons.mpr ⟨lw_p43, List.forall_mem_cons.mpr ⟨lw_p44, List.forall_mem_cons.mpr ⟨lw_p45, List.forall_mem_cons.mpr ⟨lw_p46, List.forall_mem_cons.mpr ⟨lw_p47, fun _ h => absurd h List.not_mem_nil⟩⟩⟩⟩⟩⟩⟩⟩⟩⟩⟩⟩⟩⟩⟩⟩
theorem lw_p48 : lw_okq (⟨"SharedSleevesModel", "whereIs", "(II)I"⟩, 29) := ⟨⟨by decide +kernel, by decide +kernel⟩, List.mem_of_getElem? (i := 779) (by decide +kernel), List.mem_of_getElem? (i := 965) (by decide +kernel), List.mem_of_getElem? (i := 966) (by decide +kernel)⟩
theorem lw_p49 : lw_okq (⟨"SharedSleevesModel", "whereBy", "(III)I"⟩, 29) := ⟨⟨by decide +kernel, by decide +kernel⟩, List.mem_of_getElem? (i := 779) (by decide +kernel), List.mem_of_getElem? (i := 969) (by decide +kernel), List.mem_of_getElem? (i := 970) (by decide +kernel)⟩
theorem lw_p50 : lw_okq (⟨"SharedSleevesModel", "findWearing", "(I)V"⟩, 29) := ⟨⟨by decide +kernel, by decide +kernel⟩, List.mem_of_getElem? (i := 779) (by decide +kernel), List.mem_of_getElem? (i := 979) (by decide +kernel), List.mem_of_getElem? (i := 980) (by decide +kernel)⟩
theorem lw_p51 : lw_okq (⟨"SharedSleevesModel", "cladBy", "(III)I"⟩, 29) := ⟨⟨by decide +kernel, by decide +kernel⟩, List.mem_of_getElem? (i := 779) (by decide +kernel), List.mem_of_getElem? (i := 983) (by decide +kernel), List.mem_of_getElem? (i := 984) (by decide +kernel)⟩
theorem lw_p52 : lw_okq (⟨"SharedSleevesModel", "isCut", "(I)Z"⟩, 29) := ⟨⟨by decide +kernel, by decide +kernel⟩, List.mem_of_getElem? (i := 779) (by decide +kernel), List.mem_of_getElem? (i := 987) (by decide +kernel), List.mem_of_getElem? (i := 988) (by decide +kernel)⟩
theorem lw_p53 : lw_okq (⟨"SharedSleevesModel", "savedBy", "(II)I"⟩, 29) := ⟨⟨by decide +kernel, by decide +kernel⟩, List.mem_of_getElem? (i := 779) (by decide +kernel), List.mem_of_getElem? (i := 991) (by decide +kernel), List.mem_of_getElem? (i := 992) (by decide +kernel)⟩
theorem lw_p54 : lw_okq (⟨"SharedSleevesModel", "saving", "(I)I"⟩, 29) := ⟨⟨by decide +kernel, by decide +kernel⟩, List.mem_of_getElem? (i := 779) (by decide +kernel), List.mem_of_getElem? (i := 995) (by decide +kernel), List.mem_of_getElem? (i := 996) (by decide +kernel)⟩
theorem lw_p55 : lw_okq (⟨"SharedSleevesModel", "netMany", "()I"⟩, 29) := ⟨⟨by decide +kernel, by decide +kernel⟩, List.mem_of_getElem? (i := 779) (by decide +kernel), List.mem_of_getElem? (i := 999) (by decide +kernel), List.mem_of_getElem? (i := 1000) (by decide +kernel)⟩
theorem lw_p56 : lw_okq (⟨"SharedSleevesModel", "netOf", "(I)I"⟩, 29) := ⟨⟨by decide +kernel, by decide +kernel⟩, List.mem_of_getElem? (i := 779) (by decide +kernel), List.mem_of_getElem? (i := 1003) (by decide +kernel), List.mem_of_getElem? (i := 1004) (by decide +kernel)⟩
theorem lw_p57 : lw_okq (⟨"SharedSleevesModel", "isCoat", "(I)Z"⟩, 29) := ⟨⟨by decide +kernel, by decide +kernel⟩, List.mem_of_getElem? (i := 779) (by decide +kernel), List.mem_of_getElem? (i := 1011) (by decide +kernel), List.mem_of_getElem? (i := 1012) (by decide +kernel)⟩
theorem lw_p58 : lw_okq (⟨"SharedSleevesModel", "isPerson", "(I)Z"⟩, 29) := ⟨⟨by decide +kernel, by decide +kernel⟩, List.mem_of_getElem? (i := 779) (by decide +kernel), List.mem_of_getElem? (i := 1024) (by decide +kernel), List.mem_of_getElem? (i := 1025) (by decide +kernel)⟩
theorem lw_p59 : lw_okq (⟨"SharedSleevesModel", "kindOf", "(I)I"⟩, 29) := ⟨⟨by decide +kernel, by decide +kernel⟩, List.mem_of_getElem? (i := 779) (by decide +kernel), List.mem_of_getElem? (i := 1037) (by decide +kernel), List.mem_of_getElem? (i := 1038) (by decide +kernel)⟩
theorem lw_p60 : lw_okq (⟨"SharedSleevesModel", "coatsIn", "(I)I"⟩, 29) := ⟨⟨by decide +kernel, by decide +kernel⟩, List.mem_of_getElem? (i := 779) (by decide +kernel), List.mem_of_getElem? (i := 1044) (by decide +kernel), List.mem_of_getElem? (i := 1045) (by decide +kernel)⟩
theorem lw_p61 : lw_okq (⟨"SharedSleevesModel", "coatsOf", "(I)I"⟩, 29) := ⟨⟨by decide +kernel, by decide +kernel⟩, List.mem_of_getElem? (i := 779) (by decide +kernel), List.mem_of_getElem? (i := 1048) (by decide +kernel), List.mem_of_getElem? (i := 1049) (by decide +kernel)⟩
theorem lw_p62 : lw_okq (⟨"SharedSleevesModel", "canBuy", "(II)Z"⟩, 29) := ⟨⟨by decide +kernel, by decide +kernel⟩, List.mem_of_getElem? (i := 779) (by decide +kernel), List.mem_of_getElem? (i := 1056) (by decide +kernel), List.mem_of_getElem? (i := 1057) (by decide +kernel)⟩
theorem lw_p63 : lw_okq (⟨"SharedSleevesModel", "chooseWearing", "(I)V"⟩, 29) := ⟨⟨by decide +kernel, by decide +kernel⟩, List.mem_of_getElem? (i := 779) (by decide +kernel), List.mem_of_getElem? (i := 1074) (by decide +kernel), List.mem_of_getElem? (i := 1075) (by decide +kernel)⟩
def lw_privs_4 : List (MethodName × Nat) := [(⟨"SharedSleevesModel", "whereIs", "(II)I"⟩, 29), (⟨"SharedSleevesModel", "whereBy", "(III)I"⟩, 29), (⟨"SharedSleevesModel", "findWearing", "(I)V"⟩, 29), (⟨"SharedSleevesModel", "cladBy", "(III)I"⟩, 29), (⟨"SharedSleevesModel", "isCut", "(I)Z"⟩, 29), (⟨"SharedSleevesModel", "savedBy", "(II)I"⟩, 29), (⟨"SharedSleevesModel", "saving", "(I)I"⟩, 29), (⟨"SharedSleevesModel", "netMany", "()I"⟩, 29), (⟨"SharedSleevesModel", "netOf", "(I)I"⟩, 29), (⟨"SharedSleevesModel", "isCoat", "(I)Z"⟩, 29), (⟨"SharedSleevesModel", "isPerson", "(I)Z"⟩, 29), (⟨"SharedSleevesModel", "kindOf", "(I)I"⟩, 29), (⟨"SharedSleevesModel", "coatsIn", "(I)I"⟩, 29), (⟨"SharedSleevesModel", "coatsOf", "(I)I"⟩, 29), (⟨"SharedSleevesModel", "canBuy", "(II)Z"⟩, 29), (⟨"SharedSleevesModel", "chooseWearing", "(I)V"⟩, 29)]
theorem lw_r4 : ∀ q ∈ lw_privs_4, lw_okq q := List.forall_mem_cons.mpr ⟨lw_p48, List.forall_mem_cons.mpr ⟨lw_p49, List.forall_mem_cons.mpr ⟨lw_p50, List.forall_mem_cons.mpr ⟨lw_p51, List.forall_mem_cons.mpr ⟨lw_p52, List.forall_mem_cons.mpr ⟨lw_p53, List.forall_mem_cons.mpr ⟨lw_p54, List.forall_mem_cons.mpr ⟨lw_p55, List.forall_mem_cons.mpr ⟨lw_p56, List.forall_mem_cons.mpr ⟨lw_p57, List.forall_mem_cons.mpr ⟨lw_p58, List.forall_mem_cons.mpr ⟨lw_p59, List.forall_mem_cons.mpr ⟨lw_p60, List.forall_mem_cons.mpr ⟨lw_p61, List.forall_mem_cons.mpr ⟨lw_p62, List.forall_mem_cons.mpr ⟨lw_p63, fun _ h => absurd h List.not_mem_nil⟩⟩⟩⟩⟩⟩⟩⟩⟩⟩⟩⟩⟩⟩⟩⟩
theorem lw_p64 : lw_okq (⟨"SharedSleevesModel", "wishOf", "(I)I"⟩, 29) := ⟨⟨by decide +kernel, by decide +kernel⟩, List.mem_of_getElem? (i := 779) (by decide +kernel), List.mem_of_getElem? (i := 1090) (by decide +kernel), List.mem_of_getElem? (i := 1091) (by decide +kernel)⟩
theorem lw_p65 : lw_okq (⟨"SharedSleevesModel", "swapFirst", "()Z"⟩, 29) := ⟨⟨by decide +kernel, by decide +kernel⟩, List.mem_of_getElem? (i := 779) (by decide +kernel), List.mem_of_getElem? (i := 1098) (by decide +kernel), List.mem_of_getElem? (i := 1099) (by decide +kernel)⟩
theorem lw_p66 : lw_okq (⟨"SharedSleevesModel", "swaps", "(IIII)Z"⟩, 29) := ⟨⟨by decide +kernel, by decide +kernel⟩, List.mem_of_getElem? (i := 779) (by decide +kernel), List.mem_of_getElem? (i := 1102) (by decide +kernel), List.mem_of_getElem? (i := 1103) (by decide +kernel)⟩
theorem lw_p67 : lw_okq (⟨"SharedSleevesModel", "exchange", "(II)V"⟩, 29) := ⟨⟨by decide +kernel, by decide +kernel⟩, List.mem_of_getElem? (i := 779) (by decide +kernel), List.mem_of_getElem? (i := 1106) (by decide +kernel), List.mem_of_getElem? (i := 1107) (by decide +kernel)⟩
theorem lw_p68 : lw_okq (⟨"SharedSleevesModel", "canAll", "(I)Z"⟩, 29) := ⟨⟨by decide +kernel, by decide +kernel⟩, List.mem_of_getElem? (i := 779) (by decide +kernel), List.mem_of_getElem? (i := 1114) (by decide +kernel), List.mem_of_getElem? (i := 1115) (by decide +kernel)⟩
theorem lw_p69 : lw_okq (⟨"SharedSleevesModel", "hasHalf", "(I)Z"⟩, 29) := ⟨⟨by decide +kernel, by decide +kernel⟩, List.mem_of_getElem? (i := 779) (by decide +kernel), List.mem_of_getElem? (i := 1118) (by decide +kernel), List.mem_of_getElem? (i := 1119) (by decide +kernel)⟩
theorem lw_p70 : lw_okq (⟨"SharedSleevesModel", "areClad", "(I)Z"⟩, 29) := ⟨⟨by decide +kernel, by decide +kernel⟩, List.mem_of_getElem? (i := 779) (by decide +kernel), List.mem_of_getElem? (i := 1122) (by decide +kernel), List.mem_of_getElem? (i := 1123) (by decide +kernel)⟩
theorem lw_p71 : lw_okq (⟨"SharedSleevesModel", "gainOf", "(I)I"⟩, 29) := ⟨⟨by decide +kernel, by decide +kernel⟩, List.mem_of_getElem? (i := 779) (by decide +kernel), List.mem_of_getElem? (i := 1130) (by decide +kernel), List.mem_of_getElem? (i := 1131) (by decide +kernel)⟩
theorem lw_p72 : lw_okq (⟨"SharedSleevesModel", "woreAt", "(I)I"⟩, 29) := ⟨⟨by decide +kernel, by decide +kernel⟩, List.mem_of_getElem? (i := 779) (by decide +kernel), List.mem_of_getElem? (i := 1147) (by decide +kernel), List.mem_of_getElem? (i := 1148) (by decide +kernel)⟩
theorem lw_p73 : lw_okq (⟨"SharedSleevesModel", "draw", "(I)I"⟩, 29) := ⟨⟨by decide +kernel, by decide +kernel⟩, List.mem_of_getElem? (i := 779) (by decide +kernel), List.mem_of_getElem? (i := 1172) (by decide +kernel), List.mem_of_getElem? (i := 1173) (by decide +kernel)⟩
theorem lw_p74 : lw_okq (⟨"SharedSleevesModel", "copy", "(II)V"⟩, 29) := ⟨⟨by decide +kernel, by decide +kernel⟩, List.mem_of_getElem? (i := 779) (by decide +kernel), List.mem_of_getElem? (i := 1188) (by decide +kernel), List.mem_of_getElem? (i := 1189) (by decide +kernel)⟩
def lw_privs_5 : List (MethodName × Nat) := [(⟨"SharedSleevesModel", "wishOf", "(I)I"⟩, 29), (⟨"SharedSleevesModel", "swapFirst", "()Z"⟩, 29), (⟨"SharedSleevesModel", "swaps", "(IIII)Z"⟩, 29), (⟨"SharedSleevesModel", "exchange", "(II)V"⟩, 29), (⟨"SharedSleevesModel", "canAll", "(I)Z"⟩, 29), (⟨"SharedSleevesModel", "hasHalf", "(I)Z"⟩, 29), (⟨"SharedSleevesModel", "areClad", "(I)Z"⟩, 29), (⟨"SharedSleevesModel", "gainOf", "(I)I"⟩, 29), (⟨"SharedSleevesModel", "woreAt", "(I)I"⟩, 29), (⟨"SharedSleevesModel", "draw", "(I)I"⟩, 29), (⟨"SharedSleevesModel", "copy", "(II)V"⟩, 29)]
theorem lw_r5 : ∀ q ∈ lw_privs_5, lw_okq q := List.forall_mem_cons.mpr ⟨lw_p64, List.forall_mem_cons.mpr ⟨lw_p65, List.forall_mem_cons.mpr ⟨lw_p66, List.forall_mem_cons.mpr ⟨lw_p67, List.forall_mem_cons.mpr ⟨lw_p68, List.forall_mem_cons.mpr ⟨lw_p69, List.forall_mem_cons.mpr ⟨lw_p70, List.forall_mem_cons.mpr ⟨lw_p71, List.forall_mem_cons.mpr ⟨lw_p72, List.forall_mem_cons.mpr ⟨lw_p73, List.forall_mem_cons.mpr ⟨lw_p74, fun _ h => absurd h List.not_mem_nil⟩⟩⟩⟩⟩⟩⟩⟩⟩⟩⟩
def lw_privs : List (MethodName × Nat) := lw_privs_1 ++ (lw_privs_2 ++ (lw_privs_3 ++ (lw_privs_4 ++ (lw_privs_5))))
def lw_tbl : List Cond := k2_sels lw_privs ++ tables_1
theorem lw_privs_ok : ∀ q ∈ lw_privs, lw_okq q := by
  show ∀ q ∈ lw_privs_1 ++ (lw_privs_2 ++ (lw_privs_3 ++ (lw_privs_4 ++ (lw_privs_5)))), lw_okq q
  exact List.forall_mem_append.mpr ⟨lw_r1, List.forall_mem_append.mpr ⟨lw_r2, List.forall_mem_append.mpr ⟨lw_r3, List.forall_mem_append.mpr ⟨lw_r4, lw_r5⟩⟩⟩⟩
-- ===== end of PART A; then your names; then what follows =====
def RX0 : String := "SharedSleeves$Image"
def TX0 : u_T := fun k => match k with
  | 0 => ("SharedSleeves$Image", "kept", "Z", false)
  | 1 => ("SharedSleeves$Image", "seedThen", "J", false)
  | 2 => ("SharedSleeves$Image", "frostThen", "I", false)
  | 3 => ("SharedSleeves$Image", "cutThen", "I", false)
  | _ => ("SharedSleeves$Image", "ownerThen", "[[I", true)
def tyX0 : Nat → FieldType := fun k => match k with
  | 0 => .boolean
  | 1 => .long
  | 2 => .int
  | 3 => .int
  | _ => .array (.array .int)
abbrev wsX00 : List Cond := u_ws RX0 TX0 5
theorem nmX0 : ∀ a, a < 5 → ∀ b, b < 5 → a ≠ b → (TX0 a).2.1 ≠ (TX0 b).2.1 := by decide +kernel
theorem tyX0_ok : ∀ k, k < 5 → parseFieldDescriptor (TX0 k).2.2.1 = some (tyX0 k) := by decide +kernel
abbrev cX0_init : ByteArray := prog_2_method_1_code
def yX0_init : MethodName := ⟨RX0, "<init>", "()V"⟩
abbrev cX0_take : ByteArray := prog_2_method_2_code
def yX0_take : MethodName := ⟨RX0, "take", "(LSharedSleeves$Town;J)V"⟩
abbrev cX0_giveBack : ByteArray := prog_2_method_3_code
def yX0_giveBack : MethodName := ⟨RX0, "giveBack", "(LSharedSleeves$Town;)V"⟩
abbrev cX0_copyOwners : ByteArray := prog_2_method_4_code
def yX0_copyOwners : MethodName := ⟨RX0, "copyOwners", "([[I[[I)V"⟩
def RX1 : String := "SharedSleeves$Market"
def TX1 : u_T := fun k => match k with
  | _ => ("", "", "", false)
def tyX1 : Nat → FieldType := fun k => match k with
  | _ => .int
abbrev wsX10 : List Cond := u_ws RX1 TX1 0
theorem nmX1 : ∀ a, a < 0 → ∀ b, b < 0 → a ≠ b → (TX1 a).2.1 ≠ (TX1 b).2.1 := by decide +kernel
theorem tyX1_ok : ∀ k, k < 0 → parseFieldDescriptor (TX1 k).2.2.1 = some (tyX1 k) := by decide +kernel
abbrev cX1_wishOf : ByteArray := prog_3_method_2_code
def yX1_wishOf : MethodName := ⟨RX1, "wishOf", "(LSharedSleeves$Town;I)I"⟩
abbrev cX1_swapFirst : ByteArray := prog_3_method_3_code
def yX1_swapFirst : MethodName := ⟨RX1, "swapFirst", "(LSharedSleeves$Town;)Z"⟩
abbrev cX1_ownerOf : ByteArray := prog_3_method_4_code
def yX1_ownerOf : MethodName := ⟨RX1, "ownerOf", "(LSharedSleeves$Town;I)I"⟩
abbrev cX1_maySwap : ByteArray := prog_3_method_5_code
def yX1_maySwap : MethodName := ⟨RX1, "maySwap", "(LSharedSleeves$Town;II)Z"⟩
abbrev cX1_isSwapped : ByteArray := prog_3_method_6_code
def yX1_isSwapped : MethodName := ⟨RX1, "isSwapped", "(LSharedSleeves$Town;II)Z"⟩
abbrev cX1_changeOwners : ByteArray := prog_3_method_7_code
def yX1_changeOwners : MethodName := ⟨RX1, "changeOwners", "(LSharedSleeves$Town;II)V"⟩
def RX2 : String := "SharedSleeves$Net"
def TX2 : u_T := fun k => match k with
  | 0 => ("SharedSleeves$Net", "peopleSet", "I", false)
  | 1 => ("SharedSleeves$Net", "coatSet", "I", false)
  | _ => ("SharedSleeves$Net", "kind", "I", false)
def tyX2 : Nat → FieldType := fun k => match k with
  | 0 => .int
  | 1 => .int
  | _ => .int
abbrev wsX20 : List Cond := u_ws RX2 TX2 3
theorem nmX2 : ∀ a, a < 3 → ∀ b, b < 3 → a ≠ b → (TX2 a).2.1 ≠ (TX2 b).2.1 := by decide +kernel
theorem tyX2_ok : ∀ k, k < 3 → parseFieldDescriptor (TX2 k).2.2.1 = some (tyX2 k) := by decide +kernel
abbrev cX2_init : ByteArray := prog_4_method_1_code
def yX2_init : MethodName := ⟨RX2, "<init>", "()V"⟩
abbrev cX2_countAll : ByteArray := prog_4_method_2_code
def yX2_countAll : MethodName := ⟨RX2, "countAll", "(LSharedSleeves$Town;)I"⟩
abbrev cX2_trace : ByteArray := prog_4_method_3_code
def yX2_trace : MethodName := ⟨RX2, "trace", "(LSharedSleeves$Town;I)V"⟩
abbrev cX2_minutesAtDoor : ByteArray := prog_4_method_4_code
def yX2_minutesAtDoor : MethodName := ⟨RX2, "minutesAtDoor", "()I"⟩
abbrev cX2_kindBy : ByteArray := prog_4_method_5_code
def yX2_kindBy : MethodName := ⟨RX2, "kindBy", "(II)I"⟩
abbrev cX2_spread : ByteArray := prog_4_method_6_code
def yX2_spread : MethodName := ⟨RX2, "spread", "(LSharedSleeves$Town;I)V"⟩
abbrev cX2_wholeCoatsOf : ByteArray := prog_4_method_7_code
def yX2_wholeCoatsOf : MethodName := ⟨RX2, "wholeCoatsOf", "(LSharedSleeves$Town;I)I"⟩
def RX3 : String := "SharedSleeves$Planner"
def TX3 : u_T := fun k => match k with
  | 0 => ("SharedSleeves$Planner", "dressable", "[Z", true)
  | _ => ("SharedSleeves$Planner", "underWay", "[I", true)
def tyX3 : Nat → FieldType := fun k => match k with
  | 0 => .array .boolean
  | _ => .array .int
abbrev wsX30 : List Cond := u_ws RX3 TX3 2
theorem nmX3 : ∀ a, a < 2 → ∀ b, b < 2 → a ≠ b → (TX3 a).2.1 ≠ (TX3 b).2.1 := by decide +kernel
theorem tyX3_ok : ∀ k, k < 2 → parseFieldDescriptor (TX3 k).2.2.1 = some (tyX3 k) := by decide +kernel
abbrev cX3_init : ByteArray := prog_5_method_1_code
def yX3_init : MethodName := ⟨RX3, "<init>", "()V"⟩
abbrev cX3_mostErrands : ByteArray := prog_5_method_2_code
def yX3_mostErrands : MethodName := ⟨RX3, "mostErrands", "(LSharedSleeves$Town;)I"⟩
abbrev cX3_findDressable : ByteArray := prog_5_method_3_code
def yX3_findDressable : MethodName := ⟨RX3, "findDressable", "(LSharedSleeves$Town;)V"⟩
abbrev cX3_findUnderWay : ByteArray := prog_5_method_4_code
def yX3_findUnderWay : MethodName := ⟨RX3, "findUnderWay", "(LSharedSleeves$Town;)V"⟩
abbrev cX3_canBeDone : ByteArray := prog_5_method_5_code
def yX3_canBeDone : MethodName := ⟨RX3, "canBeDone", "(LSharedSleeves$Town;I)Z"⟩
abbrev cX3_peopleOf : ByteArray := prog_5_method_6_code
def yX3_peopleOf : MethodName := ⟨RX3, "peopleOf", "(LSharedSleeves$Town;I)I"⟩
def RX4 : String := "SharedSleeves$Reader"
def TX4 : u_T := fun k => match k with
  | 0 => ("SharedSleeves$Reader", "text", "[I", true)
  | 1 => ("SharedSleeves$Reader", "length", "I", false)
  | 2 => ("SharedSleeves$Reader", "at", "I", false)
  | 3 => ("SharedSleeves$Reader", "found", "I", false)
  | 4 => ("SharedSleeves$Reader", "placeFound", "I", false)
  | _ => ("SharedSleeves$Reader", "numberPlace", "I", false)
def tyX4 : Nat → FieldType := fun k => match k with
  | 0 => .array .int
  | 1 => .int
  | 2 => .int
  | 3 => .int
  | 4 => .int
  | _ => .int
abbrev wsX40 : List Cond := u_ws RX4 TX4 6
theorem nmX4 : ∀ a, a < 6 → ∀ b, b < 6 → a ≠ b → (TX4 a).2.1 ≠ (TX4 b).2.1 := by decide +kernel
theorem tyX4_ok : ∀ k, k < 6 → parseFieldDescriptor (TX4 k).2.2.1 = some (tyX4 k) := by decide +kernel
abbrev cX4_init : ByteArray := prog_6_method_1_code
def yX4_init : MethodName := ⟨RX4, "<init>", "()V"⟩
abbrev cX4_size : ByteArray := prog_6_method_2_code
def yX4_size : MethodName := ⟨RX4, "size", "()I"⟩
abbrev cX4_empty : ByteArray := prog_6_method_3_code
def yX4_empty : MethodName := ⟨RX4, "empty", "()V"⟩
abbrev cX4_foundPlace : ByteArray := prog_6_method_4_code
def yX4_foundPlace : MethodName := ⟨RX4, "foundPlace", "()I"⟩
abbrev cX4_append : ByteArray := prog_6_method_5_code
def yX4_append : MethodName := ⟨RX4, "append", "(IJ)I"⟩
abbrev cX4_readInto : ByteArray := prog_6_method_6_code
def yX4_readInto : MethodName := ⟨RX4, "readInto", "(LSharedSleeves$Town;)I"⟩
abbrev cX4_readClause : ByteArray := prog_6_method_7_code
def yX4_readClause : MethodName := ⟨RX4, "readClause", "(LSharedSleeves$Town;)V"⟩
abbrev cX4_isOneTooMany : ByteArray := prog_6_method_8_code
def yX4_isOneTooMany : MethodName := ⟨RX4, "isOneTooMany", "(LSharedSleeves$Town;I)Z"⟩
abbrev cX4_readPeople : ByteArray := prog_6_method_9_code
def yX4_readPeople : MethodName := ⟨RX4, "readPeople", "(LSharedSleeves$Town;)V"⟩
abbrev cX4_readCoat : ByteArray := prog_6_method_10_code
def yX4_readCoat : MethodName := ⟨RX4, "readCoat", "(LSharedSleeves$Town;)V"⟩
abbrev cX4_readGoes : ByteArray := prog_6_method_11_code
def yX4_readGoes : MethodName := ⟨RX4, "readGoes", "(LSharedSleeves$Town;)V"⟩
abbrev cX4_readLikes : ByteArray := prog_6_method_12_code
def yX4_readLikes : MethodName := ⟨RX4, "readLikes", "(LSharedSleeves$Town;)V"⟩
abbrev cX4_readFrost : ByteArray := prog_6_method_13_code
def yX4_readFrost : MethodName := ⟨RX4, "readFrost", "(LSharedSleeves$Town;)V"⟩
abbrev cX4_readOther : ByteArray := prog_6_method_14_code
def yX4_readOther : MethodName := ⟨RX4, "readOther", "(LSharedSleeves$Town;I)I"⟩
abbrev cX4_readNumber : ByteArray := prog_6_method_15_code
def yX4_readNumber : MethodName := ⟨RX4, "readNumber", "(II)I"⟩
abbrev cX4_clauseEnds : ByteArray := prog_6_method_16_code
def yX4_clauseEnds : MethodName := ⟨RX4, "clauseEnds", "()Z"⟩
abbrev cX4_kindOfWord : ByteArray := prog_6_method_17_code
def yX4_kindOfWord : MethodName := ⟨RX4, "kindOfWord", "(I)I"⟩
abbrev cX4_isWord : ByteArray := prog_6_method_18_code
def yX4_isWord : MethodName := ⟨RX4, "isWord", "(ILjava/lang/String;)Z"⟩
abbrev cX4_skipLetters : ByteArray := prog_6_method_19_code
def yX4_skipLetters : MethodName := ⟨RX4, "skipLetters", "()V"⟩
abbrev cX4_skipBlanks : ByteArray := prog_6_method_20_code
def yX4_skipBlanks : MethodName := ⟨RX4, "skipBlanks", "()V"⟩
abbrev cX4_fail : ByteArray := prog_6_method_21_code
def yX4_fail : MethodName := ⟨RX4, "fail", "(II)V"⟩
def RX5 : String := "SharedSleeves$Rows"
def TX5 : u_T := fun k => match k with
  | 0 => ("SharedSleeves$Rows", "row", "[[I", true)
  | _ => ("SharedSleeves$Rows", "count", "I", false)
def tyX5 : Nat → FieldType := fun k => match k with
  | 0 => .array (.array .int)
  | _ => .int
abbrev wsX50 : List Cond := u_ws RX5 TX5 2
theorem nmX5 : ∀ a, a < 2 → ∀ b, b < 2 → a ≠ b → (TX5 a).2.1 ≠ (TX5 b).2.1 := by decide +kernel
theorem tyX5_ok : ∀ k, k < 2 → parseFieldDescriptor (TX5 k).2.2.1 = some (tyX5 k) := by decide +kernel
abbrev cX5_init : ByteArray := prog_7_method_1_code
def yX5_init : MethodName := ⟨RX5, "<init>", "()V"⟩
abbrev cX5_append : ByteArray := prog_7_method_2_code
def yX5_append : MethodName := ⟨RX5, "append", "(III)I"⟩
abbrev cX5_empty : ByteArray := prog_7_method_3_code
def yX5_empty : MethodName := ⟨RX5, "empty", "()V"⟩
abbrev cX5_tellOfTheSame : ByteArray := prog_7_method_4_code
def yX5_tellOfTheSame : MethodName := ⟨RX5, "tellOfTheSame", "(II)Z"⟩
def RX6 : String := "SharedSleeves$Town"
def TX6 : u_T := fun k => match k with
  | 0 => ("SharedSleeves$Town", "people", "I", false)
  | 1 => ("SharedSleeves$Town", "coats", "I", false)
  | 2 => ("SharedSleeves$Town", "errands", "I", false)
  | 3 => ("SharedSleeves$Town", "likings", "I", false)
  | 4 => ("SharedSleeves$Town", "frost", "I", false)
  | 5 => ("SharedSleeves$Town", "cutSet", "I", false)
  | 6 => ("SharedSleeves$Town", "frostTold", "Z", false)
  | 7 => ("SharedSleeves$Town", "steadyHours", "I", false)
  | 8 => ("SharedSleeves$Town", "owner", "[[I", true)
  | 9 => ("SharedSleeves$Town", "warmth", "[I", true)
  | 10 => ("SharedSleeves$Town", "errandRow", "[[I", true)
  | 11 => ("SharedSleeves$Town", "place", "[[I", true)
  | 12 => ("SharedSleeves$Town", "liking", "[[I", true)
  | _ => ("SharedSleeves$Town", "likingTold", "[I", true)
def tyX6 : Nat → FieldType := fun k => match k with
  | 0 => .int
  | 1 => .int
  | 2 => .int
  | 3 => .int
  | 4 => .int
  | 5 => .int
  | 6 => .boolean
  | 7 => .int
  | 8 => .array (.array .int)
  | 9 => .array .int
  | 10 => .array (.array .int)
  | 11 => .array (.array .int)
  | 12 => .array (.array .int)
  | _ => .array .int
abbrev wsX60 : List Cond := u_ws RX6 TX6 14
theorem nmX6 : ∀ a, a < 14 → ∀ b, b < 14 → a ≠ b → (TX6 a).2.1 ≠ (TX6 b).2.1 := by decide +kernel
theorem tyX6_ok : ∀ k, k < 14 → parseFieldDescriptor (TX6 k).2.2.1 = some (tyX6 k) := by decide +kernel
abbrev cX6_init : ByteArray := prog_8_method_1_code
def yX6_init : MethodName := ⟨RX6, "<init>", "()V"⟩
abbrev cX6_clear : ByteArray := prog_8_method_2_code
def yX6_clear : MethodName := ⟨RX6, "clear", "()V"⟩
abbrev cX6_hasPerson : ByteArray := prog_8_method_3_code
def yX6_hasPerson : MethodName := ⟨RX6, "hasPerson", "(I)Z"⟩
abbrev cX6_hasCoat : ByteArray := prog_8_method_4_code
def yX6_hasCoat : MethodName := ⟨RX6, "hasCoat", "(I)Z"⟩
abbrev cX6_isCut : ByteArray := prog_8_method_5_code
def yX6_isCut : MethodName := ⟨RX6, "isCut", "(I)Z"⟩
abbrev cX6_likingIsTold : ByteArray := prog_8_method_6_code
def yX6_likingIsTold : MethodName := ⟨RX6, "likingIsTold", "(II)Z"⟩
abbrev cX6_addCoat : ByteArray := prog_8_method_7_code
def yX6_addCoat : MethodName := ⟨RX6, "addCoat", "(III)V"⟩
abbrev cX6_addErrand : ByteArray := prog_8_method_8_code
def yX6_addErrand : MethodName := ⟨RX6, "addErrand", "(IIII)V"⟩
abbrev cX6_addLiking : ByteArray := prog_8_method_9_code
def yX6_addLiking : MethodName := ⟨RX6, "addLiking", "(III)V"⟩
abbrev cX6_isOutWithin : ByteArray := prog_8_method_10_code
def yX6_isOutWithin : MethodName := ⟨RX6, "isOutWithin", "(III)Z"⟩
abbrev cX6_markSteadyHours : ByteArray := prog_8_method_11_code
def yX6_markSteadyHours : MethodName := ⟨RX6, "markSteadyHours", "()V"⟩
abbrev cX6_isLikeHourBefore : ByteArray := prog_8_method_12_code
def yX6_isLikeHourBefore : MethodName := ⟨RX6, "isLikeHourBefore", "(I)Z"⟩
abbrev cX6_countOut : ByteArray := prog_8_method_13_code
def yX6_countOut : MethodName := ⟨RX6, "countOut", "(I)I"⟩
abbrev cX6_hoursOfBothOut : ByteArray := prog_8_method_14_code
def yX6_hoursOfBothOut : MethodName := ⟨RX6, "hoursOfBothOut", "(I)I"⟩
abbrev cX6_ownersOf : ByteArray := prog_8_method_15_code
def yX6_ownersOf : MethodName := ⟨RX6, "ownersOf", "(I)I"⟩
abbrev cX6_maySell : ByteArray := prog_8_method_16_code
def yX6_maySell : MethodName := ⟨RX6, "maySell", "(III)Z"⟩
abbrev cX6_wearers : ByteArray := prog_8_method_17_code
def yX6_wearers : MethodName := ⟨RX6, "wearers", "(III)I"⟩
abbrev cX6_warmthEach : ByteArray := prog_8_method_18_code
def yX6_warmthEach : MethodName := ⟨RX6, "warmthEach", "(II)I"⟩
def RX7 : String := "SharedSleeves$Wardrobe"
def TX7 : u_T := fun k => match k with
  | 0 => ("SharedSleeves$Wardrobe", "chosen", "[I", true)
  | 1 => ("SharedSleeves$Wardrobe", "wearers", "[[I", true)
  | 2 => ("SharedSleeves$Wardrobe", "spared", "[[I", true)
  | 3 => ("SharedSleeves$Wardrobe", "concerned", "[I", true)
  | _ => ("SharedSleeves$Wardrobe", "mostSpared", "[[I", true)
def tyX7 : Nat → FieldType := fun k => match k with
  | 0 => .array .int
  | 1 => .array (.array .int)
  | 2 => .array (.array .int)
  | 3 => .array .int
  | _ => .array (.array .int)
abbrev wsX70 : List Cond := u_ws RX7 TX7 5
theorem nmX7 : ∀ a, a < 5 → ∀ b, b < 5 → a ≠ b → (TX7 a).2.1 ≠ (TX7 b).2.1 := by decide +kernel
theorem tyX7_ok : ∀ k, k < 5 → parseFieldDescriptor (TX7 k).2.2.1 = some (tyX7 k) := by decide +kernel
abbrev cX7_init : ByteArray := prog_9_method_1_code
def yX7_init : MethodName := ⟨RX7, "<init>", "()V"⟩
abbrev cX7_chillOfDay : ByteArray := prog_9_method_2_code
def yX7_chillOfDay : MethodName := ⟨RX7, "chillOfDay", "(LSharedSleeves$Town;)I"⟩
abbrev cX7_chillOfHour : ByteArray := prog_9_method_3_code
def yX7_chillOfHour : MethodName := ⟨RX7, "chillOfHour", "(LSharedSleeves$Town;I)I"⟩
abbrev cX7_choose : ByteArray := prog_9_method_4_code
def yX7_choose : MethodName := ⟨RX7, "choose", "(LSharedSleeves$Town;I)V"⟩
abbrev cX7_warmthOn : ByteArray := prog_9_method_5_code
def yX7_warmthOn : MethodName := ⟨RX7, "warmthOn", "(LSharedSleeves$Town;I)I"⟩
abbrev cX7_layOut : ByteArray := prog_9_method_6_code
def yX7_layOut : MethodName := ⟨RX7, "layOut", "(LSharedSleeves$Town;II)V"⟩
abbrev cX7_findConcerned : ByteArray := prog_9_method_7_code
def yX7_findConcerned : MethodName := ⟨RX7, "findConcerned", "(I)V"⟩
abbrev cX7_outOwners : ByteArray := prog_9_method_8_code
def yX7_outOwners : MethodName := ⟨RX7, "outOwners", "(I)I"⟩
abbrev cX7_weigh : ByteArray := prog_9_method_9_code
def yX7_weigh : MethodName := ⟨RX7, "weigh", "(I)V"⟩
abbrev cX7_firstBest : ByteArray := prog_9_method_10_code
def yX7_firstBest : MethodName := ⟨RX7, "firstBest", "(II)I"⟩
abbrev cX7_sparedBy : ByteArray := prog_9_method_11_code
def yX7_sparedBy : MethodName := ⟨RX7, "sparedBy", "(III)I"⟩
def RX8 : String := "SharedSleeves"
def TX8 : u_T := fun k => match k with
  | 0 => ("SharedSleeves", "reader", "LSharedSleeves$Reader;", true)
  | 1 => ("SharedSleeves", "wardrobe", "LSharedSleeves$Wardrobe;", true)
  | 2 => ("SharedSleeves", "planner", "LSharedSleeves$Planner;", true)
  | 3 => ("SharedSleeves", "tracedNet", "LSharedSleeves$Net;", true)
  | 4 => ("SharedSleeves", "sightings", "LSharedSleeves$Rows;", true)
  | 5 => ("SharedSleeves", "book", "LSharedSleeves$Rows;", true)
  | 6 => ("SharedSleeves", "images", "[LSharedSleeves$Image;", true)
  | 7 => ("SharedSleeves", "town", "LSharedSleeves$Town;", false)
  | 8 => ("SharedSleeves", "spareTown", "LSharedSleeves$Town;", false)
  | 9 => ("SharedSleeves", "drawSeed", "J", false)
  | _ => ("SharedSleeves", "faultPlace", "I", false)
def tyX8 : Nat → FieldType := fun k => match k with
  | 0 => .object "SharedSleeves$Reader"
  | 1 => .object "SharedSleeves$Wardrobe"
  | 2 => .object "SharedSleeves$Planner"
  | 3 => .object "SharedSleeves$Net"
  | 4 => .object "SharedSleeves$Rows"
  | 5 => .object "SharedSleeves$Rows"
  | 6 => .array (.object "SharedSleeves$Image")
  | 7 => .object "SharedSleeves$Town"
  | 8 => .object "SharedSleeves$Town"
  | 9 => .long
  | _ => .int
abbrev wsX80 : List Cond := u_ws RX8 TX8 11
theorem nmX8 : ∀ a, a < 11 → ∀ b, b < 11 → a ≠ b → (TX8 a).2.1 ≠ (TX8 b).2.1 := by decide +kernel
theorem tyX8_ok : ∀ k, k < 11 → parseFieldDescriptor (TX8 k).2.2.1 = some (tyX8 k) := by decide +kernel
abbrev cX8_init : ByteArray := prog_1_method_1_code
def yX8_init : MethodName := ⟨RX8, "<init>", "()V"⟩
abbrev cX8_feed : ByteArray := prog_1_method_2_code
def yX8_feed : MethodName := ⟨RX8, "feed", "(IJ)I"⟩
abbrev cX8_town : ByteArray := prog_1_method_3_code
def yX8_town : MethodName := ⟨RX8, "town", "()I"⟩
abbrev cX8_fault : ByteArray := prog_1_method_4_code
def yX8_fault : MethodName := ⟨RX8, "fault", "()I"⟩
abbrev cX8_told : ByteArray := prog_1_method_5_code
def yX8_told : MethodName := ⟨RX8, "told", "(I)I"⟩
abbrev cX8_coat : ByteArray := prog_1_method_6_code
def yX8_coat : MethodName := ⟨RX8, "coat", "(II)I"⟩
abbrev cX8_errand : ByteArray := prog_1_method_7_code
def yX8_errand : MethodName := ⟨RX8, "errand", "(II)I"⟩
abbrev cX8_where : ByteArray := prog_1_method_8_code
def yX8_where : MethodName := ⟨RX8, "where", "(II)I"⟩
abbrev cX8_likes : ByteArray := prog_1_method_9_code
def yX8_likes : MethodName := ⟨RX8, "likes", "(II)I"⟩
abbrev cX8_net : ByteArray := prog_1_method_10_code
def yX8_net : MethodName := ⟨RX8, "net", "(II)I"⟩
abbrev cX8_sell : ByteArray := prog_1_method_11_code
def yX8_sell : MethodName := ⟨RX8, "sell", "(III)I"⟩
abbrev cX8_cut : ByteArray := prog_1_method_12_code
def yX8_cut : MethodName := ⟨RX8, "cut", "(I)I"⟩
abbrev cX8_frost : ByteArray := prog_1_method_13_code
def yX8_frost : MethodName := ⟨RX8, "frost", "(I)I"⟩
abbrev cX8_worn : ByteArray := prog_1_method_14_code
def yX8_worn : MethodName := ⟨RX8, "worn", "(II)I"⟩
abbrev cX8_chill : ByteArray := prog_1_method_15_code
def yX8_chill : MethodName := ⟨RX8, "chill", "(II)I"⟩
abbrev cX8_fair : ByteArray := prog_1_method_16_code
def yX8_fair : MethodName := ⟨RX8, "fair", "(II)I"⟩
abbrev cX8_wish : ByteArray := prog_1_method_17_code
def yX8_wish : MethodName := ⟨RX8, "wish", "(I)I"⟩
abbrev cX8_swap : ByteArray := prog_1_method_18_code
def yX8_swap : MethodName := ⟨RX8, "swap", "()I"⟩
abbrev cX8_most : ByteArray := prog_1_method_19_code
def yX8_most : MethodName := ⟨RX8, "most", "()I"⟩
abbrev cX8_gain : ByteArray := prog_1_method_20_code
def yX8_gain : MethodName := ⟨RX8, "gain", "(I)I"⟩
abbrev cX8_best : ByteArray := prog_1_method_21_code
def yX8_best : MethodName := ⟨RX8, "best", "()I"⟩
abbrev cX8_see : ByteArray := prog_1_method_22_code
def yX8_see : MethodName := ⟨RX8, "see", "(III)I"⟩
abbrev cX8_wore : ByteArray := prog_1_method_23_code
def yX8_wore : MethodName := ⟨RX8, "wore", "(I)I"⟩
abbrev cX8_theft : ByteArray := prog_1_method_24_code
def yX8_theft : MethodName := ⟨RX8, "theft", "()I"⟩
abbrev cX8_write : ByteArray := prog_1_method_25_code
def yX8_write : MethodName := ⟨RX8, "write", "(III)I"⟩
abbrev cX8_tear : ByteArray := prog_1_method_26_code
def yX8_tear : MethodName := ⟨RX8, "tear", "()I"⟩
abbrev cX8_judge : ByteArray := prog_1_method_27_code
def yX8_judge : MethodName := ⟨RX8, "judge", "()I"⟩
abbrev cX8_winter : ByteArray := prog_1_method_28_code
def yX8_winter : MethodName := ⟨RX8, "winter", "(I)I"⟩
abbrev cX8_seed : ByteArray := prog_1_method_29_code
def yX8_seed : MethodName := ⟨RX8, "seed", "(I)I"⟩
abbrev cX8_keep : ByteArray := prog_1_method_30_code
def yX8_keep : MethodName := ⟨RX8, "keep", "(I)I"⟩
abbrev cX8_goBack : ByteArray := prog_1_method_31_code
def yX8_goBack : MethodName := ⟨RX8, "goBack", "(I)I"⟩
abbrev cX8_isHour : ByteArray := prog_1_method_32_code
def yX8_isHour : MethodName := ⟨RX8, "isHour", "(I)Z"⟩
abbrev cX8_lowestBits : ByteArray := prog_1_method_33_code
def yX8_lowestBits : MethodName := ⟨RX8, "lowestBits", "(II)I"⟩
abbrev cX8_chillIfCut : ByteArray := prog_1_method_34_code
def yX8_chillIfCut : MethodName := ⟨RX8, "chillIfCut", "(I)I"⟩
abbrev cX8_ownersThere : ByteArray := prog_1_method_35_code
def yX8_ownersThere : MethodName := ⟨RX8, "ownersThere", "(I)I"⟩
abbrev cX8_wasSeenElsewhere : ByteArray := prog_1_method_36_code
def yX8_wasSeenElsewhere : MethodName := ⟨RX8, "wasSeenElsewhere", "(I)Z"⟩
abbrev cX8_isWrong : ByteArray := prog_1_method_37_code
def yX8_isWrong : MethodName := ⟨RX8, "isWrong", "(I)Z"⟩
abbrev cX8_draw : ByteArray := prog_1_method_38_code
def yX8_draw : MethodName := ⟨RX8, "draw", "(I)I"⟩
abbrev cX8_sellByDraws : ByteArray := prog_1_method_39_code
def yX8_sellByDraws : MethodName := ⟨RX8, "sellByDraws", "()V"⟩
def RX9 : String := "SharedSleevesModel"
def TX9 : u_T := fun k => match k with
  | 0 => ("SharedSleevesModel", "w", "[I", true)
  | 1 => ("SharedSleevesModel", "isKept", "[Z", true)
  | 2 => ("SharedSleevesModel", "lefts", "[I", true)
  | 3 => ("SharedSleevesModel", "rights", "[I", true)
  | 4 => ("SharedSleevesModel", "warm", "[I", true)
  | 5 => ("SharedSleevesModel", "goer", "[I", true)
  | 6 => ("SharedSleevesModel", "place", "[I", true)
  | 7 => ("SharedSleevesModel", "from", "[I", true)
  | 8 => ("SharedSleevesModel", "until", "[I", true)
  | 9 => ("SharedSleevesModel", "like", "[I", true)
  | 10 => ("SharedSleevesModel", "isLiked", "[I", true)
  | 11 => ("SharedSleevesModel", "many", "[I", true)
  | 12 => ("SharedSleevesModel", "text", "[I", true)
  | 13 => ("SharedSleevesModel", "textSize", "I", false)
  | 14 => ("SharedSleevesModel", "at", "I", false)
  | 15 => ("SharedSleevesModel", "first", "I", false)
  | 16 => ("SharedSleevesModel", "length", "I", false)
  | 17 => ("SharedSleevesModel", "faultOf", "I", false)
  | 18 => ("SharedSleevesModel", "fault", "I", false)
  | 19 => ("SharedSleevesModel", "likeMany", "I", false)
  | 20 => ("SharedSleevesModel", "newFrost", "I", false)
  | 21 => ("SharedSleevesModel", "isFrost", "Z", false)
  | 22 => ("SharedSleevesModel", "saved", "[I", true)
  | 23 => ("SharedSleevesModel", "wears", "[I", true)
  | 24 => ("SharedSleevesModel", "reach", "[I", true)
  | 25 => ("SharedSleevesModel", "sights", "[I", true)
  | 26 => ("SharedSleevesModel", "seen", "I", false)
  | 27 => ("SharedSleevesModel", "book", "[I", true)
  | _ => ("SharedSleevesModel", "written", "I", false)
def tyX9 : Nat → FieldType := fun k => match k with
  | 0 => .array .int
  | 1 => .array .boolean
  | 2 => .array .int
  | 3 => .array .int
  | 4 => .array .int
  | 5 => .array .int
  | 6 => .array .int
  | 7 => .array .int
  | 8 => .array .int
  | 9 => .array .int
  | 10 => .array .int
  | 11 => .array .int
  | 12 => .array .int
  | 13 => .int
  | 14 => .int
  | 15 => .int
  | 16 => .int
  | 17 => .int
  | 18 => .int
  | 19 => .int
  | 20 => .int
  | 21 => .boolean
  | 22 => .array .int
  | 23 => .array .int
  | 24 => .array .int
  | 25 => .array .int
  | 26 => .int
  | 27 => .array .int
  | _ => .int
abbrev wsX90 : List Cond := u_ws RX9 TX9 29
theorem nmX9 : ∀ a, a < 29 → ∀ b, b < 29 → a ≠ b → (TX9 a).2.1 ≠ (TX9 b).2.1 := by decide +kernel
theorem tyX9_ok : ∀ k, k < 29 → parseFieldDescriptor (TX9 k).2.2.1 = some (tyX9 k) := by decide +kernel
abbrev cX9_init : ByteArray := prog_11_method_1_code
def yX9_init : MethodName := ⟨RX9, "<init>", "()V"⟩
abbrev cX9_in : ByteArray := prog_11_method_3_code
def yX9_in : MethodName := ⟨RX9, "in", "(JJJ)Z"⟩
abbrev cX9_one : ByteArray := prog_11_method_4_code
def yX9_one : MethodName := ⟨RX9, "one", "(Z)I"⟩
abbrev cX9_has : ByteArray := prog_11_method_5_code
def yX9_has : MethodName := ⟨RX9, "has", "(II)Z"⟩
abbrev cX9_ones : ByteArray := prog_11_method_6_code
def yX9_ones : MethodName := ⟨RX9, "ones", "(I)I"⟩
abbrev cX9_feed : ByteArray := prog_11_method_7_code
def yX9_feed : MethodName := ⟨RX9, "feed", "(IJ)I"⟩
abbrev cX9_here : ByteArray := prog_11_method_8_code
def yX9_here : MethodName := ⟨RX9, "here", "()I"⟩
abbrev cX9_want : ByteArray := prog_11_method_9_code
def yX9_want : MethodName := ⟨RX9, "want", "(ZII)Z"⟩
abbrev cX9_takeWord : ByteArray := prog_11_method_10_code
def yX9_takeWord : MethodName := ⟨RX9, "takeWord", "()V"⟩
abbrev cX9_isWord : ByteArray := prog_11_method_11_code
def yX9_isWord : MethodName := ⟨RX9, "isWord", "(IIIIIII)Z"⟩
abbrev cX9_takeNumber : ByteArray := prog_11_method_12_code
def yX9_takeNumber : MethodName := ⟨RX9, "takeNumber", "(II)I"⟩
abbrev cX9_takePerson : ByteArray := prog_11_method_13_code
def yX9_takePerson : MethodName := ⟨RX9, "takePerson", "()I"⟩
abbrev cX9_takeCoat : ByteArray := prog_11_method_14_code
def yX9_takeCoat : MethodName := ⟨RX9, "takeCoat", "()V"⟩
abbrev cX9_isBusy : ByteArray := prog_11_method_15_code
def yX9_isBusy : MethodName := ⟨RX9, "isBusy", "(III)Z"⟩
abbrev cX9_takeErrand : ByteArray := prog_11_method_16_code
def yX9_takeErrand : MethodName := ⟨RX9, "takeErrand", "()V"⟩
abbrev cX9_takeLike : ByteArray := prog_11_method_17_code
def yX9_takeLike : MethodName := ⟨RX9, "takeLike", "()V"⟩
abbrev cX9_takeClause : ByteArray := prog_11_method_18_code
def yX9_takeClause : MethodName := ⟨RX9, "takeClause", "()V"⟩
abbrev cX9_begin : ByteArray := prog_11_method_19_code
def yX9_begin : MethodName := ⟨RX9, "begin", "()V"⟩
abbrev cX9_town : ByteArray := prog_11_method_20_code
def yX9_town : MethodName := ⟨RX9, "town", "()I"⟩
abbrev cX9_fault : ByteArray := prog_11_method_21_code
def yX9_fault : MethodName := ⟨RX9, "fault", "()I"⟩
abbrev cX9_isPerson : ByteArray := prog_11_method_22_code
def yX9_isPerson : MethodName := ⟨RX9, "isPerson", "(I)Z"⟩
abbrev cX9_isCoat : ByteArray := prog_11_method_23_code
def yX9_isCoat : MethodName := ⟨RX9, "isCoat", "(I)Z"⟩
abbrev cX9_isCut : ByteArray := prog_11_method_24_code
def yX9_isCut : MethodName := ⟨RX9, "isCut", "(I)Z"⟩
abbrev cX9_whereBy : ByteArray := prog_11_method_25_code
def yX9_whereBy : MethodName := ⟨RX9, "whereBy", "(III)I"⟩
abbrev cX9_whereIs : ByteArray := prog_11_method_26_code
def yX9_whereIs : MethodName := ⟨RX9, "whereIs", "(II)I"⟩
abbrev cX9_isOut : ByteArray := prog_11_method_27_code
def yX9_isOut : MethodName := ⟨RX9, "isOut", "(II)Z"⟩
abbrev cX9_told : ByteArray := prog_11_method_28_code
def yX9_told : MethodName := ⟨RX9, "told", "(I)I"⟩
abbrev cX9_coat : ByteArray := prog_11_method_29_code
def yX9_coat : MethodName := ⟨RX9, "coat", "(II)I"⟩
abbrev cX9_errand : ByteArray := prog_11_method_30_code
def yX9_errand : MethodName := ⟨RX9, "errand", "(II)I"⟩
abbrev cX9_where : ByteArray := prog_11_method_31_code
def yX9_where : MethodName := ⟨RX9, "where", "(II)I"⟩
abbrev cX9_likes : ByteArray := prog_11_method_32_code
def yX9_likes : MethodName := ⟨RX9, "likes", "(II)I"⟩
abbrev cX9_netOf : ByteArray := prog_11_method_33_code
def yX9_netOf : MethodName := ⟨RX9, "netOf", "(I)I"⟩
abbrev cX9_netMany : ByteArray := prog_11_method_34_code
def yX9_netMany : MethodName := ⟨RX9, "netMany", "()I"⟩
abbrev cX9_coatsIn : ByteArray := prog_11_method_35_code
def yX9_coatsIn : MethodName := ⟨RX9, "coatsIn", "(I)I"⟩
abbrev cX9_coatsOf : ByteArray := prog_11_method_36_code
def yX9_coatsOf : MethodName := ⟨RX9, "coatsOf", "(I)I"⟩
abbrev cX9_kindOf : ByteArray := prog_11_method_37_code
def yX9_kindOf : MethodName := ⟨RX9, "kindOf", "(I)I"⟩
abbrev cX9_net : ByteArray := prog_11_method_38_code
def yX9_net : MethodName := ⟨RX9, "net", "(II)I"⟩
abbrev cX9_canBuy : ByteArray := prog_11_method_39_code
def yX9_canBuy : MethodName := ⟨RX9, "canBuy", "(II)Z"⟩
abbrev cX9_sell : ByteArray := prog_11_method_40_code
def yX9_sell : MethodName := ⟨RX9, "sell", "(III)I"⟩
abbrev cX9_cut : ByteArray := prog_11_method_41_code
def yX9_cut : MethodName := ⟨RX9, "cut", "(I)I"⟩
abbrev cX9_frost : ByteArray := prog_11_method_42_code
def yX9_frost : MethodName := ⟨RX9, "frost", "(I)I"⟩
abbrev cX9_saving : ByteArray := prog_11_method_43_code
def yX9_saving : MethodName := ⟨RX9, "saving", "(I)I"⟩
abbrev cX9_cladBy : ByteArray := prog_11_method_44_code
def yX9_cladBy : MethodName := ⟨RX9, "cladBy", "(III)I"⟩
abbrev cX9_savedBy : ByteArray := prog_11_method_45_code
def yX9_savedBy : MethodName := ⟨RX9, "savedBy", "(II)I"⟩
abbrev cX9_findWearing : ByteArray := prog_11_method_46_code
def yX9_findWearing : MethodName := ⟨RX9, "findWearing", "(I)V"⟩
abbrev cX9_outMany : ByteArray := prog_11_method_47_code
def yX9_outMany : MethodName := ⟨RX9, "outMany", "(I)I"⟩
abbrev cX9_hourChill : ByteArray := prog_11_method_48_code
def yX9_hourChill : MethodName := ⟨RX9, "hourChill", "(I)I"⟩
abbrev cX9_dayChill : ByteArray := prog_11_method_49_code
def yX9_dayChill : MethodName := ⟨RX9, "dayChill", "()I"⟩
abbrev cX9_chooseWearing : ByteArray := prog_11_method_50_code
def yX9_chooseWearing : MethodName := ⟨RX9, "chooseWearing", "(I)V"⟩
abbrev cX9_worn : ByteArray := prog_11_method_51_code
def yX9_worn : MethodName := ⟨RX9, "worn", "(II)I"⟩
abbrev cX9_chill : ByteArray := prog_11_method_52_code
def yX9_chill : MethodName := ⟨RX9, "chill", "(II)I"⟩
abbrev cX9_fair : ByteArray := prog_11_method_53_code
def yX9_fair : MethodName := ⟨RX9, "fair", "(II)I"⟩
abbrev cX9_wishOf : ByteArray := prog_11_method_54_code
def yX9_wishOf : MethodName := ⟨RX9, "wishOf", "(I)I"⟩
abbrev cX9_wish : ByteArray := prog_11_method_55_code
def yX9_wish : MethodName := ⟨RX9, "wish", "(I)I"⟩
abbrev cX9_exchange : ByteArray := prog_11_method_56_code
def yX9_exchange : MethodName := ⟨RX9, "exchange", "(II)V"⟩
abbrev cX9_swaps : ByteArray := prog_11_method_57_code
def yX9_swaps : MethodName := ⟨RX9, "swaps", "(IIII)Z"⟩
abbrev cX9_swapFirst : ByteArray := prog_11_method_58_code
def yX9_swapFirst : MethodName := ⟨RX9, "swapFirst", "()Z"⟩
abbrev cX9_swap : ByteArray := prog_11_method_59_code
def yX9_swap : MethodName := ⟨RX9, "swap", "()I"⟩
abbrev cX9_hasHalf : ByteArray := prog_11_method_60_code
def yX9_hasHalf : MethodName := ⟨RX9, "hasHalf", "(I)Z"⟩
abbrev cX9_areClad : ByteArray := prog_11_method_61_code
def yX9_areClad : MethodName := ⟨RX9, "areClad", "(I)Z"⟩
abbrev cX9_canAll : ByteArray := prog_11_method_62_code
def yX9_canAll : MethodName := ⟨RX9, "canAll", "(I)Z"⟩
abbrev cX9_most : ByteArray := prog_11_method_63_code
def yX9_most : MethodName := ⟨RX9, "most", "()I"⟩
abbrev cX9_gainOf : ByteArray := prog_11_method_64_code
def yX9_gainOf : MethodName := ⟨RX9, "gainOf", "(I)I"⟩
abbrev cX9_gain : ByteArray := prog_11_method_65_code
def yX9_gain : MethodName := ⟨RX9, "gain", "(I)I"⟩
abbrev cX9_best : ByteArray := prog_11_method_66_code
def yX9_best : MethodName := ⟨RX9, "best", "()I"⟩
abbrev cX9_see : ByteArray := prog_11_method_67_code
def yX9_see : MethodName := ⟨RX9, "see", "(III)I"⟩
abbrev cX9_woreAt : ByteArray := prog_11_method_68_code
def yX9_woreAt : MethodName := ⟨RX9, "woreAt", "(I)I"⟩
abbrev cX9_wore : ByteArray := prog_11_method_69_code
def yX9_wore : MethodName := ⟨RX9, "wore", "(I)I"⟩
abbrev cX9_theft : ByteArray := prog_11_method_70_code
def yX9_theft : MethodName := ⟨RX9, "theft", "()I"⟩
abbrev cX9_write : ByteArray := prog_11_method_71_code
def yX9_write : MethodName := ⟨RX9, "write", "(III)I"⟩
abbrev cX9_tear : ByteArray := prog_11_method_72_code
def yX9_tear : MethodName := ⟨RX9, "tear", "()I"⟩
abbrev cX9_judge : ByteArray := prog_11_method_73_code
def yX9_judge : MethodName := ⟨RX9, "judge", "()I"⟩
abbrev cX9_draw : ByteArray := prog_11_method_74_code
def yX9_draw : MethodName := ⟨RX9, "draw", "(I)I"⟩
abbrev cX9_winter : ByteArray := prog_11_method_75_code
def yX9_winter : MethodName := ⟨RX9, "winter", "(I)I"⟩
abbrev cX9_seed : ByteArray := prog_11_method_76_code
def yX9_seed : MethodName := ⟨RX9, "seed", "(I)I"⟩
abbrev cX9_copy : ByteArray := prog_11_method_77_code
def yX9_copy : MethodName := ⟨RX9, "copy", "(II)V"⟩
abbrev cX9_keep : ByteArray := prog_11_method_78_code
def yX9_keep : MethodName := ⟨RX9, "keep", "(I)I"⟩
abbrev cX9_goBack : ByteArray := prog_11_method_79_code
def yX9_goBack : MethodName := ⟨RX9, "goBack", "(I)I"⟩
def RJ6 : String := "java/lang/Integer"
abbrev cJ6_bitCount_0f7a4 : ByteArray := prog_12_method_49_code
def yJ6_bitCount_0f7a4 : MethodName := ⟨RJ6, "bitCount", "(I)I"⟩
def RJ9 : String := "java/lang/Math"
abbrev cJ9_max_7cf53 : ByteArray := prog_13_method_65_code
def yJ9_max_7cf53 : MethodName := ⟨RJ9, "max", "(II)I"⟩
abbrev cJ9_min_7cf53 : ByteArray := prog_13_method_69_code
def yJ9_min_7cf53 : MethodName := ⟨RJ9, "min", "(II)I"⟩
def RJ0 : String := "java/lang/String"
abbrev cJ0_length_8abf5 : ByteArray := prog_14_method_54_code
def yJ0_length_8abf5 : MethodName := ⟨RJ0, "length", "()I"⟩
abbrev cJ0_charAt_5068e : ByteArray := prog_14_method_56_code
def yJ0_charAt_5068e : MethodName := ⟨RJ0, "charAt", "(I)C"⟩
abbrev cJ0_coder_7d493 : ByteArray := prog_14_method_152_code
def yJ0_coder_7d493 : MethodName := ⟨RJ0, "coder", "()B"⟩
abbrev cJ0_isLatin1_aae02 : ByteArray := prog_14_method_154_code
def yJ0_isLatin1_aae02 : MethodName := ⟨RJ0, "isLatin1", "()Z"⟩
abbrev cJ0_checkIndex_df160 : ByteArray := prog_14_method_155_code
def yJ0_checkIndex_df160 : MethodName := ⟨RJ0, "checkIndex", "(II)V"⟩
def RJ1 : String := "java/lang/StringLatin1"
abbrev cJ1_charAt_3b067 : ByteArray := prog_15_method_2_code
def yJ1_charAt_3b067 : MethodName := ⟨RJ1, "charAt", "([BI)C"⟩
def RJ2 : String := "java/lang/StringUTF16"
abbrev cJ2_getChar_3b067 : ByteArray := prog_16_method_5_code
def yJ2_getChar_3b067 : MethodName := ⟨RJ2, "getChar", "([BI)C"⟩
abbrev cJ2_length_9d52b : ByteArray := prog_16_method_6_code
def yJ2_length_9d52b : MethodName := ⟨RJ2, "length", "([B)I"⟩
abbrev cJ2_charAt_3b067 : ByteArray := prog_16_method_83_code
def yJ2_charAt_3b067 : MethodName := ⟨RJ2, "charAt", "([BI)C"⟩
abbrev cJ2_checkIndex_2214a : ByteArray := prog_16_method_91_code
def yJ2_checkIndex_2214a : MethodName := ⟨RJ2, "checkIndex", "(I[B)V"⟩
def RJ3 : String := "jdk/internal/util/Preconditions"
abbrev cJ3_checkIndex_8e157 : ByteArray := prog_17_method_11_code
def yJ3_checkIndex_8e157 : MethodName := ⟨RJ3, "checkIndex", "(IILjava/util/function/BiFunction;)I"⟩
def RL : String := "SharedSleevesLaw"
abbrev cL_law : ByteArray := code
def yL_law : MethodName := ⟨RL, "law", "([I)Z"⟩
abbrev e_cl : List vw_C := [(RX0, TX0, 5), (RX0, TX0, 5), (RX2, TX2, 3), (RX3, TX3, 2), (RX4, TX4, 6), (RX5, TX5, 2), (RX6, TX6, 14), (RX7, TX7, 5), (RX8, TX8, 11), (RX9, TX9, 29)]
/-- the words that every method may stand on: those of the tables that go along with a call -/
def lw_gd : List Cond := lw_tbl.filter goodWord
theorem lw_gd_in {w : Cond} (i : Nat) (h : lw_tbl[i]? = some w) (hg : goodWord w = true) : w ∈ lw_gd := List.mem_filter.mpr ⟨List.mem_of_getElem? h, hg⟩
theorem lw_gd_tbl {w : Cond} (h : w ∈ lw_gd) : w ∈ lw_tbl := (List.mem_filter.mp h).1
theorem lw_gd_good {ws : List Cond} (h : ∀ w ∈ ws, w ∈ lw_gd) : GoodIn lw_gd ws := fun w hw => ⟨h w hw, good_of_word (List.mem_filter.mp (h w hw)).2⟩
