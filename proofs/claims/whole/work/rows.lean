section
-- ===== PART A: goes FIRST, ahead of the names: the tables' words, and 'selects' of the private methods out of them =====
/-- a private method of a class that the tables say can be made, by its rows of tables_1 -/
def lw_okq (q : MethodName × Nat) : Prop := (q.1.cls ≠ "java/lang/invoke/MethodHandle" ∧ q.1.cls ≠ "java/lang/invoke/VarHandle") ∧ Cond.instantiable q.1.cls q.2 ∈ tables_1 ∧ Cond.privateMethod q.1 ∈ tables_1 ∧ Cond.instanceMethod q.1 ∈ tables_1
theorem lw_p0 : lw_okq (⟨"KneelingStones$Page", "codeOf", "(I)I"⟩, 2) := ⟨⟨by decide +kernel, by decide +kernel⟩, List.mem_of_getElem? (i := 24) (by decide +kernel), List.mem_of_getElem? (i := 156) (by decide +kernel), List.mem_of_getElem? (i := 157) (by decide +kernel)⟩
theorem lw_p1 : lw_okq (⟨"KneelingStones", "customAt", "(I)LKneelingStones$Custom;"⟩, 11) := ⟨⟨by decide +kernel, by decide +kernel⟩, List.mem_of_getElem? (i := 16) (by decide +kernel), List.mem_of_getElem? (i := 201) (by decide +kernel), List.mem_of_getElem? (i := 202) (by decide +kernel)⟩
theorem lw_p2 : lw_okq (⟨"KneelingStones", "parishAt", "(I)LKneelingStones$Parish;"⟩, 11) := ⟨⟨by decide +kernel, by decide +kernel⟩, List.mem_of_getElem? (i := 16) (by decide +kernel), List.mem_of_getElem? (i := 294) (by decide +kernel), List.mem_of_getElem? (i := 295) (by decide +kernel)⟩
theorem lw_p3 : lw_okq (⟨"KneelingStones$Moor", "put", "(II)V"⟩, 8) := ⟨⟨by decide +kernel, by decide +kernel⟩, List.mem_of_getElem? (i := 44) (by decide +kernel), List.mem_of_getElem? (i := 349) (by decide +kernel), List.mem_of_getElem? (i := 350) (by decide +kernel)⟩
theorem lw_p4 : lw_okq (⟨"KneelingStones$Moor", "walk", "(LKneelingStones$Custom;LKneelingStones$Parish;I)V"⟩, 8) := ⟨⟨by decide +kernel, by decide +kernel⟩, List.mem_of_getElem? (i := 44) (by decide +kernel), List.mem_of_getElem? (i := 393) (by decide +kernel), List.mem_of_getElem? (i := 394) (by decide +kernel)⟩
theorem lw_p5 : lw_okq (⟨"KneelingStones$Moor", "draw", "()I"⟩, 8) := ⟨⟨by decide +kernel, by decide +kernel⟩, List.mem_of_getElem? (i := 44) (by decide +kernel), List.mem_of_getElem? (i := 397) (by decide +kernel), List.mem_of_getElem? (i := 398) (by decide +kernel)⟩
theorem lw_p6 : lw_okq (⟨"KneelingStones$Moor", "cairnBy", "(II)I"⟩, 8) := ⟨⟨by decide +kernel, by decide +kernel⟩, List.mem_of_getElem? (i := 44) (by decide +kernel), List.mem_of_getElem? (i := 404) (by decide +kernel), List.mem_of_getElem? (i := 405) (by decide +kernel)⟩
theorem lw_p7 : lw_okq (⟨"KneelingStones$Moor", "steal", "(II)V"⟩, 8) := ⟨⟨by decide +kernel, by decide +kernel⟩, List.mem_of_getElem? (i := 44) (by decide +kernel), List.mem_of_getElem? (i := 438) (by decide +kernel), List.mem_of_getElem? (i := 439) (by decide +kernel)⟩
theorem lw_p8 : lw_okq (⟨"KneelingStones$Moor", "flood", "()V"⟩, 8) := ⟨⟨by decide +kernel, by decide +kernel⟩, List.mem_of_getElem? (i := 44) (by decide +kernel), List.mem_of_getElem? (i := 448) (by decide +kernel), List.mem_of_getElem? (i := 449) (by decide +kernel)⟩
theorem lw_p9 : lw_okq (⟨"KneelingStones", "dreamOf", "(LKneelingStones$Custom;I)V"⟩, 11) := ⟨⟨by decide +kernel, by decide +kernel⟩, List.mem_of_getElem? (i := 16) (by decide +kernel), List.mem_of_getElem? (i := 460) (by decide +kernel), List.mem_of_getElem? (i := 461) (by decide +kernel)⟩
theorem lw_p10 : lw_okq (⟨"KneelingStones$Ways", "leastCost", "([LKneelingStones$Parish;II)I"⟩, 2) := ⟨⟨by decide +kernel, by decide +kernel⟩, List.mem_of_getElem? (i := 82) (by decide +kernel), List.mem_of_getElem? (i := 538) (by decide +kernel), List.mem_of_getElem? (i := 539) (by decide +kernel)⟩
theorem lw_p11 : lw_okq (⟨"KneelingStones$Ways", "start", "()V"⟩, 2) := ⟨⟨by decide +kernel, by decide +kernel⟩, List.mem_of_getElem? (i := 82) (by decide +kernel), List.mem_of_getElem? (i := 542) (by decide +kernel), List.mem_of_getElem? (i := 543) (by decide +kernel)⟩
theorem lw_p12 : lw_okq (⟨"KneelingStones$Ways", "addAllBut", "([LKneelingStones$Parish;II)V"⟩, 2) := ⟨⟨by decide +kernel, by decide +kernel⟩, List.mem_of_getElem? (i := 82) (by decide +kernel), List.mem_of_getElem? (i := 549) (by decide +kernel), List.mem_of_getElem? (i := 550) (by decide +kernel)⟩
theorem lw_p13 : lw_okq (⟨"KneelingStones$Ways", "addWalker", "(LKneelingStones$Parish;ZI)V"⟩, 2) := ⟨⟨by decide +kernel, by decide +kernel⟩, List.mem_of_getElem? (i := 82) (by decide +kernel), List.mem_of_getElem? (i := 553) (by decide +kernel), List.mem_of_getElem? (i := 554) (by decide +kernel)⟩
theorem lw_p14 : lw_okq (⟨"KneelingStones$Ways", "offer", "(II)V"⟩, 2) := ⟨⟨by decide +kernel, by decide +kernel⟩, List.mem_of_getElem? (i := 82) (by decide +kernel), List.mem_of_getElem? (i := 574) (by decide +kernel), List.mem_of_getElem? (i := 575) (by decide +kernel)⟩
theorem lw_p15 : lw_okq (⟨"KneelingStones$Ways", "costOf", "(I)I"⟩, 2) := ⟨⟨by decide +kernel, by decide +kernel⟩, List.mem_of_getElem? (i := 82) (by decide +kernel), List.mem_of_getElem? (i := 587) (by decide +kernel), List.mem_of_getElem? (i := 588) (by decide +kernel)⟩
def lw_privs_1 : List (MethodName × Nat) := [(⟨"KneelingStones$Page", "codeOf", "(I)I"⟩, 2), (⟨"KneelingStones", "customAt", "(I)LKneelingStones$Custom;"⟩, 11), (⟨"KneelingStones", "parishAt", "(I)LKneelingStones$Parish;"⟩, 11), (⟨"KneelingStones$Moor", "put", "(II)V"⟩, 8), (⟨"KneelingStones$Moor", "walk", "(LKneelingStones$Custom;LKneelingStones$Parish;I)V"⟩, 8), (⟨"KneelingStones$Moor", "draw", "()I"⟩, 8), (⟨"KneelingStones$Moor", "cairnBy", "(II)I"⟩, 8), (⟨"KneelingStones$Moor", "steal", "(II)V"⟩, 8), (⟨"KneelingStones$Moor", "flood", "()V"⟩, 8), (⟨"KneelingStones", "dreamOf", "(LKneelingStones$Custom;I)V"⟩, 11), (⟨"KneelingStones$Ways", "leastCost", "([LKneelingStones$Parish;II)I"⟩, 2), (⟨"KneelingStones$Ways", "start", "()V"⟩, 2), (⟨"KneelingStones$Ways", "addAllBut", "([LKneelingStones$Parish;II)V"⟩, 2), (⟨"KneelingStones$Ways", "addWalker", "(LKneelingStones$Parish;ZI)V"⟩, 2), (⟨"KneelingStones$Ways", "offer", "(II)V"⟩, 2), (⟨"KneelingStones$Ways", "costOf", "(I)I"⟩, 2)]
theorem lw_r1 : ∀ q ∈ lw_privs_1, lw_okq q := List.forall_mem_cons.mpr ⟨lw_p0, List.forall_mem_cons.mpr ⟨lw_p1, List.forall_mem_cons.mpr ⟨lw_p2, List.forall_mem_cons.mpr ⟨lw_p3, List.forall_mem_cons.mpr ⟨lw_p4, List.forall_mem_cons.mpr ⟨lw_p5, List.forall_mem_cons.mpr ⟨lw_p6, List.forall_mem_cons.mpr ⟨lw_p7, List.forall_mem_cons.mpr ⟨lw_p8, List.forall_mem_cons.mpr ⟨lw_p9, List.forall_mem_cons.mpr ⟨lw_p10, List.forall_mem_cons.mpr ⟨lw_p11, List.forall_mem_cons.mpr ⟨lw_p12, List.forall_mem_cons.mpr ⟨lw_p13, List.forall_mem_cons.mpr ⟨lw_p14, List.forall_mem_cons.mpr ⟨lw_p15, fun _ h => absurd h List.not_mem_nil⟩⟩⟩⟩⟩⟩⟩⟩⟩⟩⟩⟩⟩⟩⟩⟩
theorem lw_p16 : lw_okq (⟨"KneelingStones$Ways", "canBeWithout", "([LKneelingStones$Parish;II)Z"⟩, 2) := ⟨⟨by decide +kernel, by decide +kernel⟩, List.mem_of_getElem? (i := 82) (by decide +kernel), List.mem_of_getElem? (i := 599) (by decide +kernel), List.mem_of_getElem? (i := 600) (by decide +kernel)⟩
theorem lw_p17 : lw_okq (⟨"KneelingStones$Ways", "canBeWith", "([LKneelingStones$Parish;II)Z"⟩, 2) := ⟨⟨by decide +kernel, by decide +kernel⟩, List.mem_of_getElem? (i := 82) (by decide +kernel), List.mem_of_getElem? (i := 607) (by decide +kernel), List.mem_of_getElem? (i := 608) (by decide +kernel)⟩
theorem lw_p18 : lw_okq (⟨"KneelingStones", "dreamTillEmpty", "(LKneelingStones$Custom;II)I"⟩, 11) := ⟨⟨by decide +kernel, by decide +kernel⟩, List.mem_of_getElem? (i := 16) (by decide +kernel), List.mem_of_getElem? (i := 627) (by decide +kernel), List.mem_of_getElem? (i := 628) (by decide +kernel)⟩
theorem lw_p19 : lw_okq (⟨"KneelingStones", "withCairns", "(J)J"⟩, 11) := ⟨⟨by decide +kernel, by decide +kernel⟩, List.mem_of_getElem? (i := 16) (by decide +kernel), List.mem_of_getElem? (i := 664) (by decide +kernel), List.mem_of_getElem? (i := 665) (by decide +kernel)⟩
theorem lw_p20 : lw_okq (⟨"KneelingStones", "withParishes", "(J)J"⟩, 11) := ⟨⟨by decide +kernel, by decide +kernel⟩, List.mem_of_getElem? (i := 16) (by decide +kernel), List.mem_of_getElem? (i := 669) (by decide +kernel), List.mem_of_getElem? (i := 670) (by decide +kernel)⟩
theorem lw_p21 : lw_okq (⟨"KneelingStones", "withCustoms", "(J)J"⟩, 11) := ⟨⟨by decide +kernel, by decide +kernel⟩, List.mem_of_getElem? (i := 16) (by decide +kernel), List.mem_of_getElem? (i := 673) (by decide +kernel), List.mem_of_getElem? (i := 674) (by decide +kernel)⟩
theorem lw_p22 : lw_okq (⟨"KneelingStonesModel", "readCustom", "()V"⟩, 35) := ⟨⟨by decide +kernel, by decide +kernel⟩, List.mem_of_getElem? (i := 679) (by decide +kernel), List.mem_of_getElem? (i := 805) (by decide +kernel), List.mem_of_getElem? (i := 806) (by decide +kernel)⟩
theorem lw_p23 : lw_okq (⟨"KneelingStonesModel", "nextState", "(II)I"⟩, 35) := ⟨⟨by decide +kernel, by decide +kernel⟩, List.mem_of_getElem? (i := 679) (by decide +kernel), List.mem_of_getElem? (i := 809) (by decide +kernel), List.mem_of_getElem? (i := 810) (by decide +kernel)⟩
theorem lw_p24 : lw_okq (⟨"KneelingStonesModel", "isCustom", "(I)Z"⟩, 35) := ⟨⟨by decide +kernel, by decide +kernel⟩, List.mem_of_getElem? (i := 679) (by decide +kernel), List.mem_of_getElem? (i := 827) (by decide +kernel), List.mem_of_getElem? (i := 828) (by decide +kernel)⟩
theorem lw_p25 : lw_okq (⟨"KneelingStonesModel", "customNow", "(II)I"⟩, 35) := ⟨⟨by decide +kernel, by decide +kernel⟩, List.mem_of_getElem? (i := 679) (by decide +kernel), List.mem_of_getElem? (i := 831) (by decide +kernel), List.mem_of_getElem? (i := 832) (by decide +kernel)⟩
theorem lw_p26 : lw_okq (⟨"KneelingStonesModel", "isParish", "(I)Z"⟩, 35) := ⟨⟨by decide +kernel, by decide +kernel⟩, List.mem_of_getElem? (i := 679) (by decide +kernel), List.mem_of_getElem? (i := 849) (by decide +kernel), List.mem_of_getElem? (i := 850) (by decide +kernel)⟩
theorem lw_p27 : lw_okq (⟨"KneelingStonesModel", "parishNow", "(II)I"⟩, 35) := ⟨⟨by decide +kernel, by decide +kernel⟩, List.mem_of_getElem? (i := 679) (by decide +kernel), List.mem_of_getElem? (i := 857) (by decide +kernel), List.mem_of_getElem? (i := 858) (by decide +kernel)⟩
theorem lw_p28 : lw_okq (⟨"KneelingStonesModel", "gift", "(I)I"⟩, 35) := ⟨⟨by decide +kernel, by decide +kernel⟩, List.mem_of_getElem? (i := 679) (by decide +kernel), List.mem_of_getElem? (i := 861) (by decide +kernel), List.mem_of_getElem? (i := 862) (by decide +kernel)⟩
theorem lw_p29 : lw_okq (⟨"KneelingStonesModel", "layAll", "(II)V"⟩, 35) := ⟨⟨by decide +kernel, by decide +kernel⟩, List.mem_of_getElem? (i := 679) (by decide +kernel), List.mem_of_getElem? (i := 876) (by decide +kernel), List.mem_of_getElem? (i := 877) (by decide +kernel)⟩
theorem lw_p30 : lw_okq (⟨"KneelingStonesModel", "put", "(II)V"⟩, 35) := ⟨⟨by decide +kernel, by decide +kernel⟩, List.mem_of_getElem? (i := 679) (by decide +kernel), List.mem_of_getElem? (i := 880) (by decide +kernel), List.mem_of_getElem? (i := 881) (by decide +kernel)⟩
theorem lw_p31 : lw_okq (⟨"KneelingStonesModel", "takeAll", "(II)V"⟩, 35) := ⟨⟨by decide +kernel, by decide +kernel⟩, List.mem_of_getElem? (i := 679) (by decide +kernel), List.mem_of_getElem? (i := 888) (by decide +kernel), List.mem_of_getElem? (i := 889) (by decide +kernel)⟩
def lw_privs_2 : List (MethodName × Nat) := [(⟨"KneelingStones$Ways", "canBeWithout", "([LKneelingStones$Parish;II)Z"⟩, 2), (⟨"KneelingStones$Ways", "canBeWith", "([LKneelingStones$Parish;II)Z"⟩, 2), (⟨"KneelingStones", "dreamTillEmpty", "(LKneelingStones$Custom;II)I"⟩, 11), (⟨"KneelingStones", "withCairns", "(J)J"⟩, 11), (⟨"KneelingStones", "withParishes", "(J)J"⟩, 11), (⟨"KneelingStones", "withCustoms", "(J)J"⟩, 11), (⟨"KneelingStonesModel", "readCustom", "()V"⟩, 35), (⟨"KneelingStonesModel", "nextState", "(II)I"⟩, 35), (⟨"KneelingStonesModel", "isCustom", "(I)Z"⟩, 35), (⟨"KneelingStonesModel", "customNow", "(II)I"⟩, 35), (⟨"KneelingStonesModel", "isParish", "(I)Z"⟩, 35), (⟨"KneelingStonesModel", "parishNow", "(II)I"⟩, 35), (⟨"KneelingStonesModel", "gift", "(I)I"⟩, 35), (⟨"KneelingStonesModel", "layAll", "(II)V"⟩, 35), (⟨"KneelingStonesModel", "put", "(II)V"⟩, 35), (⟨"KneelingStonesModel", "takeAll", "(II)V"⟩, 35)]
theorem lw_r2 : ∀ q ∈ lw_privs_2, lw_okq q := List.forall_mem_cons.mpr ⟨lw_p16, List.forall_mem_cons.mpr ⟨lw_p17, List.forall_mem_cons.mpr ⟨lw_p18, List.forall_mem_cons.mpr ⟨lw_p19, List.forall_mem_cons.mpr ⟨lw_p20, List.forall_mem_cons.mpr ⟨lw_p21, List.forall_mem_cons.mpr ⟨lw_p22, List.forall_mem_cons.mpr ⟨lw_p23, List.forall_mem_cons.mpr ⟨lw_p24, List.forall_mem_cons.mpr ⟨lw_p25, List.forall_mem_cons.mpr ⟨lw_p26, List.forall_mem_cons.mpr ⟨lw_p27, List.forall_mem_cons.mpr ⟨lw_p28, List.forall_mem_cons.mpr ⟨lw_p29, List.forall_mem_cons.mpr ⟨lw_p30, List.forall_mem_cons.mpr ⟨lw_p31, fun _ h => absurd h List.not_mem_nil⟩⟩⟩⟩⟩⟩⟩⟩⟩⟩⟩⟩⟩⟩⟩⟩
theorem lw_p32 : lw_okq (⟨"KneelingStonesModel", "markOf", "(II)I"⟩, 35) := ⟨⟨by decide +kernel, by decide +kernel⟩, List.mem_of_getElem? (i := 679) (by decide +kernel), List.mem_of_getElem? (i := 900) (by decide +kernel), List.mem_of_getElem? (i := 901) (by decide +kernel)⟩
theorem lw_p33 : lw_okq (⟨"KneelingStonesModel", "goWeek", "(I)V"⟩, 35) := ⟨⟨by decide +kernel, by decide +kernel⟩, List.mem_of_getElem? (i := 679) (by decide +kernel), List.mem_of_getElem? (i := 916) (by decide +kernel), List.mem_of_getElem? (i := 917) (by decide +kernel)⟩
theorem lw_p34 : lw_okq (⟨"KneelingStonesModel", "draw", "()I"⟩, 35) := ⟨⟨by decide +kernel, by decide +kernel⟩, List.mem_of_getElem? (i := 679) (by decide +kernel), List.mem_of_getElem? (i := 920) (by decide +kernel), List.mem_of_getElem? (i := 921) (by decide +kernel)⟩
theorem lw_p35 : lw_okq (⟨"KneelingStonesModel", "doWish", "(II)V"⟩, 35) := ⟨⟨by decide +kernel, by decide +kernel⟩, List.mem_of_getElem? (i := 679) (by decide +kernel), List.mem_of_getElem? (i := 929) (by decide +kernel), List.mem_of_getElem? (i := 930) (by decide +kernel)⟩
theorem lw_p36 : lw_okq (⟨"KneelingStonesModel", "cairnBy", "(II)I"⟩, 35) := ⟨⟨by decide +kernel, by decide +kernel⟩, List.mem_of_getElem? (i := 679) (by decide +kernel), List.mem_of_getElem? (i := 933) (by decide +kernel), List.mem_of_getElem? (i := 934) (by decide +kernel)⟩
theorem lw_p37 : lw_okq (⟨"KneelingStonesModel", "withMost", "()I"⟩, 35) := ⟨⟨by decide +kernel, by decide +kernel⟩, List.mem_of_getElem? (i := 679) (by decide +kernel), List.mem_of_getElem? (i := 937) (by decide +kernel), List.mem_of_getElem? (i := 938) (by decide +kernel)⟩
theorem lw_p38 : lw_okq (⟨"KneelingStonesModel", "withLeast", "()I"⟩, 35) := ⟨⟨by decide +kernel, by decide +kernel⟩, List.mem_of_getElem? (i := 679) (by decide +kernel), List.mem_of_getElem? (i := 941) (by decide +kernel), List.mem_of_getElem? (i := 942) (by decide +kernel)⟩
theorem lw_p39 : lw_okq (⟨"KneelingStonesModel", "doSin", "(II)V"⟩, 35) := ⟨⟨by decide +kernel, by decide +kernel⟩, List.mem_of_getElem? (i := 679) (by decide +kernel), List.mem_of_getElem? (i := 945) (by decide +kernel), List.mem_of_getElem? (i := 946) (by decide +kernel)⟩
theorem lw_p40 : lw_okq (⟨"KneelingStonesModel", "pebbles", "()I"⟩, 35) := ⟨⟨by decide +kernel, by decide +kernel⟩, List.mem_of_getElem? (i := 679) (by decide +kernel), List.mem_of_getElem? (i := 949) (by decide +kernel), List.mem_of_getElem? (i := 950) (by decide +kernel)⟩
theorem lw_p41 : lw_okq (⟨"KneelingStonesModel", "wouldOf", "(III)I"⟩, 35) := ⟨⟨by decide +kernel, by decide +kernel⟩, List.mem_of_getElem? (i := 679) (by decide +kernel), List.mem_of_getElem? (i := 957) (by decide +kernel), List.mem_of_getElem? (i := 958) (by decide +kernel)⟩
theorem lw_p42 : lw_okq (⟨"KneelingStonesModel", "save", "()V"⟩, 35) := ⟨⟨by decide +kernel, by decide +kernel⟩, List.mem_of_getElem? (i := 679) (by decide +kernel), List.mem_of_getElem? (i := 961) (by decide +kernel), List.mem_of_getElem? (i := 962) (by decide +kernel)⟩
theorem lw_p43 : lw_okq (⟨"KneelingStonesModel", "back", "()V"⟩, 35) := ⟨⟨by decide +kernel, by decide +kernel⟩, List.mem_of_getElem? (i := 679) (by decide +kernel), List.mem_of_getElem? (i := 965) (by decide +kernel), List.mem_of_getElem? (i := 966) (by decide +kernel)⟩
theorem lw_p44 : lw_okq (⟨"KneelingStonesModel", "oddsOf", "(III)J"⟩, 35) := ⟨⟨by decide +kernel, by decide +kernel⟩, List.mem_of_getElem? (i := 679) (by decide +kernel), List.mem_of_getElem? (i := 979) (by decide +kernel), List.mem_of_getElem? (i := 980) (by decide +kernel)⟩
theorem lw_p45 : lw_okq (⟨"KneelingStonesModel", "whole", "(I)J"⟩, 35) := ⟨⟨by decide +kernel, by decide +kernel⟩, List.mem_of_getElem? (i := 679) (by decide +kernel), List.mem_of_getElem? (i := 989) (by decide +kernel), List.mem_of_getElem? (i := 990) (by decide +kernel)⟩
theorem lw_p46 : lw_okq (⟨"KneelingStonesModel", "netOdds", "(III)J"⟩, 35) := ⟨⟨by decide +kernel, by decide +kernel⟩, List.mem_of_getElem? (i := 679) (by decide +kernel), List.mem_of_getElem? (i := 1004) (by decide +kernel), List.mem_of_getElem? (i := 1005) (by decide +kernel)⟩
theorem lw_p47 : lw_okq (⟨"KneelingStonesModel", "netOf", "(III)I"⟩, 35) := ⟨⟨by decide +kernel, by decide +kernel⟩, List.mem_of_getElem? (i := 679) (by decide +kernel), List.mem_of_getElem? (i := 1008) (by decide +kernel), List.mem_of_getElem? (i := 1009) (by decide +kernel)⟩
def lw_privs_3 : List (MethodName × Nat) := [(⟨"KneelingStonesModel", "markOf", "(II)I"⟩, 35), (⟨"KneelingStonesModel", "goWeek", "(I)V"⟩, 35), (⟨"KneelingStonesModel", "draw", "()I"⟩, 35), (⟨"KneelingStonesModel", "doWish", "(II)V"⟩, 35), (⟨"KneelingStonesModel", "cairnBy", "(II)I"⟩, 35), (⟨"KneelingStonesModel", "withMost", "()I"⟩, 35), (⟨"KneelingStonesModel", "withLeast", "()I"⟩, 35), (⟨"KneelingStonesModel", "doSin", "(II)V"⟩, 35), (⟨"KneelingStonesModel", "pebbles", "()I"⟩, 35), (⟨"KneelingStonesModel", "wouldOf", "(III)I"⟩, 35), (⟨"KneelingStonesModel", "save", "()V"⟩, 35), (⟨"KneelingStonesModel", "back", "()V"⟩, 35), (⟨"KneelingStonesModel", "oddsOf", "(III)J"⟩, 35), (⟨"KneelingStonesModel", "whole", "(I)J"⟩, 35), (⟨"KneelingStonesModel", "netOdds", "(III)J"⟩, 35), (⟨"KneelingStonesModel", "netOf", "(III)I"⟩, 35)]
theorem lw_r3 : ∀ q ∈ lw_privs_3, lw_okq q := List.forall_mem_cons.mpr ⟨lw_p32, List.forall_mem_cons.mpr ⟨lw_p33, List.forall_mem_cons.mpr ⟨lw_p34, List.forall_mem_cons.mpr ⟨lw_p35, List.forall_mem_cons.mpr ⟨lw_p36, List.forall_mem_cons.mpr ⟨lw_p37, List.forall_mem_cons.mpr ⟨lw_p38, List.forall_mem_cons.mpr ⟨lw_p39, List.forall_mem_cons.mpr ⟨lw_p40, List.forall_mem_cons.mpr ⟨lw_p41, List.forall_mem_cons.mpr ⟨lw_p42, List.forall_mem_cons.mpr ⟨lw_p43, List.forall_mem_cons.mpr ⟨lw_p44, List.forall_mem_cons.mpr ⟨lw_p45, List.forall_mem_cons.mpr ⟨lw_p46, List.forall_mem_cons.mpr ⟨lw_p47, fun _ h => absurd h List.not_mem_nil⟩⟩⟩⟩⟩⟩⟩⟩⟩⟩⟩⟩⟩⟩⟩⟩
theorem lw_p48 : lw_okq (⟨"KneelingStonesModel", "boundsOf", "(II)I"⟩, 35) := ⟨⟨by decide +kernel, by decide +kernel⟩, List.mem_of_getElem? (i := 679) (by decide +kernel), List.mem_of_getElem? (i := 1021) (by decide +kernel), List.mem_of_getElem? (i := 1022) (by decide +kernel)⟩
theorem lw_p49 : lw_okq (⟨"KneelingStonesModel", "canNet", "(IIII)Z"⟩, 35) := ⟨⟨by decide +kernel, by decide +kernel⟩, List.mem_of_getElem? (i := 679) (by decide +kernel), List.mem_of_getElem? (i := 1025) (by decide +kernel), List.mem_of_getElem? (i := 1026) (by decide +kernel)⟩
theorem lw_p50 : lw_okq (⟨"KneelingStonesModel", "layNets", "(III)V"⟩, 35) := ⟨⟨by decide +kernel, by decide +kernel⟩, List.mem_of_getElem? (i := 679) (by decide +kernel), List.mem_of_getElem? (i := 1029) (by decide +kernel), List.mem_of_getElem? (i := 1030) (by decide +kernel)⟩
theorem lw_p51 : lw_okq (⟨"KneelingStonesModel", "canBe", "(III)Z"⟩, 35) := ⟨⟨by decide +kernel, by decide +kernel⟩, List.mem_of_getElem? (i := 679) (by decide +kernel), List.mem_of_getElem? (i := 1034) (by decide +kernel), List.mem_of_getElem? (i := 1035) (by decide +kernel)⟩
theorem lw_p52 : lw_okq (⟨"KneelingStonesModel", "addWay", "(II)V"⟩, 35) := ⟨⟨by decide +kernel, by decide +kernel⟩, List.mem_of_getElem? (i := 679) (by decide +kernel), List.mem_of_getElem? (i := 1038) (by decide +kernel), List.mem_of_getElem? (i := 1039) (by decide +kernel)⟩
theorem lw_p53 : lw_okq (⟨"KneelingStonesModel", "isAlone", "(I)Z"⟩, 35) := ⟨⟨by decide +kernel, by decide +kernel⟩, List.mem_of_getElem? (i := 679) (by decide +kernel), List.mem_of_getElem? (i := 1046) (by decide +kernel), List.mem_of_getElem? (i := 1047) (by decide +kernel)⟩
theorem lw_p54 : lw_okq (⟨"KneelingStonesModel", "saves", "(IIII)Z"⟩, 35) := ⟨⟨by decide +kernel, by decide +kernel⟩, List.mem_of_getElem? (i := 679) (by decide +kernel), List.mem_of_getElem? (i := 1058) (by decide +kernel), List.mem_of_getElem? (i := 1059) (by decide +kernel)⟩
theorem lw_p55 : lw_okq (⟨"KneelingStonesModel", "howMany", "(I)I"⟩, 35) := ⟨⟨by decide +kernel, by decide +kernel⟩, List.mem_of_getElem? (i := 679) (by decide +kernel), List.mem_of_getElem? (i := 1082) (by decide +kernel), List.mem_of_getElem? (i := 1083) (by decide +kernel)⟩
theorem lw_p56 : lw_okq (⟨"KneelingStonesModel", "mix", "(J)V"⟩, 35) := ⟨⟨by decide +kernel, by decide +kernel⟩, List.mem_of_getElem? (i := 679) (by decide +kernel), List.mem_of_getElem? (i := 1091) (by decide +kernel), List.mem_of_getElem? (i := 1092) (by decide +kernel)⟩
theorem lw_p57 : lw_okq (⟨"KneelingStonesModel", "mixCustom", "(I)V"⟩, 35) := ⟨⟨by decide +kernel, by decide +kernel⟩, List.mem_of_getElem? (i := 679) (by decide +kernel), List.mem_of_getElem? (i := 1096) (by decide +kernel), List.mem_of_getElem? (i := 1097) (by decide +kernel)⟩
def lw_privs_4 : List (MethodName × Nat) := [(⟨"KneelingStonesModel", "boundsOf", "(II)I"⟩, 35), (⟨"KneelingStonesModel", "canNet", "(IIII)Z"⟩, 35), (⟨"KneelingStonesModel", "layNets", "(III)V"⟩, 35), (⟨"KneelingStonesModel", "canBe", "(III)Z"⟩, 35), (⟨"KneelingStonesModel", "addWay", "(II)V"⟩, 35), (⟨"KneelingStonesModel", "isAlone", "(I)Z"⟩, 35), (⟨"KneelingStonesModel", "saves", "(IIII)Z"⟩, 35), (⟨"KneelingStonesModel", "howMany", "(I)I"⟩, 35), (⟨"KneelingStonesModel", "mix", "(J)V"⟩, 35), (⟨"KneelingStonesModel", "mixCustom", "(I)V"⟩, 35)]
theorem lw_r4 : ∀ q ∈ lw_privs_4, lw_okq q := List.forall_mem_cons.mpr ⟨lw_p48, List.forall_mem_cons.mpr ⟨lw_p49, List.forall_mem_cons.mpr ⟨lw_p50, List.forall_mem_cons.mpr ⟨lw_p51, List.forall_mem_cons.mpr ⟨lw_p52, List.forall_mem_cons.mpr ⟨lw_p53, List.forall_mem_cons.mpr ⟨lw_p54, List.forall_mem_cons.mpr ⟨lw_p55, List.forall_mem_cons.mpr ⟨lw_p56, List.forall_mem_cons.mpr ⟨lw_p57, fun _ h => absurd h List.not_mem_nil⟩⟩⟩⟩⟩⟩⟩⟩⟩⟩
def lw_privs : List (MethodName × Nat) := lw_privs_1 ++ (lw_privs_2 ++ (lw_privs_3 ++ (lw_privs_4)))
def lw_tbl : List Cond := k2_sels lw_privs ++ tables_1
theorem lw_privs_ok : ∀ q ∈ lw_privs, lw_okq q := by
  show ∀ q ∈ lw_privs_1 ++ (lw_privs_2 ++ (lw_privs_3 ++ (lw_privs_4))), lw_okq q
  exact List.forall_mem_append.mpr ⟨lw_r1, List.forall_mem_append.mpr ⟨lw_r2, List.forall_mem_append.mpr ⟨lw_r3, lw_r4⟩⟩⟩
end
section
/-! ===== BEGIN words of one list among another's, by their places ===== -/
theorem goodIn_r {big : List Cond} (ws : List Cond) (ps : List Nat) (hp : ws = ps.filterMap (fun i => big[i]?)) (h : ws.all goodWord = true) : GoodIn big ws := by
  intro w hw
  have h1 := List.all_eq_true.mp h w hw
  rw [hp] at hw
  obtain ⟨i, -, hi⟩ := List.mem_filterMap.mp hw
  have hm : w ∈ big := by first | exact List.mem_of_getElem? hi | exact List.getElem?_mem hi
  exact ⟨hm, good_of_word h1⟩
theorem goodIn_app {big a b : List Cond} (ha : GoodIn big a) (hb : GoodIn big b) : GoodIn big (a ++ b) := fun w h => (List.mem_append.mp h).elim (ha w) (hb w)
theorem goodIn_ca {big a b : List Cond} {c : Cond} (ha : GoodIn big (c :: a)) (hb : GoodIn big b) : GoodIn big (c :: (a ++ b)) := fun w h => (List.mem_cons.mp h).elim (fun e => ha w (List.mem_cons.mpr (Or.inl e))) (fun h => (List.mem_append.mp h).elim (fun h => ha w (List.mem_cons.mpr (Or.inr h))) (hb w))
theorem goodIn_sub {big ws : List Cond} (hm : ∀ w ∈ ws, w ∈ big) (h : ws.all goodWord = true) : GoodIn big ws := fun w hw => ⟨hm w hw, good_of_word (List.all_eq_true.mp h w hw)⟩
/-! ===== END ===== -/

/-! ===== BEGIN printed: names, fields, word lists, decode rows ===== -/
def RX0 : String := "KneelingStones$Boys"
def TX0 : u_T := fun k => match k with
  | 0 => ("KneelingStones$Parish", "n", "I", true)
  | 1 => ("KneelingStones$Parish", "walkers", "I", false)
  | 2 => ("KneelingStones$Parish", "wish", "I", false)
  | _ => ("KneelingStones$Parish", "sin", "I", false)
def tyX0 : Nat → FieldType := fun k => match k with
  | 0 => .int
  | 1 => .int
  | 2 => .int
  | _ => .int
abbrev wsX00 : List Cond := u_ws RX0 TX0 4
theorem nmX0 : ∀ a, a < 4 → ∀ b, b < 4 → a ≠ b → (TX0 a).2.1 ≠ (TX0 b).2.1 := by decide +kernel
theorem tyX0_ok : ∀ k, k < 4 → parseFieldDescriptor (TX0 k).2.2.1 = some (tyX0 k) := by decide +kernel
abbrev cX0_init : ByteArray := prog_2_method_1_code
def yX0_init : MethodName := ⟨RX0, "<init>", "(I)V"⟩
abbrev cX0_kind : ByteArray := prog_2_method_2_code
def yX0_kind : MethodName := ⟨RX0, "kind", "()I"⟩
abbrev cX0_sinsAtMost : ByteArray := prog_2_method_3_code
def yX0_sinsAtMost : MethodName := ⟨RX0, "sinsAtMost", "()Z"⟩
def RX1 : String := "KneelingStones$Custom"
def TX1 : u_T := fun k => match k with
  | 0 => ("KneelingStones$Custom", "wishRule", "I", true)
  | 1 => ("KneelingStones$Custom", "sinRule", "I", true)
  | _ => ("KneelingStones$Custom", "every", "I", true)
def tyX1 : Nat → FieldType := fun k => match k with
  | 0 => .int
  | 1 => .int
  | _ => .int
abbrev wsX10 : List Cond := u_ws RX1 TX1 3
theorem nmX1 : ∀ a, a < 3 → ∀ b, b < 3 → a ≠ b → (TX1 a).2.1 ≠ (TX1 b).2.1 := by decide +kernel
theorem tyX1_ok : ∀ k, k < 3 → parseFieldDescriptor (TX1 k).2.2.1 = some (tyX1 k) := by decide +kernel
abbrev cX1_init : ByteArray := prog_3_method_1_code
def yX1_init : MethodName := ⟨RX1, "<init>", "(III)V"⟩
abbrev cX1_told : ByteArray := prog_3_method_2_code
def yX1_told : MethodName := ⟨RX1, "told", "(I)I"⟩
abbrev cX1_floodsIn : ByteArray := prog_3_method_3_code
def yX1_floodsIn : MethodName := ⟨RX1, "floodsIn", "(I)Z"⟩
def RX2 : String := "KneelingStones$Moor"
def TX2 : u_T := fun k => match k with
  | 0 => ("KneelingStones$Moor", "heights", "[I", true)
  | 1 => ("KneelingStones$Moor", "marks", "[I", true)
  | 2 => ("KneelingStones$Moor", "week", "I", false)
  | 3 => ("KneelingStones$Moor", "last", "I", false)
  | 4 => ("KneelingStones$Moor", "seed", "I", false)
  | 5 => ("KneelingStones$Moor", "laid", "I", false)
  | 6 => ("KneelingStones$Moor", "taken", "I", false)
  | _ => ("KneelingStones$Moor", "spilt", "I", false)
def tyX2 : Nat → FieldType := fun k => match k with
  | 0 => .array .int
  | 1 => .array .int
  | 2 => .int
  | 3 => .int
  | 4 => .int
  | 5 => .int
  | 6 => .int
  | _ => .int
abbrev wsX20 : List Cond := u_ws RX2 TX2 8
theorem nmX2 : ∀ a, a < 8 → ∀ b, b < 8 → a ≠ b → (TX2 a).2.1 ≠ (TX2 b).2.1 := by decide +kernel
theorem tyX2_ok : ∀ k, k < 8 → parseFieldDescriptor (TX2 k).2.2.1 = some (tyX2 k) := by decide +kernel
abbrev cX2_init : ByteArray := prog_4_method_1_code
def yX2_init : MethodName := ⟨RX2, "<init>", "()V"⟩
abbrev cX2_become : ByteArray := prog_4_method_2_code
def yX2_become : MethodName := ⟨RX2, "become", "(LKneelingStones$Moor;)V"⟩
abbrev cX2_pebbles : ByteArray := prog_4_method_3_code
def yX2_pebbles : MethodName := ⟨RX2, "pebbles", "()I"⟩
abbrev cX2_markAt : ByteArray := prog_4_method_4_code
def yX2_markAt : MethodName := ⟨RX2, "markAt", "(II)I"⟩
abbrev cX2_most : ByteArray := prog_4_method_5_code
def yX2_most : MethodName := ⟨RX2, "most", "()I"⟩
abbrev cX2_fewest : ByteArray := prog_4_method_6_code
def yX2_fewest : MethodName := ⟨RX2, "fewest", "()I"⟩
abbrev cX2_aheadOf : ByteArray := prog_4_method_7_code
def yX2_aheadOf : MethodName := ⟨RX2, "aheadOf", "(I)I"⟩
abbrev cX2_hasMostAlone : ByteArray := prog_4_method_8_code
def yX2_hasMostAlone : MethodName := ⟨RX2, "hasMostAlone", "(I)Z"⟩
abbrev cX2_surplusOver : ByteArray := prog_4_method_9_code
def yX2_surplusOver : MethodName := ⟨RX2, "surplusOver", "(II)I"⟩
abbrev cX2_layNew : ByteArray := prog_4_method_10_code
def yX2_layNew : MethodName := ⟨RX2, "layNew", "(II)V"⟩
abbrev cX2_takeOff : ByteArray := prog_4_method_11_code
def yX2_takeOff : MethodName := ⟨RX2, "takeOff", "(II)V"⟩
abbrev cX2_goOneWeek : ByteArray := prog_4_method_12_code
def yX2_goOneWeek : MethodName := ⟨RX2, "goOneWeek", "(LKneelingStones$Custom;[LKneelingStones$Parish;)V"⟩
abbrev cX2_walk : ByteArray := prog_4_method_13_code
def yX2_walk : MethodName := ⟨RX2, "walk", "(LKneelingStones$Custom;LKneelingStones$Parish;I)V"⟩
abbrev cX2_steal : ByteArray := prog_4_method_14_code
def yX2_steal : MethodName := ⟨RX2, "steal", "(II)V"⟩
abbrev cX2_flood : ByteArray := prog_4_method_15_code
def yX2_flood : MethodName := ⟨RX2, "flood", "()V"⟩
abbrev cX2_put : ByteArray := prog_4_method_16_code
def yX2_put : MethodName := ⟨RX2, "put", "(II)V"⟩
abbrev cX2_cairnBy : ByteArray := prog_4_method_17_code
def yX2_cairnBy : MethodName := ⟨RX2, "cairnBy", "(II)I"⟩
abbrev cX2_draw : ByteArray := prog_4_method_18_code
def yX2_draw : MethodName := ⟨RX2, "draw", "()I"⟩
def RX3 : String := "KneelingStones$Odds"
def TX3 : u_T := fun k => match k with
  | _ => ("", "", "", false)
def tyX3 : Nat → FieldType := fun k => match k with
  | _ => .int
abbrev wsX30 : List Cond := u_ws RX3 TX3 0
theorem nmX3 : ∀ a, a < 0 → ∀ b, b < 0 → a ≠ b → (TX3 a).2.1 ≠ (TX3 b).2.1 := by decide +kernel
theorem tyX3_ok : ∀ k, k < 0 → parseFieldDescriptor (TX3 k).2.2.1 = some (tyX3 k) := by decide +kernel
abbrev cX3_whole : ByteArray := prog_5_method_2_code
def yX3_whole : MethodName := ⟨RX3, "whole", "(LKneelingStones$Parish;)J"⟩
abbrev cX3_of : ByteArray := prog_5_method_3_code
def yX3_of : MethodName := ⟨RX3, "of", "(LKneelingStones$Parish;II)J"⟩
abbrev cX3_ofNet : ByteArray := prog_5_method_4_code
def yX3_ofNet : MethodName := ⟨RX3, "ofNet", "(LKneelingStones$Parish;II)J"⟩
abbrev cX3_power : ByteArray := prog_5_method_5_code
def yX3_power : MethodName := ⟨RX3, "power", "(II)J"⟩
abbrev cX3_choices : ByteArray := prog_5_method_6_code
def yX3_choices : MethodName := ⟨RX3, "choices", "(II)J"⟩
def RX4 : String := "KneelingStones$Page"
def TX4 : u_T := fun k => match k with
  | 0 => ("KneelingStones$Page", "codes", "[I", true)
  | _ => ("KneelingStones$Page", "length", "I", false)
def tyX4 : Nat → FieldType := fun k => match k with
  | 0 => .array .int
  | _ => .int
abbrev wsX40 : List Cond := u_ws RX4 TX4 2
theorem nmX4 : ∀ a, a < 2 → ∀ b, b < 2 → a ≠ b → (TX4 a).2.1 ≠ (TX4 b).2.1 := by decide +kernel
theorem tyX4_ok : ∀ k, k < 2 → parseFieldDescriptor (TX4 k).2.2.1 = some (tyX4 k) := by decide +kernel
abbrev cX4_init : ByteArray := prog_6_method_1_code
def yX4_init : MethodName := ⟨RX4, "<init>", "()V"⟩
abbrev cX4_lettersIn : ByteArray := prog_6_method_2_code
def yX4_lettersIn : MethodName := ⟨RX4, "lettersIn", "(J)I"⟩
abbrev cX4_codeAt : ByteArray := prog_6_method_3_code
def yX4_codeAt : MethodName := ⟨RX4, "codeAt", "(JI)I"⟩
abbrev cX4_write : ByteArray := prog_6_method_4_code
def yX4_write : MethodName := ⟨RX4, "write", "(JI)V"⟩
abbrev cX4_firstWrong : ByteArray := prog_6_method_5_code
def yX4_firstWrong : MethodName := ⟨RX4, "firstWrong", "()I"⟩
abbrev cX4_isCustom : ByteArray := prog_6_method_6_code
def yX4_isCustom : MethodName := ⟨RX4, "isCustom", "()Z"⟩
abbrev cX4_asCustom : ByteArray := prog_6_method_7_code
def yX4_asCustom : MethodName := ⟨RX4, "asCustom", "()LKneelingStones$Custom;"⟩
abbrev cX4_codeOf : ByteArray := prog_6_method_8_code
def yX4_codeOf : MethodName := ⟨RX4, "codeOf", "(I)I"⟩
abbrev cX4_fits : ByteArray := prog_6_method_9_code
def yX4_fits : MethodName := ⟨RX4, "fits", "(II)Z"⟩
abbrev cX4_ruleOf : ByteArray := prog_6_method_10_code
def yX4_ruleOf : MethodName := ⟨RX4, "ruleOf", "(I)I"⟩
def RX5 : String := "KneelingStones$Parish"
def TX5 : u_T := fun k => match k with
  | 0 => ("KneelingStones$Parish", "n", "I", true)
  | 1 => ("KneelingStones$Parish", "walkers", "I", false)
  | 2 => ("KneelingStones$Parish", "wish", "I", false)
  | _ => ("KneelingStones$Parish", "sin", "I", false)
def tyX5 : Nat → FieldType := fun k => match k with
  | 0 => .int
  | 1 => .int
  | 2 => .int
  | _ => .int
abbrev wsX50 : List Cond := u_ws RX5 TX5 4
theorem nmX5 : ∀ a, a < 4 → ∀ b, b < 4 → a ≠ b → (TX5 a).2.1 ≠ (TX5 b).2.1 := by decide +kernel
theorem tyX5_ok : ∀ k, k < 4 → parseFieldDescriptor (TX5 k).2.2.1 = some (tyX5 k) := by decide +kernel
abbrev cX5_init : ByteArray := prog_7_method_1_code
def yX5_init : MethodName := ⟨RX5, "<init>", "(I)V"⟩
abbrev cX5_kind : ByteArray := prog_7_method_2_code
def yX5_kind : MethodName := ⟨RX5, "kind", "()I"⟩
abbrev cX5_gift : ByteArray := prog_7_method_3_code
def yX5_gift : MethodName := ⟨RX5, "gift", "()I"⟩
abbrev cX5_loss : ByteArray := prog_7_method_4_code
def yX5_loss : MethodName := ⟨RX5, "loss", "()I"⟩
abbrev cX5_hidesOn : ByteArray := prog_7_method_5_code
def yX5_hidesOn : MethodName := ⟨RX5, "hidesOn", "()I"⟩
abbrev cX5_sinsAtMost : ByteArray := prog_7_method_6_code
def yX5_sinsAtMost : MethodName := ⟨RX5, "sinsAtMost", "()Z"⟩
abbrev cX5_told : ByteArray := prog_7_method_7_code
def yX5_told : MethodName := ⟨RX5, "told", "(I)I"⟩
abbrev cX5_canWish : ByteArray := prog_7_method_8_code
def yX5_canWish : MethodName := ⟨RX5, "canWish", "()Z"⟩
abbrev cX5_canSin : ByteArray := prog_7_method_9_code
def yX5_canSin : MethodName := ⟨RX5, "canSin", "()Z"⟩
abbrev cX5_canRest : ByteArray := prog_7_method_10_code
def yX5_canRest : MethodName := ⟨RX5, "canRest", "()Z"⟩
def RX6 : String := "KneelingStones$Pious"
def TX6 : u_T := fun k => match k with
  | 0 => ("KneelingStones$Parish", "n", "I", true)
  | 1 => ("KneelingStones$Parish", "walkers", "I", false)
  | 2 => ("KneelingStones$Parish", "wish", "I", false)
  | _ => ("KneelingStones$Parish", "sin", "I", false)
def tyX6 : Nat → FieldType := fun k => match k with
  | 0 => .int
  | 1 => .int
  | 2 => .int
  | _ => .int
abbrev wsX60 : List Cond := u_ws RX6 TX6 4
theorem nmX6 : ∀ a, a < 4 → ∀ b, b < 4 → a ≠ b → (TX6 a).2.1 ≠ (TX6 b).2.1 := by decide +kernel
theorem tyX6_ok : ∀ k, k < 4 → parseFieldDescriptor (TX6 k).2.2.1 = some (tyX6 k) := by decide +kernel
abbrev cX6_init : ByteArray := prog_8_method_1_code
def yX6_init : MethodName := ⟨RX6, "<init>", "(I)V"⟩
abbrev cX6_kind : ByteArray := prog_8_method_2_code
def yX6_kind : MethodName := ⟨RX6, "kind", "()I"⟩
abbrev cX6_gift : ByteArray := prog_8_method_3_code
def yX6_gift : MethodName := ⟨RX6, "gift", "()I"⟩
def RX7 : String := "KneelingStones$Sly"
def TX7 : u_T := fun k => match k with
  | 0 => ("KneelingStones$Parish", "n", "I", true)
  | 1 => ("KneelingStones$Parish", "walkers", "I", false)
  | 2 => ("KneelingStones$Parish", "wish", "I", false)
  | _ => ("KneelingStones$Parish", "sin", "I", false)
def tyX7 : Nat → FieldType := fun k => match k with
  | 0 => .int
  | 1 => .int
  | 2 => .int
  | _ => .int
abbrev wsX70 : List Cond := u_ws RX7 TX7 4
theorem nmX7 : ∀ a, a < 4 → ∀ b, b < 4 → a ≠ b → (TX7 a).2.1 ≠ (TX7 b).2.1 := by decide +kernel
theorem tyX7_ok : ∀ k, k < 4 → parseFieldDescriptor (TX7 k).2.2.1 = some (tyX7 k) := by decide +kernel
abbrev cX7_init : ByteArray := prog_9_method_1_code
def yX7_init : MethodName := ⟨RX7, "<init>", "(I)V"⟩
abbrev cX7_kind : ByteArray := prog_9_method_2_code
def yX7_kind : MethodName := ⟨RX7, "kind", "()I"⟩
abbrev cX7_loss : ByteArray := prog_9_method_3_code
def yX7_loss : MethodName := ⟨RX7, "loss", "()I"⟩
abbrev cX7_hidesOn : ByteArray := prog_9_method_4_code
def yX7_hidesOn : MethodName := ⟨RX7, "hidesOn", "()I"⟩
def RX8 : String := "KneelingStones$Ways"
def TX8 : u_T := fun k => match k with
  | 0 => ("KneelingStones$Ways", "row", "[I", false)
  | _ => ("KneelingStones$Ways", "next", "[I", false)
def tyX8 : Nat → FieldType := fun k => match k with
  | 0 => .array .int
  | _ => .array .int
abbrev wsX80 : List Cond := u_ws RX8 TX8 2
theorem nmX8 : ∀ a, a < 2 → ∀ b, b < 2 → a ≠ b → (TX8 a).2.1 ≠ (TX8 b).2.1 := by decide +kernel
theorem tyX8_ok : ∀ k, k < 2 → parseFieldDescriptor (TX8 k).2.2.1 = some (tyX8 k) := by decide +kernel
abbrev cX8_init : ByteArray := prog_10_method_1_code
def yX8_init : MethodName := ⟨RX8, "<init>", "()V"⟩
abbrev cX8_fewestSins : ByteArray := prog_10_method_2_code
def yX8_fewestSins : MethodName := ⟨RX8, "fewestSins", "([LKneelingStones$Parish;I)I"⟩
abbrev cX8_mostSins : ByteArray := prog_10_method_3_code
def yX8_mostSins : MethodName := ⟨RX8, "mostSins", "([LKneelingStones$Parish;I)I"⟩
abbrev cX8_whoMust : ByteArray := prog_10_method_4_code
def yX8_whoMust : MethodName := ⟨RX8, "whoMust", "([LKneelingStones$Parish;I)I"⟩
abbrev cX8_whoMay : ByteArray := prog_10_method_5_code
def yX8_whoMay : MethodName := ⟨RX8, "whoMay", "([LKneelingStones$Parish;I)I"⟩
abbrev cX8_leastCost : ByteArray := prog_10_method_6_code
def yX8_leastCost : MethodName := ⟨RX8, "leastCost", "([LKneelingStones$Parish;II)I"⟩
abbrev cX8_canBeWithout : ByteArray := prog_10_method_7_code
def yX8_canBeWithout : MethodName := ⟨RX8, "canBeWithout", "([LKneelingStones$Parish;II)Z"⟩
abbrev cX8_canBeWith : ByteArray := prog_10_method_8_code
def yX8_canBeWith : MethodName := ⟨RX8, "canBeWith", "([LKneelingStones$Parish;II)Z"⟩
abbrev cX8_start : ByteArray := prog_10_method_9_code
def yX8_start : MethodName := ⟨RX8, "start", "()V"⟩
abbrev cX8_costOf : ByteArray := prog_10_method_10_code
def yX8_costOf : MethodName := ⟨RX8, "costOf", "(I)I"⟩
abbrev cX8_addAllBut : ByteArray := prog_10_method_11_code
def yX8_addAllBut : MethodName := ⟨RX8, "addAllBut", "([LKneelingStones$Parish;II)V"⟩
abbrev cX8_addWalker : ByteArray := prog_10_method_12_code
def yX8_addWalker : MethodName := ⟨RX8, "addWalker", "(LKneelingStones$Parish;ZI)V"⟩
abbrev cX8_offer : ByteArray := prog_10_method_13_code
def yX8_offer : MethodName := ⟨RX8, "offer", "(II)V"⟩
def RX9 : String := "KneelingStones"
def TX9 : u_T := fun k => match k with
  | 0 => ("KneelingStones", "page", "LKneelingStones$Page;", true)
  | 1 => ("KneelingStones", "customs", "[LKneelingStones$Custom;", true)
  | 2 => ("KneelingStones", "customCount", "I", false)
  | 3 => ("KneelingStones", "parishes", "[LKneelingStones$Parish;", true)
  | 4 => ("KneelingStones", "parishCount", "I", false)
  | 5 => ("KneelingStones", "now", "LKneelingStones$Moor;", true)
  | 6 => ("KneelingStones", "kept", "LKneelingStones$Moor;", true)
  | 7 => ("KneelingStones", "isKept", "Z", false)
  | 8 => ("KneelingStones", "dream", "LKneelingStones$Moor;", true)
  | 9 => ("KneelingStones", "sizes", "[I", true)
  | _ => ("KneelingStones", "ways", "LKneelingStones$Ways;", true)
def tyX9 : Nat → FieldType := fun k => match k with
  | 0 => .object "KneelingStones$Page"
  | 1 => .array (.object "KneelingStones$Custom")
  | 2 => .int
  | 3 => .array (.object "KneelingStones$Parish")
  | 4 => .int
  | 5 => .object "KneelingStones$Moor"
  | 6 => .object "KneelingStones$Moor"
  | 7 => .boolean
  | 8 => .object "KneelingStones$Moor"
  | 9 => .array .int
  | _ => .object "KneelingStones$Ways"
abbrev wsX90 : List Cond := u_ws RX9 TX9 11
theorem nmX9 : ∀ a, a < 11 → ∀ b, b < 11 → a ≠ b → (TX9 a).2.1 ≠ (TX9 b).2.1 := by decide +kernel
theorem tyX9_ok : ∀ k, k < 11 → parseFieldDescriptor (TX9 k).2.2.1 = some (tyX9 k) := by decide +kernel
abbrev cX9_init : ByteArray := prog_1_method_1_code
def yX9_init : MethodName := ⟨RX9, "<init>", "()V"⟩
abbrev cX9_letters : ByteArray := prog_1_method_2_code
def yX9_letters : MethodName := ⟨RX9, "letters", "(J)I"⟩
abbrev cX9_blank : ByteArray := prog_1_method_3_code
def yX9_blank : MethodName := ⟨RX9, "blank", "()I"⟩
abbrev cX9_fault : ByteArray := prog_1_method_4_code
def yX9_fault : MethodName := ⟨RX9, "fault", "()I"⟩
abbrev cX9_custom : ByteArray := prog_1_method_5_code
def yX9_custom : MethodName := ⟨RX9, "custom", "()I"⟩
abbrev cX9_customTold : ByteArray := prog_1_method_6_code
def yX9_customTold : MethodName := ⟨RX9, "customTold", "(II)I"⟩
abbrev cX9_parish : ByteArray := prog_1_method_7_code
def yX9_parish : MethodName := ⟨RX9, "parish", "(IIIII)I"⟩
abbrev cX9_as : ByteArray := prog_1_method_8_code
def yX9_as : MethodName := ⟨RX9, "as", "(II)I"⟩
abbrev cX9_about : ByteArray := prog_1_method_9_code
def yX9_about : MethodName := ⟨RX9, "about", "(II)I"⟩
abbrev cX9_change : ByteArray := prog_1_method_10_code
def yX9_change : MethodName := ⟨RX9, "change", "(III)I"⟩
abbrev cX9_lay : ByteArray := prog_1_method_11_code
def yX9_lay : MethodName := ⟨RX9, "lay", "(II)I"⟩
abbrev cX9_take : ByteArray := prog_1_method_12_code
def yX9_take : MethodName := ⟨RX9, "take", "(II)I"⟩
abbrev cX9_height : ByteArray := prog_1_method_13_code
def yX9_height : MethodName := ⟨RX9, "height", "(I)I"⟩
abbrev cX9_mark : ByteArray := prog_1_method_14_code
def yX9_mark : MethodName := ⟨RX9, "mark", "(II)I"⟩
abbrev cX9_dated : ByteArray := prog_1_method_15_code
def yX9_dated : MethodName := ⟨RX9, "dated", "(II)I"⟩
abbrev cX9_seed : ByteArray := prog_1_method_16_code
def yX9_seed : MethodName := ⟨RX9, "seed", "(I)I"⟩
abbrev cX9_weeks : ByteArray := prog_1_method_17_code
def yX9_weeks : MethodName := ⟨RX9, "weeks", "(II)I"⟩
abbrev cX9_would : ByteArray := prog_1_method_18_code
def yX9_would : MethodName := ⟨RX9, "would", "(III)I"⟩
abbrev cX9_order : ByteArray := prog_1_method_19_code
def yX9_order : MethodName := ⟨RX9, "order", "(I)I"⟩
abbrev cX9_odds : ByteArray := prog_1_method_20_code
def yX9_odds : MethodName := ⟨RX9, "odds", "(IIII)J"⟩
abbrev cX9_chance : ByteArray := prog_1_method_21_code
def yX9_chance : MethodName := ⟨RX9, "chance", "(III)J"⟩
abbrev cX9_sinned : ByteArray := prog_1_method_22_code
def yX9_sinned : MethodName := ⟨RX9, "sinned", "(III)J"⟩
abbrev cX9_bounds : ByteArray := prog_1_method_23_code
def yX9_bounds : MethodName := ⟨RX9, "bounds", "(II)I"⟩
abbrev cX9_shows : ByteArray := prog_1_method_24_code
def yX9_shows : MethodName := ⟨RX9, "shows", "(III)I"⟩
abbrev cX9_gone : ByteArray := prog_1_method_25_code
def yX9_gone : MethodName := ⟨RX9, "gone", "(II)I"⟩
abbrev cX9_saved : ByteArray := prog_1_method_26_code
def yX9_saved : MethodName := ⟨RX9, "saved", "(III)I"⟩
abbrev cX9_unlike : ByteArray := prog_1_method_27_code
def yX9_unlike : MethodName := ⟨RX9, "unlike", "(III)I"⟩
abbrev cX9_lie : ByteArray := prog_1_method_28_code
def yX9_lie : MethodName := ⟨RX9, "lie", "(I)I"⟩
abbrev cX9_image : ByteArray := prog_1_method_29_code
def yX9_image : MethodName := ⟨RX9, "image", "()I"⟩
abbrev cX9_restore : ByteArray := prog_1_method_30_code
def yX9_restore : MethodName := ⟨RX9, "restore", "()I"⟩
abbrev cX9_count : ByteArray := prog_1_method_31_code
def yX9_count : MethodName := ⟨RX9, "count", "(I)I"⟩
abbrev cX9_digest : ByteArray := prog_1_method_32_code
def yX9_digest : MethodName := ⟨RX9, "digest", "()J"⟩
abbrev cX9_withCairns : ByteArray := prog_1_method_33_code
def yX9_withCairns : MethodName := ⟨RX9, "withCairns", "(J)J"⟩
abbrev cX9_withParishes : ByteArray := prog_1_method_34_code
def yX9_withParishes : MethodName := ⟨RX9, "withParishes", "(J)J"⟩
abbrev cX9_withCustoms : ByteArray := prog_1_method_35_code
def yX9_withCustoms : MethodName := ⟨RX9, "withCustoms", "(J)J"⟩
abbrev cX9_customAt : ByteArray := prog_1_method_36_code
def yX9_customAt : MethodName := ⟨RX9, "customAt", "(I)LKneelingStones$Custom;"⟩
abbrev cX9_parishAt : ByteArray := prog_1_method_37_code
def yX9_parishAt : MethodName := ⟨RX9, "parishAt", "(I)LKneelingStones$Parish;"⟩
abbrev cX9_isCairn : ByteArray := prog_1_method_38_code
def yX9_isCairn : MethodName := ⟨RX9, "isCairn", "(I)Z"⟩
abbrev cX9_isNetOfOne : ByteArray := prog_1_method_39_code
def yX9_isNetOfOne : MethodName := ⟨RX9, "isNetOfOne", "(I)Z"⟩
abbrev cX9_isKindWith : ByteArray := prog_1_method_40_code
def yX9_isKindWith : MethodName := ⟨RX9, "isKindWith", "(II)Z"⟩
abbrev cX9_mayBe : ByteArray := prog_1_method_41_code
def yX9_mayBe : MethodName := ⟨RX9, "mayBe", "(II)Z"⟩
abbrev cX9_madeOf : ByteArray := prog_1_method_42_code
def yX9_madeOf : MethodName := ⟨RX9, "madeOf", "(II)LKneelingStones$Parish;"⟩
abbrev cX9_isOf : ByteArray := prog_1_method_43_code
def yX9_isOf : MethodName := ⟨RX9, "isOf", "(LKneelingStones$Parish;I)Z"⟩
abbrev cX9_dreamOf : ByteArray := prog_1_method_44_code
def yX9_dreamOf : MethodName := ⟨RX9, "dreamOf", "(LKneelingStones$Custom;I)V"⟩
abbrev cX9_dreamTillEmpty : ByteArray := prog_1_method_45_code
def yX9_dreamTillEmpty : MethodName := ⟨RX9, "dreamTillEmpty", "(LKneelingStones$Custom;II)I"⟩
abbrev cX9_inLowest : ByteArray := prog_1_method_46_code
def yX9_inLowest : MethodName := ⟨RX9, "inLowest", "(JJI)J"⟩
abbrev cX9_commonDivisor : ByteArray := prog_1_method_47_code
def yX9_commonDivisor : MethodName := ⟨RX9, "commonDivisor", "(JJ)J"⟩
def RX10 : String := "KneelingStonesModel"
def TX10 : u_T := fun k => match k with
  | 0 => ("KneelingStonesModel", "marks", "[I", true)
  | 1 => ("KneelingStonesModel", "height", "[I", true)
  | 2 => ("KneelingStonesModel", "week", "I", false)
  | 3 => ("KneelingStonesModel", "last", "I", false)
  | 4 => ("KneelingStonesModel", "seedNow", "J", false)
  | 5 => ("KneelingStonesModel", "laidAll", "I", false)
  | 6 => ("KneelingStonesModel", "takenAll", "I", false)
  | 7 => ("KneelingStonesModel", "spiltAll", "I", false)
  | 8 => ("KneelingStonesModel", "parishes", "I", false)
  | 9 => ("KneelingStonesModel", "kindOf", "[I", true)
  | 10 => ("KneelingStonesModel", "numberOf", "[I", true)
  | 11 => ("KneelingStonesModel", "walkersOf", "[I", true)
  | 12 => ("KneelingStonesModel", "wishOf", "[I", true)
  | 13 => ("KneelingStonesModel", "sinOf", "[I", true)
  | 14 => ("KneelingStonesModel", "customs", "I", false)
  | 15 => ("KneelingStonesModel", "wishRule", "[I", true)
  | 16 => ("KneelingStonesModel", "sinRule", "[I", true)
  | 17 => ("KneelingStonesModel", "everyOf", "[I", true)
  | 18 => ("KneelingStonesModel", "pageLength", "I", false)
  | 19 => ("KneelingStonesModel", "page", "[B", true)
  | 20 => ("KneelingStonesModel", "isKept", "Z", false)
  | 21 => ("KneelingStonesModel", "keptSeed", "J", false)
  | 22 => ("KneelingStonesModel", "keptOf", "[I", true)
  | 23 => ("KneelingStonesModel", "savedSeed", "J", false)
  | 24 => ("KneelingStonesModel", "savedOf", "[I", true)
  | 25 => ("KneelingStonesModel", "faultAt", "I", false)
  | 26 => ("KneelingStonesModel", "isWhole", "Z", false)
  | 27 => ("KneelingStonesModel", "newWish", "I", false)
  | 28 => ("KneelingStonesModel", "newSin", "I", false)
  | 29 => ("KneelingStonesModel", "newEvery", "I", false)
  | 30 => ("KneelingStonesModel", "fewest", "[I", true)
  | 31 => ("KneelingStonesModel", "most", "[I", true)
  | 32 => ("KneelingStonesModel", "fewestThen", "[I", true)
  | 33 => ("KneelingStonesModel", "mostThen", "[I", true)
  | _ => ("KneelingStonesModel", "h", "J", false)
def tyX10 : Nat → FieldType := fun k => match k with
  | 0 => .array .int
  | 1 => .array .int
  | 2 => .int
  | 3 => .int
  | 4 => .long
  | 5 => .int
  | 6 => .int
  | 7 => .int
  | 8 => .int
  | 9 => .array .int
  | 10 => .array .int
  | 11 => .array .int
  | 12 => .array .int
  | 13 => .array .int
  | 14 => .int
  | 15 => .array .int
  | 16 => .array .int
  | 17 => .array .int
  | 18 => .int
  | 19 => .array .byte
  | 20 => .boolean
  | 21 => .long
  | 22 => .array .int
  | 23 => .long
  | 24 => .array .int
  | 25 => .int
  | 26 => .boolean
  | 27 => .int
  | 28 => .int
  | 29 => .int
  | 30 => .array .int
  | 31 => .array .int
  | 32 => .array .int
  | 33 => .array .int
  | _ => .long
abbrev wsX100 : List Cond := u_ws RX10 TX10 35
theorem nmX10 : ∀ a, a < 35 → ∀ b, b < 35 → a ≠ b → (TX10 a).2.1 ≠ (TX10 b).2.1 := by decide +kernel
theorem tyX10_ok : ∀ k, k < 35 → parseFieldDescriptor (TX10 k).2.2.1 = some (tyX10 k) := by decide +kernel
abbrev cX10_init : ByteArray := prog_12_method_1_code
def yX10_init : MethodName := ⟨RX10, "<init>", "()V"⟩
abbrev cX10_within : ByteArray := prog_12_method_3_code
def yX10_within : MethodName := ⟨RX10, "within", "(III)Z"⟩
abbrev cX10_letters : ByteArray := prog_12_method_4_code
def yX10_letters : MethodName := ⟨RX10, "letters", "(J)I"⟩
abbrev cX10_blank : ByteArray := prog_12_method_5_code
def yX10_blank : MethodName := ⟨RX10, "blank", "()I"⟩
abbrev cX10_ruleBy : ByteArray := prog_12_method_6_code
def yX10_ruleBy : MethodName := ⟨RX10, "ruleBy", "(I)I"⟩
abbrev cX10_nextState : ByteArray := prog_12_method_7_code
def yX10_nextState : MethodName := ⟨RX10, "nextState", "(II)I"⟩
abbrev cX10_readCustom : ByteArray := prog_12_method_8_code
def yX10_readCustom : MethodName := ⟨RX10, "readCustom", "()V"⟩
abbrev cX10_fault : ByteArray := prog_12_method_9_code
def yX10_fault : MethodName := ⟨RX10, "fault", "()I"⟩
abbrev cX10_custom : ByteArray := prog_12_method_10_code
def yX10_custom : MethodName := ⟨RX10, "custom", "()I"⟩
abbrev cX10_isCustom : ByteArray := prog_12_method_11_code
def yX10_isCustom : MethodName := ⟨RX10, "isCustom", "(I)Z"⟩
abbrev cX10_customNow : ByteArray := prog_12_method_12_code
def yX10_customNow : MethodName := ⟨RX10, "customNow", "(II)I"⟩
abbrev cX10_customTold : ByteArray := prog_12_method_13_code
def yX10_customTold : MethodName := ⟨RX10, "customTold", "(II)I"⟩
abbrev cX10_isParish : ByteArray := prog_12_method_14_code
def yX10_isParish : MethodName := ⟨RX10, "isParish", "(I)Z"⟩
abbrev cX10_isNumber : ByteArray := prog_12_method_15_code
def yX10_isNumber : MethodName := ⟨RX10, "isNumber", "(II)Z"⟩
abbrev cX10_isTold : ByteArray := prog_12_method_16_code
def yX10_isTold : MethodName := ⟨RX10, "isTold", "(II)Z"⟩
abbrev cX10_parish : ByteArray := prog_12_method_17_code
def yX10_parish : MethodName := ⟨RX10, "parish", "(IIIII)I"⟩
abbrev cX10_as : ByteArray := prog_12_method_18_code
def yX10_as : MethodName := ⟨RX10, "as", "(II)I"⟩
abbrev cX10_gift : ByteArray := prog_12_method_19_code
def yX10_gift : MethodName := ⟨RX10, "gift", "(I)I"⟩
abbrev cX10_parishNow : ByteArray := prog_12_method_20_code
def yX10_parishNow : MethodName := ⟨RX10, "parishNow", "(II)I"⟩
abbrev cX10_about : ByteArray := prog_12_method_21_code
def yX10_about : MethodName := ⟨RX10, "about", "(II)I"⟩
abbrev cX10_change : ByteArray := prog_12_method_22_code
def yX10_change : MethodName := ⟨RX10, "change", "(III)I"⟩
abbrev cX10_isCairn : ByteArray := prog_12_method_23_code
def yX10_isCairn : MethodName := ⟨RX10, "isCairn", "(I)Z"⟩
abbrev cX10_put : ByteArray := prog_12_method_24_code
def yX10_put : MethodName := ⟨RX10, "put", "(II)V"⟩
abbrev cX10_layAll : ByteArray := prog_12_method_25_code
def yX10_layAll : MethodName := ⟨RX10, "layAll", "(II)V"⟩
abbrev cX10_takeAll : ByteArray := prog_12_method_26_code
def yX10_takeAll : MethodName := ⟨RX10, "takeAll", "(II)V"⟩
abbrev cX10_lay : ByteArray := prog_12_method_27_code
def yX10_lay : MethodName := ⟨RX10, "lay", "(II)I"⟩
abbrev cX10_take : ByteArray := prog_12_method_28_code
def yX10_take : MethodName := ⟨RX10, "take", "(II)I"⟩
abbrev cX10_height : ByteArray := prog_12_method_29_code
def yX10_height : MethodName := ⟨RX10, "height", "(I)I"⟩
abbrev cX10_markOf : ByteArray := prog_12_method_30_code
def yX10_markOf : MethodName := ⟨RX10, "markOf", "(II)I"⟩
abbrev cX10_mark : ByteArray := prog_12_method_31_code
def yX10_mark : MethodName := ⟨RX10, "mark", "(II)I"⟩
abbrev cX10_dated : ByteArray := prog_12_method_32_code
def yX10_dated : MethodName := ⟨RX10, "dated", "(II)I"⟩
abbrev cX10_seed : ByteArray := prog_12_method_33_code
def yX10_seed : MethodName := ⟨RX10, "seed", "(I)I"⟩
abbrev cX10_pebbles : ByteArray := prog_12_method_34_code
def yX10_pebbles : MethodName := ⟨RX10, "pebbles", "()I"⟩
abbrev cX10_draw : ByteArray := prog_12_method_35_code
def yX10_draw : MethodName := ⟨RX10, "draw", "()I"⟩
abbrev cX10_withMost : ByteArray := prog_12_method_36_code
def yX10_withMost : MethodName := ⟨RX10, "withMost", "()I"⟩
abbrev cX10_withLeast : ByteArray := prog_12_method_37_code
def yX10_withLeast : MethodName := ⟨RX10, "withLeast", "()I"⟩
abbrev cX10_cairnBy : ByteArray := prog_12_method_38_code
def yX10_cairnBy : MethodName := ⟨RX10, "cairnBy", "(II)I"⟩
abbrev cX10_doWish : ByteArray := prog_12_method_39_code
def yX10_doWish : MethodName := ⟨RX10, "doWish", "(II)V"⟩
abbrev cX10_doSin : ByteArray := prog_12_method_40_code
def yX10_doSin : MethodName := ⟨RX10, "doSin", "(II)V"⟩
abbrev cX10_goWeek : ByteArray := prog_12_method_41_code
def yX10_goWeek : MethodName := ⟨RX10, "goWeek", "(I)V"⟩
abbrev cX10_weeks : ByteArray := prog_12_method_42_code
def yX10_weeks : MethodName := ⟨RX10, "weeks", "(II)I"⟩
abbrev cX10_save : ByteArray := prog_12_method_43_code
def yX10_save : MethodName := ⟨RX10, "save", "()V"⟩
abbrev cX10_back : ByteArray := prog_12_method_44_code
def yX10_back : MethodName := ⟨RX10, "back", "()V"⟩
abbrev cX10_wouldOf : ByteArray := prog_12_method_45_code
def yX10_wouldOf : MethodName := ⟨RX10, "wouldOf", "(III)I"⟩
abbrev cX10_would : ByteArray := prog_12_method_46_code
def yX10_would : MethodName := ⟨RX10, "would", "(III)I"⟩
abbrev cX10_order : ByteArray := prog_12_method_47_code
def yX10_order : MethodName := ⟨RX10, "order", "(I)I"⟩
abbrev cX10_lowest : ByteArray := prog_12_method_48_code
def yX10_lowest : MethodName := ⟨RX10, "lowest", "(JJI)J"⟩
abbrev cX10_choose : ByteArray := prog_12_method_49_code
def yX10_choose : MethodName := ⟨RX10, "choose", "(II)J"⟩
abbrev cX10_power : ByteArray := prog_12_method_50_code
def yX10_power : MethodName := ⟨RX10, "power", "(JI)J"⟩
abbrev cX10_oddsOf : ByteArray := prog_12_method_51_code
def yX10_oddsOf : MethodName := ⟨RX10, "oddsOf", "(III)J"⟩
abbrev cX10_whole : ByteArray := prog_12_method_52_code
def yX10_whole : MethodName := ⟨RX10, "whole", "(I)J"⟩
abbrev cX10_odds : ByteArray := prog_12_method_53_code
def yX10_odds : MethodName := ⟨RX10, "odds", "(IIII)J"⟩
abbrev cX10_netOf : ByteArray := prog_12_method_54_code
def yX10_netOf : MethodName := ⟨RX10, "netOf", "(III)I"⟩
abbrev cX10_netOdds : ByteArray := prog_12_method_55_code
def yX10_netOdds : MethodName := ⟨RX10, "netOdds", "(III)J"⟩
abbrev cX10_isNet : ByteArray := prog_12_method_56_code
def yX10_isNet : MethodName := ⟨RX10, "isNet", "(II)Z"⟩
abbrev cX10_chance : ByteArray := prog_12_method_57_code
def yX10_chance : MethodName := ⟨RX10, "chance", "(III)J"⟩
abbrev cX10_sinned : ByteArray := prog_12_method_58_code
def yX10_sinned : MethodName := ⟨RX10, "sinned", "(III)J"⟩
abbrev cX10_canBe : ByteArray := prog_12_method_59_code
def yX10_canBe : MethodName := ⟨RX10, "canBe", "(III)Z"⟩
abbrev cX10_addWay : ByteArray := prog_12_method_60_code
def yX10_addWay : MethodName := ⟨RX10, "addWay", "(II)V"⟩
abbrev cX10_layNets : ByteArray := prog_12_method_61_code
def yX10_layNets : MethodName := ⟨RX10, "layNets", "(III)V"⟩
abbrev cX10_canNet : ByteArray := prog_12_method_62_code
def yX10_canNet : MethodName := ⟨RX10, "canNet", "(IIII)Z"⟩
abbrev cX10_boundsOf : ByteArray := prog_12_method_63_code
def yX10_boundsOf : MethodName := ⟨RX10, "boundsOf", "(II)I"⟩
abbrev cX10_bounds : ByteArray := prog_12_method_64_code
def yX10_bounds : MethodName := ⟨RX10, "bounds", "(II)I"⟩
abbrev cX10_isAlone : ByteArray := prog_12_method_65_code
def yX10_isAlone : MethodName := ⟨RX10, "isAlone", "(I)Z"⟩
abbrev cX10_shows : ByteArray := prog_12_method_66_code
def yX10_shows : MethodName := ⟨RX10, "shows", "(III)I"⟩
abbrev cX10_gone : ByteArray := prog_12_method_67_code
def yX10_gone : MethodName := ⟨RX10, "gone", "(II)I"⟩
abbrev cX10_saves : ByteArray := prog_12_method_68_code
def yX10_saves : MethodName := ⟨RX10, "saves", "(IIII)Z"⟩
abbrev cX10_saved : ByteArray := prog_12_method_69_code
def yX10_saved : MethodName := ⟨RX10, "saved", "(III)I"⟩
abbrev cX10_unlike : ByteArray := prog_12_method_70_code
def yX10_unlike : MethodName := ⟨RX10, "unlike", "(III)I"⟩
abbrev cX10_lie : ByteArray := prog_12_method_71_code
def yX10_lie : MethodName := ⟨RX10, "lie", "(I)I"⟩
abbrev cX10_image : ByteArray := prog_12_method_72_code
def yX10_image : MethodName := ⟨RX10, "image", "()I"⟩
abbrev cX10_restore : ByteArray := prog_12_method_73_code
def yX10_restore : MethodName := ⟨RX10, "restore", "()I"⟩
abbrev cX10_howMany : ByteArray := prog_12_method_74_code
def yX10_howMany : MethodName := ⟨RX10, "howMany", "(I)I"⟩
abbrev cX10_count : ByteArray := prog_12_method_75_code
def yX10_count : MethodName := ⟨RX10, "count", "(I)I"⟩
abbrev cX10_mix : ByteArray := prog_12_method_76_code
def yX10_mix : MethodName := ⟨RX10, "mix", "(J)V"⟩
abbrev cX10_mixCustom : ByteArray := prog_12_method_77_code
def yX10_mixCustom : MethodName := ⟨RX10, "mixCustom", "(I)V"⟩
abbrev cX10_digest : ByteArray := prog_12_method_78_code
def yX10_digest : MethodName := ⟨RX10, "digest", "()J"⟩
def RJ9 : String := "java/lang/Math"
def TJ9 : u_T := fun k => match k with
  | _ => ("", "", "", false)
def tyJ9 : Nat → FieldType := fun k => match k with
  | _ => .int
abbrev wsJ90 : List Cond := u_ws RJ9 TJ9 0
theorem nmJ9 : ∀ a, a < 0 → ∀ b, b < 0 → a ≠ b → (TJ9 a).2.1 ≠ (TJ9 b).2.1 := by decide +kernel
theorem tyJ9_ok : ∀ k, k < 0 → parseFieldDescriptor (TJ9 k).2.2.1 = some (tyJ9 k) := by decide +kernel
abbrev cJ9_abs_0f7a4 : ByteArray := prog_13_method_59_code
def yJ9_abs_0f7a4 : MethodName := ⟨RJ9, "abs", "(I)I"⟩
abbrev cJ9_min_7cf53 : ByteArray := prog_13_method_69_code
def yJ9_min_7cf53 : MethodName := ⟨RJ9, "min", "(II)I"⟩
def RJ10 : String := "java/lang/System"
def TJ10 : u_T := fun k => match k with
  | _ => ("", "", "", false)
def tyJ10 : Nat → FieldType := fun k => match k with
  | _ => .int
abbrev wsJ100 : List Cond := u_ws RJ10 TJ10 0
theorem nmJ10 : ∀ a, a < 0 → ∀ b, b < 0 → a ≠ b → (TJ10 a).2.1 ≠ (TJ10 b).2.1 := by decide +kernel
theorem tyJ10_ok : ∀ k, k < 0 → parseFieldDescriptor (TJ10 k).2.2.1 = some (tyJ10 k) := by decide +kernel
def RJ7 : String := "java/util/Arrays"
def TJ7 : u_T := fun k => match k with
  | _ => ("", "", "", false)
def tyJ7 : Nat → FieldType := fun k => match k with
  | _ => .int
abbrev wsJ70 : List Cond := u_ws RJ7 TJ7 0
theorem nmJ7 : ∀ a, a < 0 → ∀ b, b < 0 → a ≠ b → (TJ7 a).2.1 ≠ (TJ7 b).2.1 := by decide +kernel
theorem tyJ7_ok : ∀ k, k < 0 → parseFieldDescriptor (TJ7 k).2.2.1 = some (tyJ7 k) := by decide +kernel
abbrev cJ7_fill_53178 : ByteArray := prog_15_method_103_code
def yJ7_fill_53178 : MethodName := ⟨RJ7, "fill", "([II)V"⟩
def RL : String := "KneelingStonesLaw"
abbrev cL_law : ByteArray := code
def yL_law : MethodName := ⟨RL, "law", "([I)Z"⟩
def wsX5_init : List Cond := .code yX5_init cX5_init 2 none :: ([.methodLink RX5 3 objectInit, .instanceMethod objectInit, .code objectInit ⟨#[0xb1]⟩ 1 none, .fieldLink RX5 9 "KneelingStones$Parish" "n" "I"] ++ wsX00 ++ wsX50 ++ wsX60 ++ wsX70)
def wsX7_init : List Cond := .code yX7_init cX7_init 2 none :: ([.methodLink RX7 3 yX5_init, .instanceMethod yX5_init, .initialized RX5, .code yX5_init cX5_init 2 none, .methodLink RX5 3 objectInit, .instanceMethod objectInit, .code objectInit ⟨#[0xb1]⟩ 1 none, .fieldLink RX5 9 "KneelingStones$Parish" "n" "I"] ++ wsX00 ++ wsX50 ++ wsX60 ++ wsX70)
def wsX0_init : List Cond := .code yX0_init cX0_init 2 none :: ([.methodLink RX0 3 yX7_init, .instanceMethod yX7_init, .initialized RX7, .code yX7_init cX7_init 2 none, .methodLink RX7 3 yX5_init, .instanceMethod yX5_init, .initialized RX5, .code yX5_init cX5_init 2 none, .methodLink RX5 3 objectInit, .instanceMethod objectInit, .code objectInit ⟨#[0xb1]⟩ 1 none, .fieldLink RX5 9 "KneelingStones$Parish" "n" "I"] ++ wsX00 ++ wsX50 ++ wsX60 ++ wsX70)
def wsX0_kind : List Cond := .code yX0_kind cX0_kind 1 (some .int) :: ([])
def wsX0_sinsAtMost : List Cond := .code yX0_sinsAtMost cX0_sinsAtMost 1 (some .boolean) :: ([])
def wsX1_init : List Cond := .code yX1_init cX1_init 4 none :: ([.methodLink RX1 1 objectInit, .instanceMethod objectInit, .code objectInit ⟨#[0xb1]⟩ 1 none, .fieldLink RX1 7 "KneelingStones$Custom" "wishRule" "I", .fieldLink RX1 13 "KneelingStones$Custom" "sinRule" "I", .fieldLink RX1 16 "KneelingStones$Custom" "every" "I"] ++ wsX10)
def wsX1_told : List Cond := .code yX1_told cX1_told 2 (some .int) :: ([.fieldLink RX1 7 "KneelingStones$Custom" "wishRule" "I", .fieldLink RX1 13 "KneelingStones$Custom" "sinRule" "I", .fieldLink RX1 16 "KneelingStones$Custom" "every" "I"] ++ wsX10)
def wsX1_floodsIn : List Cond := .code yX1_floodsIn cX1_floodsIn 2 (some .boolean) :: ([.fieldLink RX1 16 "KneelingStones$Custom" "every" "I"] ++ wsX10)
def wsX2_init : List Cond := .code yX2_init cX2_init 1 none :: ([.methodLink RX2 3 objectInit, .instanceMethod objectInit, .code objectInit ⟨#[0xb1]⟩ 1 none, .arrayClass .int, .fieldLink RX2 9 "KneelingStones$Moor" "heights" "[I", .fieldLink RX2 15 "KneelingStones$Moor" "marks" "[I", .fieldLink RX2 18 "KneelingStones$Moor" "seed" "I"] ++ wsX20)
def wsX2_become : List Cond := .code yX2_become cX2_become 2 none :: ([.fieldLink RX2 9 "KneelingStones$Moor" "heights" "[I", .methodLink RX2 22 arraycopyName, .native arraycopyName, .static arraycopyName, .initialized "java/lang/System", .fieldLink RX2 15 "KneelingStones$Moor" "marks" "[I", .fieldLink RX2 28 "KneelingStones$Moor" "week" "I", .fieldLink RX2 31 "KneelingStones$Moor" "last" "I", .fieldLink RX2 18 "KneelingStones$Moor" "seed" "I", .fieldLink RX2 34 "KneelingStones$Moor" "laid" "I", .fieldLink RX2 37 "KneelingStones$Moor" "taken" "I", .fieldLink RX2 40 "KneelingStones$Moor" "spilt" "I"] ++ wsX20)
def wsX2_pebbles : List Cond := .code yX2_pebbles cX2_pebbles 3 (some .int) :: ([.fieldLink RX2 9 "KneelingStones$Moor" "heights" "[I"] ++ wsX20)
def wsX9_isCairn : List Cond := .code yX9_isCairn cX9_isCairn 1 (some .boolean) :: ([])
def wsX2_markAt : List Cond := .code yX2_markAt cX2_markAt 4 (some .int) :: ([.fieldLink RX2 9 "KneelingStones$Moor" "heights" "[I", .fieldLink RX2 15 "KneelingStones$Moor" "marks" "[I", .static yX9_isCairn, .initialized RX9, .code yX9_isCairn cX9_isCairn 1 (some .boolean)] ++ wsX20)
def wsX2_most : List Cond := .code yX2_most cX2_most 3 (some .int) :: ([.fieldLink RX2 9 "KneelingStones$Moor" "heights" "[I"] ++ wsX20)
def wsX2_fewest : List Cond := .code yX2_fewest cX2_fewest 3 (some .int) :: ([.fieldLink RX2 9 "KneelingStones$Moor" "heights" "[I"] ++ wsX20)
def wsX2_aheadOf : List Cond := .code yX2_aheadOf cX2_aheadOf 4 (some .int) :: ([.fieldLink RX2 9 "KneelingStones$Moor" "heights" "[I", .static yX9_isCairn, .initialized RX9, .code yX9_isCairn cX9_isCairn 1 (some .boolean)] ++ wsX20)
def wsX2_surplusOver : List Cond := .code yX2_surplusOver cX2_surplusOver 5 (some .int) :: ([.fieldLink RX2 9 "KneelingStones$Moor" "heights" "[I"] ++ wsX20)
def wsX2_hasMostAlone : List Cond := .code yX2_hasMostAlone cX2_hasMostAlone 2 (some .boolean) :: ([.fieldLink RX2 9 "KneelingStones$Moor" "heights" "[I", .static yX9_isCairn, .initialized RX9, .code yX9_isCairn cX9_isCairn 1 (some .boolean), .methodLink RX2 47 yX2_surplusOver, .instanceMethod yX2_surplusOver, .selects RX2 yX2_surplusOver yX2_surplusOver, .initialized RX2, .code yX2_surplusOver cX2_surplusOver 5 (some .int)] ++ wsX20)
def wsX2_put : List Cond := .code yX2_put cX2_put 4 none :: ([.fieldLink RX2 9 "KneelingStones$Moor" "heights" "[I", .fieldLink RX2 40 "KneelingStones$Moor" "spilt" "I", .fieldLink RX2 15 "KneelingStones$Moor" "marks" "[I", .static yX9_isCairn, .initialized RX9, .code yX9_isCairn cX9_isCairn 1 (some .boolean)] ++ wsX20)
def wsX2_layNew : List Cond := .code yX2_layNew cX2_layNew 4 none :: ([.fieldLink RX2 28 "KneelingStones$Moor" "week" "I", .fieldLink RX2 34 "KneelingStones$Moor" "laid" "I", .methodLink RX2 51 yX2_put, .instanceMethod yX2_put, .selects RX2 yX2_put yX2_put, .initialized RX2, .code yX2_put cX2_put 4 none, .fieldLink RX2 9 "KneelingStones$Moor" "heights" "[I", .fieldLink RX2 40 "KneelingStones$Moor" "spilt" "I", .fieldLink RX2 15 "KneelingStones$Moor" "marks" "[I", .static yX9_isCairn, .initialized RX9, .code yX9_isCairn cX9_isCairn 1 (some .boolean)] ++ wsX20)
def wsX2_takeOff : List Cond := .code yX2_takeOff cX2_takeOff 4 none :: ([.fieldLink RX2 9 "KneelingStones$Moor" "heights" "[I", .methodLink RX2 55 Lib.Math.min.name, .static Lib.Math.min.name, .initialized "java/lang/Math", .code Lib.Math.min.name Lib.Math.min.code 2 (some .int), .fieldLink RX2 37 "KneelingStones$Moor" "taken" "I", .static yX9_isCairn, .initialized RX9, .code yX9_isCairn cX9_isCairn 1 (some .boolean)] ++ wsX20)
def wsX2_draw : List Cond := .code yX2_draw cX2_draw 1 (some .int) :: ([.constantLong RX2 124 (1103515245), .fieldLink RX2 18 "KneelingStones$Moor" "seed" "I", .constantLong RX2 126 (12345), .constantLong RX2 128 (2147483647)] ++ wsX20)
def wsX2_cairnBy : List Cond := .code yX2_cairnBy cX2_cairnBy 3 (some .int) :: ([.fieldLink RX2 31 "KneelingStones$Moor" "last" "I", .methodLink RX2 103 yX2_most, .instanceMethod yX2_most, .selects RX2 yX2_most yX2_most, .initialized RX2, .code yX2_most cX2_most 3 (some .int), .fieldLink RX2 9 "KneelingStones$Moor" "heights" "[I", .methodLink RX2 121 yX2_fewest, .instanceMethod yX2_fewest, .selects RX2 yX2_fewest yX2_fewest, .code yX2_fewest cX2_fewest 3 (some .int)] ++ wsX20)
def wsX5_gift : List Cond := .code yX5_gift cX5_gift 1 (some .int) :: ([])
def wsX6_gift : List Cond := .code yX6_gift cX6_gift 1 (some .int) :: ([.fieldLink RX6 9 "KneelingStones$Pious" "n" "I", .sameField "KneelingStones$Pious" "KneelingStones$Parish" "n" "I"] ++ wsX00 ++ wsX50 ++ wsX60 ++ wsX70)
def wsX5_sinsAtMost : List Cond := .code yX5_sinsAtMost cX5_sinsAtMost 1 (some .boolean) :: ([])
def wsX7_hidesOn : List Cond := .code yX7_hidesOn cX7_hidesOn 1 (some .int) :: ([.fieldLink RX7 9 "KneelingStones$Sly" "n" "I", .sameField "KneelingStones$Sly" "KneelingStones$Parish" "n" "I"] ++ wsX00 ++ wsX50 ++ wsX60 ++ wsX70)
def wsX5_hidesOn : List Cond := .code yX5_hidesOn cX5_hidesOn 1 (some .int) :: ([])
def wsX2_steal : List Cond := .code yX2_steal cX2_steal 4 none :: ([.fieldLink RX2 9 "KneelingStones$Moor" "heights" "[I", .methodLink RX2 115 yX2_takeOff, .instanceMethod yX2_takeOff, .selects RX2 yX2_takeOff yX2_takeOff, .initialized RX2, .code yX2_takeOff cX2_takeOff 4 none, .methodLink RX2 55 Lib.Math.min.name, .static Lib.Math.min.name, .initialized "java/lang/Math", .code Lib.Math.min.name Lib.Math.min.code 2 (some .int), .fieldLink RX2 37 "KneelingStones$Moor" "taken" "I", .static yX9_isCairn, .initialized RX9, .code yX9_isCairn cX9_isCairn 1 (some .boolean), .methodLink RX2 118 yX2_markAt, .instanceMethod yX2_markAt, .selects RX2 yX2_markAt yX2_markAt, .code yX2_markAt cX2_markAt 4 (some .int), .fieldLink RX2 15 "KneelingStones$Moor" "marks" "[I", .methodLink RX2 51 yX2_put, .instanceMethod yX2_put, .selects RX2 yX2_put yX2_put, .code yX2_put cX2_put 4 none, .fieldLink RX2 40 "KneelingStones$Moor" "spilt" "I"] ++ wsX20)
def wsX2_walk_r1 : List Cond := [Cond.fieldLink RX2 81 "KneelingStones$Parish" "wish" "I", Cond.fieldLink RX2 84 "KneelingStones$Custom" "wishRule" "I", Cond.fieldLink RX2 31 "KneelingStones$Moor" "last" "I", Cond.fieldLink RX2 96 "KneelingStones$Parish" "sin" "I", Cond.fieldLink RX2 106 "KneelingStones$Custom" "sinRule" "I", Cond.methodLink RX2 77 yX2_draw, Cond.instanceMethod yX2_draw, Cond.selects RX2 yX2_draw yX2_draw, Cond.initialized RX2, Cond.code yX2_draw cX2_draw 1 (some .int), Cond.constantLong RX2 124 (1103515245), Cond.fieldLink RX2 18 "KneelingStones$Moor" "seed" "I", Cond.constantLong RX2 126 (12345), Cond.constantLong RX2 128 (2147483647), Cond.methodLink RX2 87 yX2_cairnBy, Cond.instanceMethod yX2_cairnBy, Cond.selects RX2 yX2_cairnBy yX2_cairnBy, Cond.code yX2_cairnBy cX2_cairnBy 3 (some .int), Cond.methodLink RX2 103 yX2_most, Cond.instanceMethod yX2_most, Cond.selects RX2 yX2_most yX2_most, Cond.code yX2_most cX2_most 3 (some .int), Cond.fieldLink RX2 9 "KneelingStones$Moor" "heights" "[I", Cond.methodLink RX2 121 yX2_fewest]
def wsX2_walk_r2 : List Cond := [Cond.instanceMethod yX2_fewest, Cond.selects RX2 yX2_fewest yX2_fewest, Cond.code yX2_fewest cX2_fewest 3 (some .int), Cond.methodLink RX2 90 ⟨"KneelingStones$Parish", "gift", "()I"⟩, Cond.sameMethod "KneelingStones$Parish" "KneelingStones$Parish" "gift" "()I", Cond.selects RX0 ⟨"KneelingStones$Parish", "gift", "()I"⟩ yX5_gift, Cond.instanceMethod yX5_gift, Cond.initialized RX5, Cond.code yX5_gift cX5_gift 1 (some .int), Cond.methodLink RX2 90 yX5_gift, Cond.selects RX5 yX5_gift yX5_gift, Cond.instanceMethod ⟨"KneelingStones$Parish", "gift", "()I"⟩, Cond.selects RX6 ⟨"KneelingStones$Parish", "gift", "()I"⟩ yX6_gift, Cond.instanceMethod yX6_gift, Cond.initialized RX6, Cond.code yX6_gift cX6_gift 1 (some .int), Cond.fieldLink RX6 9 "KneelingStones$Pious" "n" "I", Cond.sameField "KneelingStones$Pious" "KneelingStones$Parish" "n" "I", Cond.selects RX7 ⟨"KneelingStones$Parish", "gift", "()I"⟩ yX5_gift, Cond.methodLink RX2 93 yX2_layNew, Cond.instanceMethod yX2_layNew, Cond.selects RX2 yX2_layNew yX2_layNew, Cond.code yX2_layNew cX2_layNew 4 none, Cond.fieldLink RX2 28 "KneelingStones$Moor" "week" "I"]
def wsX2_walk_r3 : List Cond := [Cond.fieldLink RX2 34 "KneelingStones$Moor" "laid" "I", Cond.methodLink RX2 51 yX2_put, Cond.instanceMethod yX2_put, Cond.selects RX2 yX2_put yX2_put, Cond.code yX2_put cX2_put 4 none, Cond.fieldLink RX2 40 "KneelingStones$Moor" "spilt" "I", Cond.fieldLink RX2 15 "KneelingStones$Moor" "marks" "[I", Cond.static yX9_isCairn, Cond.initialized RX9, Cond.code yX9_isCairn cX9_isCairn 1 (some .boolean), Cond.methodLink RX2 99 ⟨"KneelingStones$Parish", "sinsAtMost", "()Z"⟩, Cond.sameMethod "KneelingStones$Parish" "KneelingStones$Parish" "sinsAtMost" "()Z", Cond.instanceMethod ⟨"KneelingStones$Parish", "sinsAtMost", "()Z"⟩, Cond.selects RX0 ⟨"KneelingStones$Parish", "sinsAtMost", "()Z"⟩ yX0_sinsAtMost, Cond.instanceMethod yX0_sinsAtMost, Cond.initialized RX0, Cond.code yX0_sinsAtMost cX0_sinsAtMost 1 (some .boolean), Cond.code yX5_sinsAtMost cX5_sinsAtMost 1 (some .boolean), Cond.methodLink RX2 99 yX5_sinsAtMost, Cond.instanceMethod yX5_sinsAtMost, Cond.selects RX5 yX5_sinsAtMost yX5_sinsAtMost, Cond.selects RX6 ⟨"KneelingStones$Parish", "sinsAtMost", "()Z"⟩ yX5_sinsAtMost, Cond.selects RX7 ⟨"KneelingStones$Parish", "sinsAtMost", "()Z"⟩ yX5_sinsAtMost, Cond.methodLink RX2 109 ⟨"KneelingStones$Parish", "hidesOn", "()I"⟩]
def wsX2_walk_r4 : List Cond := [Cond.sameMethod "KneelingStones$Parish" "KneelingStones$Parish" "hidesOn" "()I", Cond.instanceMethod ⟨"KneelingStones$Parish", "hidesOn", "()I"⟩, Cond.selects RX0 ⟨"KneelingStones$Parish", "hidesOn", "()I"⟩ yX7_hidesOn, Cond.instanceMethod yX7_hidesOn, Cond.initialized RX7, Cond.code yX7_hidesOn cX7_hidesOn 1 (some .int), Cond.fieldLink RX7 9 "KneelingStones$Sly" "n" "I", Cond.sameField "KneelingStones$Sly" "KneelingStones$Parish" "n" "I", Cond.code yX5_hidesOn cX5_hidesOn 1 (some .int), Cond.methodLink RX2 109 yX5_hidesOn, Cond.instanceMethod yX5_hidesOn, Cond.selects RX5 yX5_hidesOn yX5_hidesOn, Cond.selects RX6 ⟨"KneelingStones$Parish", "hidesOn", "()I"⟩ yX5_hidesOn, Cond.selects RX7 ⟨"KneelingStones$Parish", "hidesOn", "()I"⟩ yX7_hidesOn, Cond.methodLink RX2 112 yX2_steal, Cond.instanceMethod yX2_steal, Cond.selects RX2 yX2_steal yX2_steal, Cond.code yX2_steal cX2_steal 4 none, Cond.methodLink RX2 115 yX2_takeOff, Cond.instanceMethod yX2_takeOff, Cond.selects RX2 yX2_takeOff yX2_takeOff, Cond.code yX2_takeOff cX2_takeOff 4 none, Cond.methodLink RX2 55 Lib.Math.min.name, Cond.static Lib.Math.min.name]
def wsX2_walk_r5 : List Cond := [Cond.initialized "java/lang/Math", Cond.code Lib.Math.min.name Lib.Math.min.code 2 (some .int), Cond.fieldLink RX2 37 "KneelingStones$Moor" "taken" "I", Cond.methodLink RX2 118 yX2_markAt, Cond.instanceMethod yX2_markAt, Cond.selects RX2 yX2_markAt yX2_markAt, Cond.code yX2_markAt cX2_markAt 4 (some .int)]
def wsX2_walk : List Cond := .code yX2_walk cX2_walk 5 none :: ((wsX2_walk_r1 ++ (wsX2_walk_r2 ++ (wsX2_walk_r3 ++ (wsX2_walk_r4 ++ wsX2_walk_r5)))) ++ wsX00 ++ wsX50 ++ wsX60 ++ wsX70 ++ wsX10 ++ wsX20)
def wsX2_flood : List Cond := .code yX2_flood cX2_flood 2 none :: ([.fieldLink RX2 9 "KneelingStones$Moor" "heights" "[I", .methodLink RX2 121 yX2_fewest, .instanceMethod yX2_fewest, .selects RX2 yX2_fewest yX2_fewest, .initialized RX2, .code yX2_fewest cX2_fewest 3 (some .int), .static yX9_isCairn, .initialized RX9, .code yX9_isCairn cX9_isCairn 1 (some .boolean), .methodLink RX2 115 yX2_takeOff, .instanceMethod yX2_takeOff, .selects RX2 yX2_takeOff yX2_takeOff, .code yX2_takeOff cX2_takeOff 4 none, .methodLink RX2 55 Lib.Math.min.name, .static Lib.Math.min.name, .initialized "java/lang/Math", .code Lib.Math.min.name Lib.Math.min.code 2 (some .int), .fieldLink RX2 37 "KneelingStones$Moor" "taken" "I"] ++ wsX20)
def wsX2_goOneWeek_r1 : List Cond := [Cond.fieldLink RX2 28 "KneelingStones$Moor" "week" "I", Cond.fieldLink RX2 60 "KneelingStones$Parish" "walkers" "I", Cond.methodLink RX2 65 yX2_walk, Cond.instanceMethod yX2_walk, Cond.selects RX2 yX2_walk yX2_walk, Cond.initialized RX2, Cond.code yX2_walk cX2_walk 5 none, Cond.fieldLink RX2 81 "KneelingStones$Parish" "wish" "I", Cond.fieldLink RX2 84 "KneelingStones$Custom" "wishRule" "I", Cond.fieldLink RX2 31 "KneelingStones$Moor" "last" "I", Cond.fieldLink RX2 96 "KneelingStones$Parish" "sin" "I", Cond.fieldLink RX2 106 "KneelingStones$Custom" "sinRule" "I", Cond.methodLink RX2 77 yX2_draw, Cond.instanceMethod yX2_draw, Cond.selects RX2 yX2_draw yX2_draw, Cond.code yX2_draw cX2_draw 1 (some .int), Cond.constantLong RX2 124 (1103515245), Cond.fieldLink RX2 18 "KneelingStones$Moor" "seed" "I", Cond.constantLong RX2 126 (12345), Cond.constantLong RX2 128 (2147483647), Cond.methodLink RX2 87 yX2_cairnBy, Cond.instanceMethod yX2_cairnBy, Cond.selects RX2 yX2_cairnBy yX2_cairnBy, Cond.code yX2_cairnBy cX2_cairnBy 3 (some .int)]
def wsX2_goOneWeek_r2 : List Cond := [Cond.methodLink RX2 103 yX2_most, Cond.instanceMethod yX2_most, Cond.selects RX2 yX2_most yX2_most, Cond.code yX2_most cX2_most 3 (some .int), Cond.fieldLink RX2 9 "KneelingStones$Moor" "heights" "[I", Cond.methodLink RX2 121 yX2_fewest, Cond.instanceMethod yX2_fewest, Cond.selects RX2 yX2_fewest yX2_fewest, Cond.code yX2_fewest cX2_fewest 3 (some .int), Cond.methodLink RX2 90 ⟨"KneelingStones$Parish", "gift", "()I"⟩, Cond.sameMethod "KneelingStones$Parish" "KneelingStones$Parish" "gift" "()I", Cond.selects RX0 ⟨"KneelingStones$Parish", "gift", "()I"⟩ yX5_gift, Cond.instanceMethod yX5_gift, Cond.initialized RX5, Cond.code yX5_gift cX5_gift 1 (some .int), Cond.methodLink RX2 90 yX5_gift, Cond.selects RX5 yX5_gift yX5_gift, Cond.instanceMethod ⟨"KneelingStones$Parish", "gift", "()I"⟩, Cond.selects RX6 ⟨"KneelingStones$Parish", "gift", "()I"⟩ yX6_gift, Cond.instanceMethod yX6_gift, Cond.initialized RX6, Cond.code yX6_gift cX6_gift 1 (some .int), Cond.fieldLink RX6 9 "KneelingStones$Pious" "n" "I", Cond.sameField "KneelingStones$Pious" "KneelingStones$Parish" "n" "I"]
def wsX2_goOneWeek_r3 : List Cond := [Cond.selects RX7 ⟨"KneelingStones$Parish", "gift", "()I"⟩ yX5_gift, Cond.methodLink RX2 93 yX2_layNew, Cond.instanceMethod yX2_layNew, Cond.selects RX2 yX2_layNew yX2_layNew, Cond.code yX2_layNew cX2_layNew 4 none, Cond.fieldLink RX2 34 "KneelingStones$Moor" "laid" "I", Cond.methodLink RX2 51 yX2_put, Cond.instanceMethod yX2_put, Cond.selects RX2 yX2_put yX2_put, Cond.code yX2_put cX2_put 4 none, Cond.fieldLink RX2 40 "KneelingStones$Moor" "spilt" "I", Cond.fieldLink RX2 15 "KneelingStones$Moor" "marks" "[I", Cond.static yX9_isCairn, Cond.initialized RX9, Cond.code yX9_isCairn cX9_isCairn 1 (some .boolean), Cond.methodLink RX2 99 ⟨"KneelingStones$Parish", "sinsAtMost", "()Z"⟩, Cond.sameMethod "KneelingStones$Parish" "KneelingStones$Parish" "sinsAtMost" "()Z", Cond.instanceMethod ⟨"KneelingStones$Parish", "sinsAtMost", "()Z"⟩, Cond.selects RX0 ⟨"KneelingStones$Parish", "sinsAtMost", "()Z"⟩ yX0_sinsAtMost, Cond.instanceMethod yX0_sinsAtMost, Cond.initialized RX0, Cond.code yX0_sinsAtMost cX0_sinsAtMost 1 (some .boolean), Cond.code yX5_sinsAtMost cX5_sinsAtMost 1 (some .boolean), Cond.methodLink RX2 99 yX5_sinsAtMost]
def wsX2_goOneWeek_r4 : List Cond := [Cond.instanceMethod yX5_sinsAtMost, Cond.selects RX5 yX5_sinsAtMost yX5_sinsAtMost, Cond.selects RX6 ⟨"KneelingStones$Parish", "sinsAtMost", "()Z"⟩ yX5_sinsAtMost, Cond.selects RX7 ⟨"KneelingStones$Parish", "sinsAtMost", "()Z"⟩ yX5_sinsAtMost, Cond.methodLink RX2 109 ⟨"KneelingStones$Parish", "hidesOn", "()I"⟩, Cond.sameMethod "KneelingStones$Parish" "KneelingStones$Parish" "hidesOn" "()I", Cond.instanceMethod ⟨"KneelingStones$Parish", "hidesOn", "()I"⟩, Cond.selects RX0 ⟨"KneelingStones$Parish", "hidesOn", "()I"⟩ yX7_hidesOn, Cond.instanceMethod yX7_hidesOn, Cond.initialized RX7, Cond.code yX7_hidesOn cX7_hidesOn 1 (some .int), Cond.fieldLink RX7 9 "KneelingStones$Sly" "n" "I", Cond.sameField "KneelingStones$Sly" "KneelingStones$Parish" "n" "I", Cond.code yX5_hidesOn cX5_hidesOn 1 (some .int), Cond.methodLink RX2 109 yX5_hidesOn, Cond.instanceMethod yX5_hidesOn, Cond.selects RX5 yX5_hidesOn yX5_hidesOn, Cond.selects RX6 ⟨"KneelingStones$Parish", "hidesOn", "()I"⟩ yX5_hidesOn, Cond.selects RX7 ⟨"KneelingStones$Parish", "hidesOn", "()I"⟩ yX7_hidesOn, Cond.methodLink RX2 112 yX2_steal, Cond.instanceMethod yX2_steal, Cond.selects RX2 yX2_steal yX2_steal, Cond.code yX2_steal cX2_steal 4 none, Cond.methodLink RX2 115 yX2_takeOff]
def wsX2_goOneWeek_r5 : List Cond := [Cond.instanceMethod yX2_takeOff, Cond.selects RX2 yX2_takeOff yX2_takeOff, Cond.code yX2_takeOff cX2_takeOff 4 none, Cond.methodLink RX2 55 Lib.Math.min.name, Cond.static Lib.Math.min.name, Cond.initialized "java/lang/Math", Cond.code Lib.Math.min.name Lib.Math.min.code 2 (some .int), Cond.fieldLink RX2 37 "KneelingStones$Moor" "taken" "I", Cond.methodLink RX2 118 yX2_markAt, Cond.instanceMethod yX2_markAt, Cond.selects RX2 yX2_markAt yX2_markAt, Cond.code yX2_markAt cX2_markAt 4 (some .int), Cond.methodLink RX2 69 yX1_floodsIn, Cond.instanceMethod yX1_floodsIn, Cond.selects RX1 yX1_floodsIn yX1_floodsIn, Cond.initialized RX1, Cond.code yX1_floodsIn cX1_floodsIn 2 (some .boolean), Cond.fieldLink RX1 16 "KneelingStones$Custom" "every" "I", Cond.methodLink RX2 74 yX2_flood, Cond.instanceMethod yX2_flood, Cond.selects RX2 yX2_flood yX2_flood, Cond.code yX2_flood cX2_flood 2 none]
def wsX2_goOneWeek : List Cond := .code yX2_goOneWeek cX2_goOneWeek 6 none :: ((wsX2_goOneWeek_r1 ++ (wsX2_goOneWeek_r2 ++ (wsX2_goOneWeek_r3 ++ (wsX2_goOneWeek_r4 ++ wsX2_goOneWeek_r5)))) ++ wsX20 ++ wsX00 ++ wsX50 ++ wsX60 ++ wsX70 ++ wsX10)
def wsX3_power : List Cond := .code yX3_power cX3_power 5 (some .long) :: ([])
def wsX3_whole : List Cond := .code yX3_whole cX3_whole 1 (some .long) :: ([.fieldLink RX3 9 "KneelingStones$Parish" "walkers" "I", .methodLink RX3 15 yX3_power, .static yX3_power, .initialized RX3, .code yX3_power cX3_power 5 (some .long)] ++ wsX00 ++ wsX50 ++ wsX60 ++ wsX70)
def wsX3_choices : List Cond := .code yX3_choices cX3_choices 5 (some .long) :: ([])
def wsX3_of : List Cond := .code yX3_of cX3_of 5 (some .long) :: ([.fieldLink RX3 9 "KneelingStones$Parish" "walkers" "I", .fieldLink RX3 21 "KneelingStones$Parish" "wish" "I", .fieldLink RX3 27 "KneelingStones$Parish" "sin" "I", .methodLink RX3 24 yX3_choices, .static yX3_choices, .initialized RX3, .code yX3_choices cX3_choices 5 (some .long), .methodLink RX3 15 yX3_power, .static yX3_power, .code yX3_power cX3_power 5 (some .long)] ++ wsX00 ++ wsX50 ++ wsX60 ++ wsX70)
def wsX7_loss : List Cond := .code yX7_loss cX7_loss 1 (some .int) :: ([])
def wsX5_loss : List Cond := .code yX5_loss cX5_loss 1 (some .int) :: ([])
def wsX3_ofNet_r1 : List Cond := [Cond.fieldLink RX3 9 "KneelingStones$Parish" "walkers" "I", Cond.methodLink RX3 30 ⟨"KneelingStones$Parish", "gift", "()I"⟩, Cond.sameMethod "KneelingStones$Parish" "KneelingStones$Parish" "gift" "()I", Cond.selects RX0 ⟨"KneelingStones$Parish", "gift", "()I"⟩ yX5_gift, Cond.instanceMethod yX5_gift, Cond.initialized RX5, Cond.code yX5_gift cX5_gift 1 (some .int), Cond.methodLink RX3 30 yX5_gift, Cond.selects RX5 yX5_gift yX5_gift, Cond.instanceMethod ⟨"KneelingStones$Parish", "gift", "()I"⟩, Cond.selects RX6 ⟨"KneelingStones$Parish", "gift", "()I"⟩ yX6_gift, Cond.instanceMethod yX6_gift, Cond.initialized RX6, Cond.code yX6_gift cX6_gift 1 (some .int), Cond.fieldLink RX6 9 "KneelingStones$Pious" "n" "I", Cond.sameField "KneelingStones$Pious" "KneelingStones$Parish" "n" "I", Cond.selects RX7 ⟨"KneelingStones$Parish", "gift", "()I"⟩ yX5_gift, Cond.methodLink RX3 34 ⟨"KneelingStones$Parish", "loss", "()I"⟩, Cond.sameMethod "KneelingStones$Parish" "KneelingStones$Parish" "loss" "()I", Cond.instanceMethod ⟨"KneelingStones$Parish", "loss", "()I"⟩, Cond.selects RX0 ⟨"KneelingStones$Parish", "loss", "()I"⟩ yX7_loss, Cond.instanceMethod yX7_loss, Cond.initialized RX7, Cond.code yX7_loss cX7_loss 1 (some .int)]
def wsX3_ofNet_r2 : List Cond := [Cond.code yX5_loss cX5_loss 1 (some .int), Cond.methodLink RX3 34 yX5_loss, Cond.instanceMethod yX5_loss, Cond.selects RX5 yX5_loss yX5_loss, Cond.selects RX6 ⟨"KneelingStones$Parish", "loss", "()I"⟩ yX5_loss, Cond.selects RX7 ⟨"KneelingStones$Parish", "loss", "()I"⟩ yX7_loss, Cond.methodLink RX3 37 yX3_of, Cond.static yX3_of, Cond.initialized RX3, Cond.code yX3_of cX3_of 5 (some .long), Cond.fieldLink RX3 21 "KneelingStones$Parish" "wish" "I", Cond.fieldLink RX3 27 "KneelingStones$Parish" "sin" "I", Cond.methodLink RX3 24 yX3_choices, Cond.static yX3_choices, Cond.code yX3_choices cX3_choices 5 (some .long), Cond.methodLink RX3 15 yX3_power, Cond.static yX3_power, Cond.code yX3_power cX3_power 5 (some .long)]
def wsX3_ofNet : List Cond := .code yX3_ofNet cX3_ofNet 7 (some .long) :: ((wsX3_ofNet_r1 ++ wsX3_ofNet_r2) ++ wsX00 ++ wsX50 ++ wsX60 ++ wsX70)
def wsX4_init : List Cond := .code yX4_init cX4_init 1 none :: ([.methodLink RX4 3 objectInit, .instanceMethod objectInit, .code objectInit ⟨#[0xb1]⟩ 1 none, .arrayClass .int, .fieldLink RX4 9 "KneelingStones$Page" "codes" "[I"] ++ wsX40)
def wsX4_codeAt : List Cond := .code yX4_codeAt cX4_codeAt 3 (some .int) :: ([.constantLong RX4 19 (255)])
def wsX4_lettersIn : List Cond := .code yX4_lettersIn cX4_lettersIn 5 (some .int) :: ([.methodLink RX4 15 yX4_codeAt, .static yX4_codeAt, .initialized RX4, .code yX4_codeAt cX4_codeAt 3 (some .int), .constantLong RX4 19 (255)])
def wsX4_write : List Cond := .code yX4_write cX4_write 5 none :: ([.fieldLink RX4 21 "KneelingStones$Page" "length" "I", .fieldLink RX4 9 "KneelingStones$Page" "codes" "[I", .methodLink RX4 15 yX4_codeAt, .static yX4_codeAt, .initialized RX4, .code yX4_codeAt cX4_codeAt 3 (some .int), .constantLong RX4 19 (255)] ++ wsX40)
def wsX4_codeOf : List Cond := .code yX4_codeOf cX4_codeOf 2 (some .int) :: ([.fieldLink RX4 9 "KneelingStones$Page" "codes" "[I"] ++ wsX40)
def wsX4_ruleOf : List Cond := .code yX4_ruleOf cX4_ruleOf 1 (some .int) :: ([])
def wsX4_fits : List Cond := .code yX4_fits cX4_fits 2 (some .boolean) :: ([.methodLink RX4 39 yX4_ruleOf, .static yX4_ruleOf, .initialized RX4, .code yX4_ruleOf cX4_ruleOf 1 (some .int)])
def wsX4_firstWrong : List Cond := .code yX4_firstWrong cX4_firstWrong 2 (some .int) :: ([.fieldLink RX4 21 "KneelingStones$Page" "length" "I", .methodLink RX4 25 yX4_codeOf, .instanceMethod yX4_codeOf, .selects RX4 yX4_codeOf yX4_codeOf, .initialized RX4, .code yX4_codeOf cX4_codeOf 2 (some .int), .fieldLink RX4 9 "KneelingStones$Page" "codes" "[I", .methodLink RX4 29 yX4_fits, .static yX4_fits, .code yX4_fits cX4_fits 2 (some .boolean), .methodLink RX4 39 yX4_ruleOf, .static yX4_ruleOf, .code yX4_ruleOf cX4_ruleOf 1 (some .int)] ++ wsX40)
def wsX4_isCustom : List Cond := .code yX4_isCustom cX4_isCustom 1 (some .boolean) :: ([.fieldLink RX4 21 "KneelingStones$Page" "length" "I", .methodLink RX4 33 yX4_firstWrong, .instanceMethod yX4_firstWrong, .selects RX4 yX4_firstWrong yX4_firstWrong, .initialized RX4, .code yX4_firstWrong cX4_firstWrong 2 (some .int), .methodLink RX4 25 yX4_codeOf, .instanceMethod yX4_codeOf, .selects RX4 yX4_codeOf yX4_codeOf, .code yX4_codeOf cX4_codeOf 2 (some .int), .fieldLink RX4 9 "KneelingStones$Page" "codes" "[I", .methodLink RX4 29 yX4_fits, .static yX4_fits, .code yX4_fits cX4_fits 2 (some .boolean), .methodLink RX4 39 yX4_ruleOf, .static yX4_ruleOf, .code yX4_ruleOf cX4_ruleOf 1 (some .int)] ++ wsX40)
def wsX4_asCustom : List Cond := .code yX4_asCustom cX4_asCustom 2 (some (.object "KneelingStones$Custom")) :: ([.fieldLink RX4 21 "KneelingStones$Page" "length" "I", .classLink RX4 37 RX1, .instantiable RX1 3, .initialized RX1, .methodLink RX4 25 yX4_codeOf, .instanceMethod yX4_codeOf, .selects RX4 yX4_codeOf yX4_codeOf, .initialized RX4, .code yX4_codeOf cX4_codeOf 2 (some .int), .fieldLink RX4 9 "KneelingStones$Page" "codes" "[I", .methodLink RX4 39 yX4_ruleOf, .static yX4_ruleOf, .code yX4_ruleOf cX4_ruleOf 1 (some .int), .methodLink RX4 42 yX1_init, .instanceMethod yX1_init, .code yX1_init cX1_init 4 none, .methodLink RX1 1 objectInit, .instanceMethod objectInit, .code objectInit ⟨#[0xb1]⟩ 1 none, .fieldLink RX1 7 "KneelingStones$Custom" "wishRule" "I", .fieldLink RX1 13 "KneelingStones$Custom" "sinRule" "I", .fieldLink RX1 16 "KneelingStones$Custom" "every" "I"] ++ wsX40 ++ wsX10)
def wsX5_kind : List Cond := .code yX5_kind cX5_kind 1 (some .int) :: ([])
def wsX6_kind : List Cond := .code yX6_kind cX6_kind 1 (some .int) :: ([])
def wsX7_kind : List Cond := .code yX7_kind cX7_kind 1 (some .int) :: ([])
def wsX5_told_r1 : List Cond := [Cond.fieldLink RX5 9 "KneelingStones$Parish" "n" "I", Cond.fieldLink RX5 19 "KneelingStones$Parish" "walkers" "I", Cond.fieldLink RX5 22 "KneelingStones$Parish" "wish" "I", Cond.fieldLink RX5 25 "KneelingStones$Parish" "sin" "I", Cond.methodLink RX5 15 ⟨"KneelingStones$Parish", "kind", "()I"⟩, Cond.sameMethod "KneelingStones$Parish" "KneelingStones$Parish" "kind" "()I", Cond.instanceMethod ⟨"KneelingStones$Parish", "kind", "()I"⟩, Cond.selects RX0 ⟨"KneelingStones$Parish", "kind", "()I"⟩ yX0_kind, Cond.instanceMethod yX0_kind, Cond.initialized RX0, Cond.code yX0_kind cX0_kind 1 (some .int), Cond.code yX5_kind cX5_kind 1 (some .int), Cond.methodLink RX5 15 yX5_kind, Cond.instanceMethod yX5_kind, Cond.selects RX5 yX5_kind yX5_kind, Cond.initialized RX5, Cond.selects RX6 ⟨"KneelingStones$Parish", "kind", "()I"⟩ yX6_kind, Cond.instanceMethod yX6_kind, Cond.initialized RX6, Cond.code yX6_kind cX6_kind 1 (some .int), Cond.selects RX7 ⟨"KneelingStones$Parish", "kind", "()I"⟩ yX7_kind, Cond.instanceMethod yX7_kind, Cond.initialized RX7, Cond.code yX7_kind cX7_kind 1 (some .int)]
def wsX5_told_r2 : List Cond := [Cond.methodLink RX5 28 ⟨"KneelingStones$Parish", "gift", "()I"⟩, Cond.sameMethod "KneelingStones$Parish" "KneelingStones$Parish" "gift" "()I", Cond.selects RX0 ⟨"KneelingStones$Parish", "gift", "()I"⟩ yX5_gift, Cond.instanceMethod yX5_gift, Cond.code yX5_gift cX5_gift 1 (some .int), Cond.methodLink RX5 28 yX5_gift, Cond.selects RX5 yX5_gift yX5_gift, Cond.instanceMethod ⟨"KneelingStones$Parish", "gift", "()I"⟩, Cond.selects RX6 ⟨"KneelingStones$Parish", "gift", "()I"⟩ yX6_gift, Cond.instanceMethod yX6_gift, Cond.code yX6_gift cX6_gift 1 (some .int), Cond.fieldLink RX6 9 "KneelingStones$Pious" "n" "I", Cond.sameField "KneelingStones$Pious" "KneelingStones$Parish" "n" "I", Cond.selects RX7 ⟨"KneelingStones$Parish", "gift", "()I"⟩ yX5_gift]
def wsX5_told : List Cond := .code yX5_told cX5_told 2 (some .int) :: ((wsX5_told_r1 ++ wsX5_told_r2) ++ wsX00 ++ wsX50 ++ wsX60 ++ wsX70)
def wsX5_canWish : List Cond := .code yX5_canWish cX5_canWish 1 (some .boolean) :: ([.fieldLink RX5 22 "KneelingStones$Parish" "wish" "I"] ++ wsX00 ++ wsX50 ++ wsX60 ++ wsX70)
def wsX5_canSin : List Cond := .code yX5_canSin cX5_canSin 1 (some .boolean) :: ([.fieldLink RX5 22 "KneelingStones$Parish" "wish" "I", .fieldLink RX5 25 "KneelingStones$Parish" "sin" "I"] ++ wsX00 ++ wsX50 ++ wsX60 ++ wsX70)
def wsX5_canRest : List Cond := .code yX5_canRest cX5_canRest 1 (some .boolean) :: ([.fieldLink RX5 22 "KneelingStones$Parish" "wish" "I", .fieldLink RX5 25 "KneelingStones$Parish" "sin" "I"] ++ wsX00 ++ wsX50 ++ wsX60 ++ wsX70)
def wsX6_init : List Cond := .code yX6_init cX6_init 2 none :: ([.methodLink RX6 3 yX5_init, .instanceMethod yX5_init, .initialized RX5, .code yX5_init cX5_init 2 none, .methodLink RX5 3 objectInit, .instanceMethod objectInit, .code objectInit ⟨#[0xb1]⟩ 1 none, .fieldLink RX5 9 "KneelingStones$Parish" "n" "I"] ++ wsX00 ++ wsX50 ++ wsX60 ++ wsX70)
def wsX8_init : List Cond := .code yX8_init cX8_init 1 none :: ([.methodLink RX8 3 objectInit, .instanceMethod objectInit, .code objectInit ⟨#[0xb1]⟩ 1 none, .arrayClass .int, .fieldLink RX8 11 "KneelingStones$Ways" "row" "[I", .fieldLink RX8 15 "KneelingStones$Ways" "next" "[I"] ++ wsX80)
def wsJ7_fill_53178 : List Cond := .code yJ7_fill_53178 cJ7_fill_53178 4 none :: ([])
def wsX8_start : List Cond := .code yX8_start cX8_start 1 none :: ([.fieldLink RX8 11 "KneelingStones$Ways" "row" "[I", .methodLink RX8 58 yJ7_fill_53178, .static yJ7_fill_53178, .initialized RJ7, .code yJ7_fill_53178 cJ7_fill_53178 4 none] ++ wsX80)
def wsX8_offer : List Cond := .code yX8_offer cX8_offer 3 none :: ([.fieldLink RX8 15 "KneelingStones$Ways" "next" "[I"] ++ wsX80)
def wsX8_addWalker_r1 : List Cond := [Cond.fieldLink RX8 15 "KneelingStones$Ways" "next" "[I", Cond.fieldLink RX8 11 "KneelingStones$Ways" "row" "[I", Cond.methodLink RX8 58 yJ7_fill_53178, Cond.static yJ7_fill_53178, Cond.initialized RJ7, Cond.code yJ7_fill_53178 cJ7_fill_53178 4 none, Cond.methodLink RX8 50 ⟨"KneelingStones$Parish", "canSin", "()Z"⟩, Cond.sameMethod "KneelingStones$Parish" "KneelingStones$Parish" "canSin" "()Z", Cond.selects RX0 ⟨"KneelingStones$Parish", "canSin", "()Z"⟩ yX5_canSin, Cond.instanceMethod yX5_canSin, Cond.initialized RX5, Cond.code yX5_canSin cX5_canSin 1 (some .boolean), Cond.fieldLink RX5 22 "KneelingStones$Parish" "wish" "I", Cond.fieldLink RX5 25 "KneelingStones$Parish" "sin" "I", Cond.methodLink RX8 50 yX5_canSin, Cond.selects RX5 yX5_canSin yX5_canSin, Cond.selects RX6 ⟨"KneelingStones$Parish", "canSin", "()Z"⟩ yX5_canSin, Cond.selects RX7 ⟨"KneelingStones$Parish", "canSin", "()Z"⟩ yX5_canSin, Cond.methodLink RX8 64 ⟨"KneelingStones$Parish", "canWish", "()Z"⟩, Cond.sameMethod "KneelingStones$Parish" "KneelingStones$Parish" "canWish" "()Z", Cond.selects RX0 ⟨"KneelingStones$Parish", "canWish", "()Z"⟩ yX5_canWish, Cond.instanceMethod yX5_canWish, Cond.code yX5_canWish cX5_canWish 1 (some .boolean), Cond.methodLink RX8 64 yX5_canWish]
def wsX8_addWalker_r2 : List Cond := [Cond.selects RX5 yX5_canWish yX5_canWish, Cond.selects RX6 ⟨"KneelingStones$Parish", "canWish", "()Z"⟩ yX5_canWish, Cond.selects RX7 ⟨"KneelingStones$Parish", "canWish", "()Z"⟩ yX5_canWish, Cond.methodLink RX8 67 ⟨"KneelingStones$Parish", "gift", "()I"⟩, Cond.sameMethod "KneelingStones$Parish" "KneelingStones$Parish" "gift" "()I", Cond.selects RX0 ⟨"KneelingStones$Parish", "gift", "()I"⟩ yX5_gift, Cond.instanceMethod yX5_gift, Cond.code yX5_gift cX5_gift 1 (some .int), Cond.methodLink RX8 67 yX5_gift, Cond.selects RX5 yX5_gift yX5_gift, Cond.instanceMethod ⟨"KneelingStones$Parish", "gift", "()I"⟩, Cond.selects RX6 ⟨"KneelingStones$Parish", "gift", "()I"⟩ yX6_gift, Cond.instanceMethod yX6_gift, Cond.initialized RX6, Cond.code yX6_gift cX6_gift 1 (some .int), Cond.fieldLink RX6 9 "KneelingStones$Pious" "n" "I", Cond.sameField "KneelingStones$Pious" "KneelingStones$Parish" "n" "I", Cond.selects RX7 ⟨"KneelingStones$Parish", "gift", "()I"⟩ yX5_gift, Cond.methodLink RX8 70 yX8_offer, Cond.instanceMethod yX8_offer, Cond.selects RX8 yX8_offer yX8_offer, Cond.initialized RX8, Cond.code yX8_offer cX8_offer 3 none, Cond.methodLink RX8 54 ⟨"KneelingStones$Parish", "loss", "()I"⟩]
def wsX8_addWalker_r3 : List Cond := [Cond.sameMethod "KneelingStones$Parish" "KneelingStones$Parish" "loss" "()I", Cond.instanceMethod ⟨"KneelingStones$Parish", "loss", "()I"⟩, Cond.selects RX0 ⟨"KneelingStones$Parish", "loss", "()I"⟩ yX7_loss, Cond.instanceMethod yX7_loss, Cond.initialized RX7, Cond.code yX7_loss cX7_loss 1 (some .int), Cond.code yX5_loss cX5_loss 1 (some .int), Cond.methodLink RX8 54 yX5_loss, Cond.instanceMethod yX5_loss, Cond.selects RX5 yX5_loss yX5_loss, Cond.selects RX6 ⟨"KneelingStones$Parish", "loss", "()I"⟩ yX5_loss, Cond.selects RX7 ⟨"KneelingStones$Parish", "loss", "()I"⟩ yX7_loss, Cond.methodLink RX8 74 ⟨"KneelingStones$Parish", "canRest", "()Z"⟩, Cond.sameMethod "KneelingStones$Parish" "KneelingStones$Parish" "canRest" "()Z", Cond.selects RX0 ⟨"KneelingStones$Parish", "canRest", "()Z"⟩ yX5_canRest, Cond.instanceMethod yX5_canRest, Cond.code yX5_canRest cX5_canRest 1 (some .boolean), Cond.methodLink RX8 74 yX5_canRest, Cond.selects RX5 yX5_canRest yX5_canRest, Cond.selects RX6 ⟨"KneelingStones$Parish", "canRest", "()Z"⟩ yX5_canRest, Cond.selects RX7 ⟨"KneelingStones$Parish", "canRest", "()Z"⟩ yX5_canRest]
def wsX8_addWalker : List Cond := .code yX8_addWalker cX8_addWalker 7 none :: ((wsX8_addWalker_r1 ++ (wsX8_addWalker_r2 ++ wsX8_addWalker_r3)) ++ wsX80 ++ wsX00 ++ wsX50 ++ wsX60 ++ wsX70)
def wsX8_addAllBut_r1 : List Cond := [Cond.fieldLink RX8 40 "KneelingStones$Parish" "walkers" "I", Cond.methodLink RX8 46 yX8_addWalker, Cond.instanceMethod yX8_addWalker, Cond.selects RX8 yX8_addWalker yX8_addWalker, Cond.initialized RX8, Cond.code yX8_addWalker cX8_addWalker 7 none, Cond.fieldLink RX8 15 "KneelingStones$Ways" "next" "[I", Cond.fieldLink RX8 11 "KneelingStones$Ways" "row" "[I", Cond.methodLink RX8 58 yJ7_fill_53178, Cond.static yJ7_fill_53178, Cond.initialized RJ7, Cond.code yJ7_fill_53178 cJ7_fill_53178 4 none, Cond.methodLink RX8 50 ⟨"KneelingStones$Parish", "canSin", "()Z"⟩, Cond.sameMethod "KneelingStones$Parish" "KneelingStones$Parish" "canSin" "()Z", Cond.selects RX0 ⟨"KneelingStones$Parish", "canSin", "()Z"⟩ yX5_canSin, Cond.instanceMethod yX5_canSin, Cond.initialized RX5, Cond.code yX5_canSin cX5_canSin 1 (some .boolean), Cond.fieldLink RX5 22 "KneelingStones$Parish" "wish" "I", Cond.fieldLink RX5 25 "KneelingStones$Parish" "sin" "I", Cond.methodLink RX8 50 yX5_canSin, Cond.selects RX5 yX5_canSin yX5_canSin, Cond.selects RX6 ⟨"KneelingStones$Parish", "canSin", "()Z"⟩ yX5_canSin, Cond.selects RX7 ⟨"KneelingStones$Parish", "canSin", "()Z"⟩ yX5_canSin]
def wsX8_addAllBut_r2 : List Cond := [Cond.methodLink RX8 64 ⟨"KneelingStones$Parish", "canWish", "()Z"⟩, Cond.sameMethod "KneelingStones$Parish" "KneelingStones$Parish" "canWish" "()Z", Cond.selects RX0 ⟨"KneelingStones$Parish", "canWish", "()Z"⟩ yX5_canWish, Cond.instanceMethod yX5_canWish, Cond.code yX5_canWish cX5_canWish 1 (some .boolean), Cond.methodLink RX8 64 yX5_canWish, Cond.selects RX5 yX5_canWish yX5_canWish, Cond.selects RX6 ⟨"KneelingStones$Parish", "canWish", "()Z"⟩ yX5_canWish, Cond.selects RX7 ⟨"KneelingStones$Parish", "canWish", "()Z"⟩ yX5_canWish, Cond.methodLink RX8 67 ⟨"KneelingStones$Parish", "gift", "()I"⟩, Cond.sameMethod "KneelingStones$Parish" "KneelingStones$Parish" "gift" "()I", Cond.selects RX0 ⟨"KneelingStones$Parish", "gift", "()I"⟩ yX5_gift, Cond.instanceMethod yX5_gift, Cond.code yX5_gift cX5_gift 1 (some .int), Cond.methodLink RX8 67 yX5_gift, Cond.selects RX5 yX5_gift yX5_gift, Cond.instanceMethod ⟨"KneelingStones$Parish", "gift", "()I"⟩, Cond.selects RX6 ⟨"KneelingStones$Parish", "gift", "()I"⟩ yX6_gift, Cond.instanceMethod yX6_gift, Cond.initialized RX6, Cond.code yX6_gift cX6_gift 1 (some .int), Cond.fieldLink RX6 9 "KneelingStones$Pious" "n" "I", Cond.sameField "KneelingStones$Pious" "KneelingStones$Parish" "n" "I", Cond.selects RX7 ⟨"KneelingStones$Parish", "gift", "()I"⟩ yX5_gift]
def wsX8_addAllBut_r3 : List Cond := [Cond.methodLink RX8 70 yX8_offer, Cond.instanceMethod yX8_offer, Cond.selects RX8 yX8_offer yX8_offer, Cond.code yX8_offer cX8_offer 3 none, Cond.methodLink RX8 54 ⟨"KneelingStones$Parish", "loss", "()I"⟩, Cond.sameMethod "KneelingStones$Parish" "KneelingStones$Parish" "loss" "()I", Cond.instanceMethod ⟨"KneelingStones$Parish", "loss", "()I"⟩, Cond.selects RX0 ⟨"KneelingStones$Parish", "loss", "()I"⟩ yX7_loss, Cond.instanceMethod yX7_loss, Cond.initialized RX7, Cond.code yX7_loss cX7_loss 1 (some .int), Cond.code yX5_loss cX5_loss 1 (some .int), Cond.methodLink RX8 54 yX5_loss, Cond.instanceMethod yX5_loss, Cond.selects RX5 yX5_loss yX5_loss, Cond.selects RX6 ⟨"KneelingStones$Parish", "loss", "()I"⟩ yX5_loss, Cond.selects RX7 ⟨"KneelingStones$Parish", "loss", "()I"⟩ yX7_loss, Cond.methodLink RX8 74 ⟨"KneelingStones$Parish", "canRest", "()Z"⟩, Cond.sameMethod "KneelingStones$Parish" "KneelingStones$Parish" "canRest" "()Z", Cond.selects RX0 ⟨"KneelingStones$Parish", "canRest", "()Z"⟩ yX5_canRest, Cond.instanceMethod yX5_canRest, Cond.code yX5_canRest cX5_canRest 1 (some .boolean), Cond.methodLink RX8 74 yX5_canRest, Cond.selects RX5 yX5_canRest yX5_canRest]
def wsX8_addAllBut_r4 : List Cond := [Cond.selects RX6 ⟨"KneelingStones$Parish", "canRest", "()Z"⟩ yX5_canRest, Cond.selects RX7 ⟨"KneelingStones$Parish", "canRest", "()Z"⟩ yX5_canRest]
def wsX8_addAllBut : List Cond := .code yX8_addAllBut cX8_addAllBut 7 none :: ((wsX8_addAllBut_r1 ++ (wsX8_addAllBut_r2 ++ (wsX8_addAllBut_r3 ++ wsX8_addAllBut_r4))) ++ wsX00 ++ wsX50 ++ wsX60 ++ wsX70 ++ wsX80)
def wsX8_costOf : List Cond := .code yX8_costOf cX8_costOf 3 (some .int) :: ([.fieldLink RX8 11 "KneelingStones$Ways" "row" "[I"] ++ wsX80)
def wsX8_leastCost_r1 : List Cond := [Cond.methodLink RX8 29 yX8_start, Cond.instanceMethod yX8_start, Cond.selects RX8 yX8_start yX8_start, Cond.initialized RX8, Cond.code yX8_start cX8_start 1 none, Cond.fieldLink RX8 11 "KneelingStones$Ways" "row" "[I", Cond.methodLink RX8 58 yJ7_fill_53178, Cond.static yJ7_fill_53178, Cond.initialized RJ7, Cond.code yJ7_fill_53178 cJ7_fill_53178 4 none, Cond.methodLink RX8 32 yX8_addAllBut, Cond.instanceMethod yX8_addAllBut, Cond.selects RX8 yX8_addAllBut yX8_addAllBut, Cond.code yX8_addAllBut cX8_addAllBut 7 none, Cond.fieldLink RX8 40 "KneelingStones$Parish" "walkers" "I", Cond.methodLink RX8 46 yX8_addWalker, Cond.instanceMethod yX8_addWalker, Cond.selects RX8 yX8_addWalker yX8_addWalker, Cond.code yX8_addWalker cX8_addWalker 7 none, Cond.fieldLink RX8 15 "KneelingStones$Ways" "next" "[I", Cond.methodLink RX8 50 ⟨"KneelingStones$Parish", "canSin", "()Z"⟩, Cond.sameMethod "KneelingStones$Parish" "KneelingStones$Parish" "canSin" "()Z", Cond.selects RX0 ⟨"KneelingStones$Parish", "canSin", "()Z"⟩ yX5_canSin, Cond.instanceMethod yX5_canSin]
def wsX8_leastCost_r2 : List Cond := [Cond.initialized RX5, Cond.code yX5_canSin cX5_canSin 1 (some .boolean), Cond.fieldLink RX5 22 "KneelingStones$Parish" "wish" "I", Cond.fieldLink RX5 25 "KneelingStones$Parish" "sin" "I", Cond.methodLink RX8 50 yX5_canSin, Cond.selects RX5 yX5_canSin yX5_canSin, Cond.selects RX6 ⟨"KneelingStones$Parish", "canSin", "()Z"⟩ yX5_canSin, Cond.selects RX7 ⟨"KneelingStones$Parish", "canSin", "()Z"⟩ yX5_canSin, Cond.methodLink RX8 64 ⟨"KneelingStones$Parish", "canWish", "()Z"⟩, Cond.sameMethod "KneelingStones$Parish" "KneelingStones$Parish" "canWish" "()Z", Cond.selects RX0 ⟨"KneelingStones$Parish", "canWish", "()Z"⟩ yX5_canWish, Cond.instanceMethod yX5_canWish, Cond.code yX5_canWish cX5_canWish 1 (some .boolean), Cond.methodLink RX8 64 yX5_canWish, Cond.selects RX5 yX5_canWish yX5_canWish, Cond.selects RX6 ⟨"KneelingStones$Parish", "canWish", "()Z"⟩ yX5_canWish, Cond.selects RX7 ⟨"KneelingStones$Parish", "canWish", "()Z"⟩ yX5_canWish, Cond.methodLink RX8 67 ⟨"KneelingStones$Parish", "gift", "()I"⟩, Cond.sameMethod "KneelingStones$Parish" "KneelingStones$Parish" "gift" "()I", Cond.selects RX0 ⟨"KneelingStones$Parish", "gift", "()I"⟩ yX5_gift, Cond.instanceMethod yX5_gift, Cond.code yX5_gift cX5_gift 1 (some .int), Cond.methodLink RX8 67 yX5_gift, Cond.selects RX5 yX5_gift yX5_gift]
def wsX8_leastCost_r3 : List Cond := [Cond.instanceMethod ⟨"KneelingStones$Parish", "gift", "()I"⟩, Cond.selects RX6 ⟨"KneelingStones$Parish", "gift", "()I"⟩ yX6_gift, Cond.instanceMethod yX6_gift, Cond.initialized RX6, Cond.code yX6_gift cX6_gift 1 (some .int), Cond.fieldLink RX6 9 "KneelingStones$Pious" "n" "I", Cond.sameField "KneelingStones$Pious" "KneelingStones$Parish" "n" "I", Cond.selects RX7 ⟨"KneelingStones$Parish", "gift", "()I"⟩ yX5_gift, Cond.methodLink RX8 70 yX8_offer, Cond.instanceMethod yX8_offer, Cond.selects RX8 yX8_offer yX8_offer, Cond.code yX8_offer cX8_offer 3 none, Cond.methodLink RX8 54 ⟨"KneelingStones$Parish", "loss", "()I"⟩, Cond.sameMethod "KneelingStones$Parish" "KneelingStones$Parish" "loss" "()I", Cond.instanceMethod ⟨"KneelingStones$Parish", "loss", "()I"⟩, Cond.selects RX0 ⟨"KneelingStones$Parish", "loss", "()I"⟩ yX7_loss, Cond.instanceMethod yX7_loss, Cond.initialized RX7, Cond.code yX7_loss cX7_loss 1 (some .int), Cond.code yX5_loss cX5_loss 1 (some .int), Cond.methodLink RX8 54 yX5_loss, Cond.instanceMethod yX5_loss, Cond.selects RX5 yX5_loss yX5_loss, Cond.selects RX6 ⟨"KneelingStones$Parish", "loss", "()I"⟩ yX5_loss]
def wsX8_leastCost_r4 : List Cond := [Cond.selects RX7 ⟨"KneelingStones$Parish", "loss", "()I"⟩ yX7_loss, Cond.methodLink RX8 74 ⟨"KneelingStones$Parish", "canRest", "()Z"⟩, Cond.sameMethod "KneelingStones$Parish" "KneelingStones$Parish" "canRest" "()Z", Cond.selects RX0 ⟨"KneelingStones$Parish", "canRest", "()Z"⟩ yX5_canRest, Cond.instanceMethod yX5_canRest, Cond.code yX5_canRest cX5_canRest 1 (some .boolean), Cond.methodLink RX8 74 yX5_canRest, Cond.selects RX5 yX5_canRest yX5_canRest, Cond.selects RX6 ⟨"KneelingStones$Parish", "canRest", "()Z"⟩ yX5_canRest, Cond.selects RX7 ⟨"KneelingStones$Parish", "canRest", "()Z"⟩ yX5_canRest, Cond.methodLink RX8 36 yX8_costOf, Cond.instanceMethod yX8_costOf, Cond.selects RX8 yX8_costOf yX8_costOf, Cond.code yX8_costOf cX8_costOf 3 (some .int)]
def wsX8_leastCost : List Cond := .code yX8_leastCost cX8_leastCost 4 (some .int) :: ((wsX8_leastCost_r1 ++ (wsX8_leastCost_r2 ++ (wsX8_leastCost_r3 ++ wsX8_leastCost_r4))) ++ wsX80 ++ wsX00 ++ wsX50 ++ wsX60 ++ wsX70)
def wsX8_fewestSins_r1 : List Cond := [Cond.methodLink RX8 18 yX8_leastCost, Cond.instanceMethod yX8_leastCost, Cond.selects RX8 yX8_leastCost yX8_leastCost, Cond.initialized RX8, Cond.code yX8_leastCost cX8_leastCost 4 (some .int), Cond.methodLink RX8 29 yX8_start, Cond.instanceMethod yX8_start, Cond.selects RX8 yX8_start yX8_start, Cond.code yX8_start cX8_start 1 none, Cond.fieldLink RX8 11 "KneelingStones$Ways" "row" "[I", Cond.methodLink RX8 58 yJ7_fill_53178, Cond.static yJ7_fill_53178, Cond.initialized RJ7, Cond.code yJ7_fill_53178 cJ7_fill_53178 4 none, Cond.methodLink RX8 32 yX8_addAllBut, Cond.instanceMethod yX8_addAllBut, Cond.selects RX8 yX8_addAllBut yX8_addAllBut, Cond.code yX8_addAllBut cX8_addAllBut 7 none, Cond.fieldLink RX8 40 "KneelingStones$Parish" "walkers" "I", Cond.methodLink RX8 46 yX8_addWalker, Cond.instanceMethod yX8_addWalker, Cond.selects RX8 yX8_addWalker yX8_addWalker, Cond.code yX8_addWalker cX8_addWalker 7 none, Cond.fieldLink RX8 15 "KneelingStones$Ways" "next" "[I"]
def wsX8_fewestSins_r2 : List Cond := [Cond.methodLink RX8 50 ⟨"KneelingStones$Parish", "canSin", "()Z"⟩, Cond.sameMethod "KneelingStones$Parish" "KneelingStones$Parish" "canSin" "()Z", Cond.selects RX0 ⟨"KneelingStones$Parish", "canSin", "()Z"⟩ yX5_canSin, Cond.instanceMethod yX5_canSin, Cond.initialized RX5, Cond.code yX5_canSin cX5_canSin 1 (some .boolean), Cond.fieldLink RX5 22 "KneelingStones$Parish" "wish" "I", Cond.fieldLink RX5 25 "KneelingStones$Parish" "sin" "I", Cond.methodLink RX8 50 yX5_canSin, Cond.selects RX5 yX5_canSin yX5_canSin, Cond.selects RX6 ⟨"KneelingStones$Parish", "canSin", "()Z"⟩ yX5_canSin, Cond.selects RX7 ⟨"KneelingStones$Parish", "canSin", "()Z"⟩ yX5_canSin, Cond.methodLink RX8 64 ⟨"KneelingStones$Parish", "canWish", "()Z"⟩, Cond.sameMethod "KneelingStones$Parish" "KneelingStones$Parish" "canWish" "()Z", Cond.selects RX0 ⟨"KneelingStones$Parish", "canWish", "()Z"⟩ yX5_canWish, Cond.instanceMethod yX5_canWish, Cond.code yX5_canWish cX5_canWish 1 (some .boolean), Cond.methodLink RX8 64 yX5_canWish, Cond.selects RX5 yX5_canWish yX5_canWish, Cond.selects RX6 ⟨"KneelingStones$Parish", "canWish", "()Z"⟩ yX5_canWish, Cond.selects RX7 ⟨"KneelingStones$Parish", "canWish", "()Z"⟩ yX5_canWish, Cond.methodLink RX8 67 ⟨"KneelingStones$Parish", "gift", "()I"⟩, Cond.sameMethod "KneelingStones$Parish" "KneelingStones$Parish" "gift" "()I", Cond.selects RX0 ⟨"KneelingStones$Parish", "gift", "()I"⟩ yX5_gift]
def wsX8_fewestSins_r3 : List Cond := [Cond.instanceMethod yX5_gift, Cond.code yX5_gift cX5_gift 1 (some .int), Cond.methodLink RX8 67 yX5_gift, Cond.selects RX5 yX5_gift yX5_gift, Cond.instanceMethod ⟨"KneelingStones$Parish", "gift", "()I"⟩, Cond.selects RX6 ⟨"KneelingStones$Parish", "gift", "()I"⟩ yX6_gift, Cond.instanceMethod yX6_gift, Cond.initialized RX6, Cond.code yX6_gift cX6_gift 1 (some .int), Cond.fieldLink RX6 9 "KneelingStones$Pious" "n" "I", Cond.sameField "KneelingStones$Pious" "KneelingStones$Parish" "n" "I", Cond.selects RX7 ⟨"KneelingStones$Parish", "gift", "()I"⟩ yX5_gift, Cond.methodLink RX8 70 yX8_offer, Cond.instanceMethod yX8_offer, Cond.selects RX8 yX8_offer yX8_offer, Cond.code yX8_offer cX8_offer 3 none, Cond.methodLink RX8 54 ⟨"KneelingStones$Parish", "loss", "()I"⟩, Cond.sameMethod "KneelingStones$Parish" "KneelingStones$Parish" "loss" "()I", Cond.instanceMethod ⟨"KneelingStones$Parish", "loss", "()I"⟩, Cond.selects RX0 ⟨"KneelingStones$Parish", "loss", "()I"⟩ yX7_loss, Cond.instanceMethod yX7_loss, Cond.initialized RX7, Cond.code yX7_loss cX7_loss 1 (some .int), Cond.code yX5_loss cX5_loss 1 (some .int)]
def wsX8_fewestSins_r4 : List Cond := [Cond.methodLink RX8 54 yX5_loss, Cond.instanceMethod yX5_loss, Cond.selects RX5 yX5_loss yX5_loss, Cond.selects RX6 ⟨"KneelingStones$Parish", "loss", "()I"⟩ yX5_loss, Cond.selects RX7 ⟨"KneelingStones$Parish", "loss", "()I"⟩ yX7_loss, Cond.methodLink RX8 74 ⟨"KneelingStones$Parish", "canRest", "()Z"⟩, Cond.sameMethod "KneelingStones$Parish" "KneelingStones$Parish" "canRest" "()Z", Cond.selects RX0 ⟨"KneelingStones$Parish", "canRest", "()Z"⟩ yX5_canRest, Cond.instanceMethod yX5_canRest, Cond.code yX5_canRest cX5_canRest 1 (some .boolean), Cond.methodLink RX8 74 yX5_canRest, Cond.selects RX5 yX5_canRest yX5_canRest, Cond.selects RX6 ⟨"KneelingStones$Parish", "canRest", "()Z"⟩ yX5_canRest, Cond.selects RX7 ⟨"KneelingStones$Parish", "canRest", "()Z"⟩ yX5_canRest, Cond.methodLink RX8 36 yX8_costOf, Cond.instanceMethod yX8_costOf, Cond.selects RX8 yX8_costOf yX8_costOf, Cond.code yX8_costOf cX8_costOf 3 (some .int)]
def wsX8_fewestSins : List Cond := .code yX8_fewestSins cX8_fewestSins 4 (some .int) :: ((wsX8_fewestSins_r1 ++ (wsX8_fewestSins_r2 ++ (wsX8_fewestSins_r3 ++ wsX8_fewestSins_r4))) ++ wsX80 ++ wsX00 ++ wsX50 ++ wsX60 ++ wsX70)
def wsX8_mostSins_r1 : List Cond := [Cond.methodLink RX8 18 yX8_leastCost, Cond.instanceMethod yX8_leastCost, Cond.selects RX8 yX8_leastCost yX8_leastCost, Cond.initialized RX8, Cond.code yX8_leastCost cX8_leastCost 4 (some .int), Cond.methodLink RX8 29 yX8_start, Cond.instanceMethod yX8_start, Cond.selects RX8 yX8_start yX8_start, Cond.code yX8_start cX8_start 1 none, Cond.fieldLink RX8 11 "KneelingStones$Ways" "row" "[I", Cond.methodLink RX8 58 yJ7_fill_53178, Cond.static yJ7_fill_53178, Cond.initialized RJ7, Cond.code yJ7_fill_53178 cJ7_fill_53178 4 none, Cond.methodLink RX8 32 yX8_addAllBut, Cond.instanceMethod yX8_addAllBut, Cond.selects RX8 yX8_addAllBut yX8_addAllBut, Cond.code yX8_addAllBut cX8_addAllBut 7 none, Cond.fieldLink RX8 40 "KneelingStones$Parish" "walkers" "I", Cond.methodLink RX8 46 yX8_addWalker, Cond.instanceMethod yX8_addWalker, Cond.selects RX8 yX8_addWalker yX8_addWalker, Cond.code yX8_addWalker cX8_addWalker 7 none, Cond.fieldLink RX8 15 "KneelingStones$Ways" "next" "[I"]
def wsX8_mostSins_r2 : List Cond := [Cond.methodLink RX8 50 ⟨"KneelingStones$Parish", "canSin", "()Z"⟩, Cond.sameMethod "KneelingStones$Parish" "KneelingStones$Parish" "canSin" "()Z", Cond.selects RX0 ⟨"KneelingStones$Parish", "canSin", "()Z"⟩ yX5_canSin, Cond.instanceMethod yX5_canSin, Cond.initialized RX5, Cond.code yX5_canSin cX5_canSin 1 (some .boolean), Cond.fieldLink RX5 22 "KneelingStones$Parish" "wish" "I", Cond.fieldLink RX5 25 "KneelingStones$Parish" "sin" "I", Cond.methodLink RX8 50 yX5_canSin, Cond.selects RX5 yX5_canSin yX5_canSin, Cond.selects RX6 ⟨"KneelingStones$Parish", "canSin", "()Z"⟩ yX5_canSin, Cond.selects RX7 ⟨"KneelingStones$Parish", "canSin", "()Z"⟩ yX5_canSin, Cond.methodLink RX8 64 ⟨"KneelingStones$Parish", "canWish", "()Z"⟩, Cond.sameMethod "KneelingStones$Parish" "KneelingStones$Parish" "canWish" "()Z", Cond.selects RX0 ⟨"KneelingStones$Parish", "canWish", "()Z"⟩ yX5_canWish, Cond.instanceMethod yX5_canWish, Cond.code yX5_canWish cX5_canWish 1 (some .boolean), Cond.methodLink RX8 64 yX5_canWish, Cond.selects RX5 yX5_canWish yX5_canWish, Cond.selects RX6 ⟨"KneelingStones$Parish", "canWish", "()Z"⟩ yX5_canWish, Cond.selects RX7 ⟨"KneelingStones$Parish", "canWish", "()Z"⟩ yX5_canWish, Cond.methodLink RX8 67 ⟨"KneelingStones$Parish", "gift", "()I"⟩, Cond.sameMethod "KneelingStones$Parish" "KneelingStones$Parish" "gift" "()I", Cond.selects RX0 ⟨"KneelingStones$Parish", "gift", "()I"⟩ yX5_gift]
def wsX8_mostSins_r3 : List Cond := [Cond.instanceMethod yX5_gift, Cond.code yX5_gift cX5_gift 1 (some .int), Cond.methodLink RX8 67 yX5_gift, Cond.selects RX5 yX5_gift yX5_gift, Cond.instanceMethod ⟨"KneelingStones$Parish", "gift", "()I"⟩, Cond.selects RX6 ⟨"KneelingStones$Parish", "gift", "()I"⟩ yX6_gift, Cond.instanceMethod yX6_gift, Cond.initialized RX6, Cond.code yX6_gift cX6_gift 1 (some .int), Cond.fieldLink RX6 9 "KneelingStones$Pious" "n" "I", Cond.sameField "KneelingStones$Pious" "KneelingStones$Parish" "n" "I", Cond.selects RX7 ⟨"KneelingStones$Parish", "gift", "()I"⟩ yX5_gift, Cond.methodLink RX8 70 yX8_offer, Cond.instanceMethod yX8_offer, Cond.selects RX8 yX8_offer yX8_offer, Cond.code yX8_offer cX8_offer 3 none, Cond.methodLink RX8 54 ⟨"KneelingStones$Parish", "loss", "()I"⟩, Cond.sameMethod "KneelingStones$Parish" "KneelingStones$Parish" "loss" "()I", Cond.instanceMethod ⟨"KneelingStones$Parish", "loss", "()I"⟩, Cond.selects RX0 ⟨"KneelingStones$Parish", "loss", "()I"⟩ yX7_loss, Cond.instanceMethod yX7_loss, Cond.initialized RX7, Cond.code yX7_loss cX7_loss 1 (some .int), Cond.code yX5_loss cX5_loss 1 (some .int)]
def wsX8_mostSins_r4 : List Cond := [Cond.methodLink RX8 54 yX5_loss, Cond.instanceMethod yX5_loss, Cond.selects RX5 yX5_loss yX5_loss, Cond.selects RX6 ⟨"KneelingStones$Parish", "loss", "()I"⟩ yX5_loss, Cond.selects RX7 ⟨"KneelingStones$Parish", "loss", "()I"⟩ yX7_loss, Cond.methodLink RX8 74 ⟨"KneelingStones$Parish", "canRest", "()Z"⟩, Cond.sameMethod "KneelingStones$Parish" "KneelingStones$Parish" "canRest" "()Z", Cond.selects RX0 ⟨"KneelingStones$Parish", "canRest", "()Z"⟩ yX5_canRest, Cond.instanceMethod yX5_canRest, Cond.code yX5_canRest cX5_canRest 1 (some .boolean), Cond.methodLink RX8 74 yX5_canRest, Cond.selects RX5 yX5_canRest yX5_canRest, Cond.selects RX6 ⟨"KneelingStones$Parish", "canRest", "()Z"⟩ yX5_canRest, Cond.selects RX7 ⟨"KneelingStones$Parish", "canRest", "()Z"⟩ yX5_canRest, Cond.methodLink RX8 36 yX8_costOf, Cond.instanceMethod yX8_costOf, Cond.selects RX8 yX8_costOf yX8_costOf, Cond.code yX8_costOf cX8_costOf 3 (some .int)]
def wsX8_mostSins : List Cond := .code yX8_mostSins cX8_mostSins 4 (some .int) :: ((wsX8_mostSins_r1 ++ (wsX8_mostSins_r2 ++ (wsX8_mostSins_r3 ++ wsX8_mostSins_r4))) ++ wsX80 ++ wsX00 ++ wsX50 ++ wsX60 ++ wsX70)
def wsX8_canBeWithout_r1 : List Cond := [Cond.fieldLink RX8 40 "KneelingStones$Parish" "walkers" "I", Cond.methodLink RX8 29 yX8_start, Cond.instanceMethod yX8_start, Cond.selects RX8 yX8_start yX8_start, Cond.initialized RX8, Cond.code yX8_start cX8_start 1 none, Cond.fieldLink RX8 11 "KneelingStones$Ways" "row" "[I", Cond.methodLink RX8 58 yJ7_fill_53178, Cond.static yJ7_fill_53178, Cond.initialized RJ7, Cond.code yJ7_fill_53178 cJ7_fill_53178 4 none, Cond.methodLink RX8 32 yX8_addAllBut, Cond.instanceMethod yX8_addAllBut, Cond.selects RX8 yX8_addAllBut yX8_addAllBut, Cond.code yX8_addAllBut cX8_addAllBut 7 none, Cond.methodLink RX8 46 yX8_addWalker, Cond.instanceMethod yX8_addWalker, Cond.selects RX8 yX8_addWalker yX8_addWalker, Cond.code yX8_addWalker cX8_addWalker 7 none, Cond.fieldLink RX8 15 "KneelingStones$Ways" "next" "[I", Cond.methodLink RX8 50 ⟨"KneelingStones$Parish", "canSin", "()Z"⟩, Cond.sameMethod "KneelingStones$Parish" "KneelingStones$Parish" "canSin" "()Z", Cond.selects RX0 ⟨"KneelingStones$Parish", "canSin", "()Z"⟩ yX5_canSin, Cond.instanceMethod yX5_canSin]
def wsX8_canBeWithout_r2 : List Cond := [Cond.initialized RX5, Cond.code yX5_canSin cX5_canSin 1 (some .boolean), Cond.fieldLink RX5 22 "KneelingStones$Parish" "wish" "I", Cond.fieldLink RX5 25 "KneelingStones$Parish" "sin" "I", Cond.methodLink RX8 50 yX5_canSin, Cond.selects RX5 yX5_canSin yX5_canSin, Cond.selects RX6 ⟨"KneelingStones$Parish", "canSin", "()Z"⟩ yX5_canSin, Cond.selects RX7 ⟨"KneelingStones$Parish", "canSin", "()Z"⟩ yX5_canSin, Cond.methodLink RX8 64 ⟨"KneelingStones$Parish", "canWish", "()Z"⟩, Cond.sameMethod "KneelingStones$Parish" "KneelingStones$Parish" "canWish" "()Z", Cond.selects RX0 ⟨"KneelingStones$Parish", "canWish", "()Z"⟩ yX5_canWish, Cond.instanceMethod yX5_canWish, Cond.code yX5_canWish cX5_canWish 1 (some .boolean), Cond.methodLink RX8 64 yX5_canWish, Cond.selects RX5 yX5_canWish yX5_canWish, Cond.selects RX6 ⟨"KneelingStones$Parish", "canWish", "()Z"⟩ yX5_canWish, Cond.selects RX7 ⟨"KneelingStones$Parish", "canWish", "()Z"⟩ yX5_canWish, Cond.methodLink RX8 67 ⟨"KneelingStones$Parish", "gift", "()I"⟩, Cond.sameMethod "KneelingStones$Parish" "KneelingStones$Parish" "gift" "()I", Cond.selects RX0 ⟨"KneelingStones$Parish", "gift", "()I"⟩ yX5_gift, Cond.instanceMethod yX5_gift, Cond.code yX5_gift cX5_gift 1 (some .int), Cond.methodLink RX8 67 yX5_gift, Cond.selects RX5 yX5_gift yX5_gift]
def wsX8_canBeWithout_r3 : List Cond := [Cond.instanceMethod ⟨"KneelingStones$Parish", "gift", "()I"⟩, Cond.selects RX6 ⟨"KneelingStones$Parish", "gift", "()I"⟩ yX6_gift, Cond.instanceMethod yX6_gift, Cond.initialized RX6, Cond.code yX6_gift cX6_gift 1 (some .int), Cond.fieldLink RX6 9 "KneelingStones$Pious" "n" "I", Cond.sameField "KneelingStones$Pious" "KneelingStones$Parish" "n" "I", Cond.selects RX7 ⟨"KneelingStones$Parish", "gift", "()I"⟩ yX5_gift, Cond.methodLink RX8 70 yX8_offer, Cond.instanceMethod yX8_offer, Cond.selects RX8 yX8_offer yX8_offer, Cond.code yX8_offer cX8_offer 3 none, Cond.methodLink RX8 54 ⟨"KneelingStones$Parish", "loss", "()I"⟩, Cond.sameMethod "KneelingStones$Parish" "KneelingStones$Parish" "loss" "()I", Cond.instanceMethod ⟨"KneelingStones$Parish", "loss", "()I"⟩, Cond.selects RX0 ⟨"KneelingStones$Parish", "loss", "()I"⟩ yX7_loss, Cond.instanceMethod yX7_loss, Cond.initialized RX7, Cond.code yX7_loss cX7_loss 1 (some .int), Cond.code yX5_loss cX5_loss 1 (some .int), Cond.methodLink RX8 54 yX5_loss, Cond.instanceMethod yX5_loss, Cond.selects RX5 yX5_loss yX5_loss, Cond.selects RX6 ⟨"KneelingStones$Parish", "loss", "()I"⟩ yX5_loss]
def wsX8_canBeWithout_r4 : List Cond := [Cond.selects RX7 ⟨"KneelingStones$Parish", "loss", "()I"⟩ yX7_loss, Cond.methodLink RX8 74 ⟨"KneelingStones$Parish", "canRest", "()Z"⟩, Cond.sameMethod "KneelingStones$Parish" "KneelingStones$Parish" "canRest" "()Z", Cond.selects RX0 ⟨"KneelingStones$Parish", "canRest", "()Z"⟩ yX5_canRest, Cond.instanceMethod yX5_canRest, Cond.code yX5_canRest cX5_canRest 1 (some .boolean), Cond.methodLink RX8 74 yX5_canRest, Cond.selects RX5 yX5_canRest yX5_canRest, Cond.selects RX6 ⟨"KneelingStones$Parish", "canRest", "()Z"⟩ yX5_canRest, Cond.selects RX7 ⟨"KneelingStones$Parish", "canRest", "()Z"⟩ yX5_canRest, Cond.methodLink RX8 36 yX8_costOf, Cond.instanceMethod yX8_costOf, Cond.selects RX8 yX8_costOf yX8_costOf, Cond.code yX8_costOf cX8_costOf 3 (some .int)]
def wsX8_canBeWithout : List Cond := .code yX8_canBeWithout cX8_canBeWithout 6 (some .boolean) :: ((wsX8_canBeWithout_r1 ++ (wsX8_canBeWithout_r2 ++ (wsX8_canBeWithout_r3 ++ wsX8_canBeWithout_r4))) ++ wsX00 ++ wsX50 ++ wsX60 ++ wsX70 ++ wsX80)
def wsX8_whoMust_r1 : List Cond := [Cond.methodLink RX8 18 yX8_leastCost, Cond.instanceMethod yX8_leastCost, Cond.selects RX8 yX8_leastCost yX8_leastCost, Cond.initialized RX8, Cond.code yX8_leastCost cX8_leastCost 4 (some .int), Cond.methodLink RX8 29 yX8_start, Cond.instanceMethod yX8_start, Cond.selects RX8 yX8_start yX8_start, Cond.code yX8_start cX8_start 1 none, Cond.fieldLink RX8 11 "KneelingStones$Ways" "row" "[I", Cond.methodLink RX8 58 yJ7_fill_53178, Cond.static yJ7_fill_53178, Cond.initialized RJ7, Cond.code yJ7_fill_53178 cJ7_fill_53178 4 none, Cond.methodLink RX8 32 yX8_addAllBut, Cond.instanceMethod yX8_addAllBut, Cond.selects RX8 yX8_addAllBut yX8_addAllBut, Cond.code yX8_addAllBut cX8_addAllBut 7 none, Cond.fieldLink RX8 40 "KneelingStones$Parish" "walkers" "I", Cond.methodLink RX8 46 yX8_addWalker, Cond.instanceMethod yX8_addWalker, Cond.selects RX8 yX8_addWalker yX8_addWalker, Cond.code yX8_addWalker cX8_addWalker 7 none, Cond.fieldLink RX8 15 "KneelingStones$Ways" "next" "[I"]
def wsX8_whoMust_r2 : List Cond := [Cond.methodLink RX8 50 ⟨"KneelingStones$Parish", "canSin", "()Z"⟩, Cond.sameMethod "KneelingStones$Parish" "KneelingStones$Parish" "canSin" "()Z", Cond.selects RX0 ⟨"KneelingStones$Parish", "canSin", "()Z"⟩ yX5_canSin, Cond.instanceMethod yX5_canSin, Cond.initialized RX5, Cond.code yX5_canSin cX5_canSin 1 (some .boolean), Cond.fieldLink RX5 22 "KneelingStones$Parish" "wish" "I", Cond.fieldLink RX5 25 "KneelingStones$Parish" "sin" "I", Cond.methodLink RX8 50 yX5_canSin, Cond.selects RX5 yX5_canSin yX5_canSin, Cond.selects RX6 ⟨"KneelingStones$Parish", "canSin", "()Z"⟩ yX5_canSin, Cond.selects RX7 ⟨"KneelingStones$Parish", "canSin", "()Z"⟩ yX5_canSin, Cond.methodLink RX8 64 ⟨"KneelingStones$Parish", "canWish", "()Z"⟩, Cond.sameMethod "KneelingStones$Parish" "KneelingStones$Parish" "canWish" "()Z", Cond.selects RX0 ⟨"KneelingStones$Parish", "canWish", "()Z"⟩ yX5_canWish, Cond.instanceMethod yX5_canWish, Cond.code yX5_canWish cX5_canWish 1 (some .boolean), Cond.methodLink RX8 64 yX5_canWish, Cond.selects RX5 yX5_canWish yX5_canWish, Cond.selects RX6 ⟨"KneelingStones$Parish", "canWish", "()Z"⟩ yX5_canWish, Cond.selects RX7 ⟨"KneelingStones$Parish", "canWish", "()Z"⟩ yX5_canWish, Cond.methodLink RX8 67 ⟨"KneelingStones$Parish", "gift", "()I"⟩, Cond.sameMethod "KneelingStones$Parish" "KneelingStones$Parish" "gift" "()I", Cond.selects RX0 ⟨"KneelingStones$Parish", "gift", "()I"⟩ yX5_gift]
def wsX8_whoMust_r3 : List Cond := [Cond.instanceMethod yX5_gift, Cond.code yX5_gift cX5_gift 1 (some .int), Cond.methodLink RX8 67 yX5_gift, Cond.selects RX5 yX5_gift yX5_gift, Cond.instanceMethod ⟨"KneelingStones$Parish", "gift", "()I"⟩, Cond.selects RX6 ⟨"KneelingStones$Parish", "gift", "()I"⟩ yX6_gift, Cond.instanceMethod yX6_gift, Cond.initialized RX6, Cond.code yX6_gift cX6_gift 1 (some .int), Cond.fieldLink RX6 9 "KneelingStones$Pious" "n" "I", Cond.sameField "KneelingStones$Pious" "KneelingStones$Parish" "n" "I", Cond.selects RX7 ⟨"KneelingStones$Parish", "gift", "()I"⟩ yX5_gift, Cond.methodLink RX8 70 yX8_offer, Cond.instanceMethod yX8_offer, Cond.selects RX8 yX8_offer yX8_offer, Cond.code yX8_offer cX8_offer 3 none, Cond.methodLink RX8 54 ⟨"KneelingStones$Parish", "loss", "()I"⟩, Cond.sameMethod "KneelingStones$Parish" "KneelingStones$Parish" "loss" "()I", Cond.instanceMethod ⟨"KneelingStones$Parish", "loss", "()I"⟩, Cond.selects RX0 ⟨"KneelingStones$Parish", "loss", "()I"⟩ yX7_loss, Cond.instanceMethod yX7_loss, Cond.initialized RX7, Cond.code yX7_loss cX7_loss 1 (some .int), Cond.code yX5_loss cX5_loss 1 (some .int)]
def wsX8_whoMust_r4 : List Cond := [Cond.methodLink RX8 54 yX5_loss, Cond.instanceMethod yX5_loss, Cond.selects RX5 yX5_loss yX5_loss, Cond.selects RX6 ⟨"KneelingStones$Parish", "loss", "()I"⟩ yX5_loss, Cond.selects RX7 ⟨"KneelingStones$Parish", "loss", "()I"⟩ yX7_loss, Cond.methodLink RX8 74 ⟨"KneelingStones$Parish", "canRest", "()Z"⟩, Cond.sameMethod "KneelingStones$Parish" "KneelingStones$Parish" "canRest" "()Z", Cond.selects RX0 ⟨"KneelingStones$Parish", "canRest", "()Z"⟩ yX5_canRest, Cond.instanceMethod yX5_canRest, Cond.code yX5_canRest cX5_canRest 1 (some .boolean), Cond.methodLink RX8 74 yX5_canRest, Cond.selects RX5 yX5_canRest yX5_canRest, Cond.selects RX6 ⟨"KneelingStones$Parish", "canRest", "()Z"⟩ yX5_canRest, Cond.selects RX7 ⟨"KneelingStones$Parish", "canRest", "()Z"⟩ yX5_canRest, Cond.methodLink RX8 36 yX8_costOf, Cond.instanceMethod yX8_costOf, Cond.selects RX8 yX8_costOf yX8_costOf, Cond.code yX8_costOf cX8_costOf 3 (some .int), Cond.methodLink RX8 22 yX8_canBeWithout, Cond.instanceMethod yX8_canBeWithout, Cond.selects RX8 yX8_canBeWithout yX8_canBeWithout, Cond.code yX8_canBeWithout cX8_canBeWithout 6 (some .boolean)]
def wsX8_whoMust : List Cond := .code yX8_whoMust cX8_whoMust 5 (some .int) :: ((wsX8_whoMust_r1 ++ (wsX8_whoMust_r2 ++ (wsX8_whoMust_r3 ++ wsX8_whoMust_r4))) ++ wsX80 ++ wsX00 ++ wsX50 ++ wsX60 ++ wsX70)
def wsX8_canBeWith_r1 : List Cond := [Cond.fieldLink RX8 40 "KneelingStones$Parish" "walkers" "I", Cond.methodLink RX8 50 ⟨"KneelingStones$Parish", "canSin", "()Z"⟩, Cond.sameMethod "KneelingStones$Parish" "KneelingStones$Parish" "canSin" "()Z", Cond.selects RX0 ⟨"KneelingStones$Parish", "canSin", "()Z"⟩ yX5_canSin, Cond.instanceMethod yX5_canSin, Cond.initialized RX5, Cond.code yX5_canSin cX5_canSin 1 (some .boolean), Cond.fieldLink RX5 22 "KneelingStones$Parish" "wish" "I", Cond.fieldLink RX5 25 "KneelingStones$Parish" "sin" "I", Cond.methodLink RX8 50 yX5_canSin, Cond.selects RX5 yX5_canSin yX5_canSin, Cond.selects RX6 ⟨"KneelingStones$Parish", "canSin", "()Z"⟩ yX5_canSin, Cond.selects RX7 ⟨"KneelingStones$Parish", "canSin", "()Z"⟩ yX5_canSin, Cond.methodLink RX8 29 yX8_start, Cond.instanceMethod yX8_start, Cond.selects RX8 yX8_start yX8_start, Cond.initialized RX8, Cond.code yX8_start cX8_start 1 none, Cond.fieldLink RX8 11 "KneelingStones$Ways" "row" "[I", Cond.methodLink RX8 58 yJ7_fill_53178, Cond.static yJ7_fill_53178, Cond.initialized RJ7, Cond.code yJ7_fill_53178 cJ7_fill_53178 4 none, Cond.methodLink RX8 32 yX8_addAllBut]
def wsX8_canBeWith_r2 : List Cond := [Cond.instanceMethod yX8_addAllBut, Cond.selects RX8 yX8_addAllBut yX8_addAllBut, Cond.code yX8_addAllBut cX8_addAllBut 7 none, Cond.methodLink RX8 46 yX8_addWalker, Cond.instanceMethod yX8_addWalker, Cond.selects RX8 yX8_addWalker yX8_addWalker, Cond.code yX8_addWalker cX8_addWalker 7 none, Cond.fieldLink RX8 15 "KneelingStones$Ways" "next" "[I", Cond.methodLink RX8 64 ⟨"KneelingStones$Parish", "canWish", "()Z"⟩, Cond.sameMethod "KneelingStones$Parish" "KneelingStones$Parish" "canWish" "()Z", Cond.selects RX0 ⟨"KneelingStones$Parish", "canWish", "()Z"⟩ yX5_canWish, Cond.instanceMethod yX5_canWish, Cond.code yX5_canWish cX5_canWish 1 (some .boolean), Cond.methodLink RX8 64 yX5_canWish, Cond.selects RX5 yX5_canWish yX5_canWish, Cond.selects RX6 ⟨"KneelingStones$Parish", "canWish", "()Z"⟩ yX5_canWish, Cond.selects RX7 ⟨"KneelingStones$Parish", "canWish", "()Z"⟩ yX5_canWish, Cond.methodLink RX8 67 ⟨"KneelingStones$Parish", "gift", "()I"⟩, Cond.sameMethod "KneelingStones$Parish" "KneelingStones$Parish" "gift" "()I", Cond.selects RX0 ⟨"KneelingStones$Parish", "gift", "()I"⟩ yX5_gift, Cond.instanceMethod yX5_gift, Cond.code yX5_gift cX5_gift 1 (some .int), Cond.methodLink RX8 67 yX5_gift, Cond.selects RX5 yX5_gift yX5_gift]
def wsX8_canBeWith_r3 : List Cond := [Cond.instanceMethod ⟨"KneelingStones$Parish", "gift", "()I"⟩, Cond.selects RX6 ⟨"KneelingStones$Parish", "gift", "()I"⟩ yX6_gift, Cond.instanceMethod yX6_gift, Cond.initialized RX6, Cond.code yX6_gift cX6_gift 1 (some .int), Cond.fieldLink RX6 9 "KneelingStones$Pious" "n" "I", Cond.sameField "KneelingStones$Pious" "KneelingStones$Parish" "n" "I", Cond.selects RX7 ⟨"KneelingStones$Parish", "gift", "()I"⟩ yX5_gift, Cond.methodLink RX8 70 yX8_offer, Cond.instanceMethod yX8_offer, Cond.selects RX8 yX8_offer yX8_offer, Cond.code yX8_offer cX8_offer 3 none, Cond.methodLink RX8 54 ⟨"KneelingStones$Parish", "loss", "()I"⟩, Cond.sameMethod "KneelingStones$Parish" "KneelingStones$Parish" "loss" "()I", Cond.instanceMethod ⟨"KneelingStones$Parish", "loss", "()I"⟩, Cond.selects RX0 ⟨"KneelingStones$Parish", "loss", "()I"⟩ yX7_loss, Cond.instanceMethod yX7_loss, Cond.initialized RX7, Cond.code yX7_loss cX7_loss 1 (some .int), Cond.code yX5_loss cX5_loss 1 (some .int), Cond.methodLink RX8 54 yX5_loss, Cond.instanceMethod yX5_loss, Cond.selects RX5 yX5_loss yX5_loss, Cond.selects RX6 ⟨"KneelingStones$Parish", "loss", "()I"⟩ yX5_loss]
def wsX8_canBeWith_r4 : List Cond := [Cond.selects RX7 ⟨"KneelingStones$Parish", "loss", "()I"⟩ yX7_loss, Cond.methodLink RX8 74 ⟨"KneelingStones$Parish", "canRest", "()Z"⟩, Cond.sameMethod "KneelingStones$Parish" "KneelingStones$Parish" "canRest" "()Z", Cond.selects RX0 ⟨"KneelingStones$Parish", "canRest", "()Z"⟩ yX5_canRest, Cond.instanceMethod yX5_canRest, Cond.code yX5_canRest cX5_canRest 1 (some .boolean), Cond.methodLink RX8 74 yX5_canRest, Cond.selects RX5 yX5_canRest yX5_canRest, Cond.selects RX6 ⟨"KneelingStones$Parish", "canRest", "()Z"⟩ yX5_canRest, Cond.selects RX7 ⟨"KneelingStones$Parish", "canRest", "()Z"⟩ yX5_canRest, Cond.methodLink RX8 36 yX8_costOf, Cond.instanceMethod yX8_costOf, Cond.selects RX8 yX8_costOf yX8_costOf, Cond.code yX8_costOf cX8_costOf 3 (some .int)]
def wsX8_canBeWith : List Cond := .code yX8_canBeWith cX8_canBeWith 6 (some .boolean) :: ((wsX8_canBeWith_r1 ++ (wsX8_canBeWith_r2 ++ (wsX8_canBeWith_r3 ++ wsX8_canBeWith_r4))) ++ wsX00 ++ wsX50 ++ wsX60 ++ wsX70 ++ wsX80)
def wsX8_whoMay_r1 : List Cond := [Cond.methodLink RX8 26 yX8_canBeWith, Cond.instanceMethod yX8_canBeWith, Cond.selects RX8 yX8_canBeWith yX8_canBeWith, Cond.initialized RX8, Cond.code yX8_canBeWith cX8_canBeWith 6 (some .boolean), Cond.fieldLink RX8 40 "KneelingStones$Parish" "walkers" "I", Cond.methodLink RX8 50 ⟨"KneelingStones$Parish", "canSin", "()Z"⟩, Cond.sameMethod "KneelingStones$Parish" "KneelingStones$Parish" "canSin" "()Z", Cond.selects RX0 ⟨"KneelingStones$Parish", "canSin", "()Z"⟩ yX5_canSin, Cond.instanceMethod yX5_canSin, Cond.initialized RX5, Cond.code yX5_canSin cX5_canSin 1 (some .boolean), Cond.fieldLink RX5 22 "KneelingStones$Parish" "wish" "I", Cond.fieldLink RX5 25 "KneelingStones$Parish" "sin" "I", Cond.methodLink RX8 50 yX5_canSin, Cond.selects RX5 yX5_canSin yX5_canSin, Cond.selects RX6 ⟨"KneelingStones$Parish", "canSin", "()Z"⟩ yX5_canSin, Cond.selects RX7 ⟨"KneelingStones$Parish", "canSin", "()Z"⟩ yX5_canSin, Cond.methodLink RX8 29 yX8_start, Cond.instanceMethod yX8_start, Cond.selects RX8 yX8_start yX8_start, Cond.code yX8_start cX8_start 1 none, Cond.fieldLink RX8 11 "KneelingStones$Ways" "row" "[I", Cond.methodLink RX8 58 yJ7_fill_53178]
def wsX8_whoMay_r2 : List Cond := [Cond.static yJ7_fill_53178, Cond.initialized RJ7, Cond.code yJ7_fill_53178 cJ7_fill_53178 4 none, Cond.methodLink RX8 32 yX8_addAllBut, Cond.instanceMethod yX8_addAllBut, Cond.selects RX8 yX8_addAllBut yX8_addAllBut, Cond.code yX8_addAllBut cX8_addAllBut 7 none, Cond.methodLink RX8 46 yX8_addWalker, Cond.instanceMethod yX8_addWalker, Cond.selects RX8 yX8_addWalker yX8_addWalker, Cond.code yX8_addWalker cX8_addWalker 7 none, Cond.fieldLink RX8 15 "KneelingStones$Ways" "next" "[I", Cond.methodLink RX8 64 ⟨"KneelingStones$Parish", "canWish", "()Z"⟩, Cond.sameMethod "KneelingStones$Parish" "KneelingStones$Parish" "canWish" "()Z", Cond.selects RX0 ⟨"KneelingStones$Parish", "canWish", "()Z"⟩ yX5_canWish, Cond.instanceMethod yX5_canWish, Cond.code yX5_canWish cX5_canWish 1 (some .boolean), Cond.methodLink RX8 64 yX5_canWish, Cond.selects RX5 yX5_canWish yX5_canWish, Cond.selects RX6 ⟨"KneelingStones$Parish", "canWish", "()Z"⟩ yX5_canWish, Cond.selects RX7 ⟨"KneelingStones$Parish", "canWish", "()Z"⟩ yX5_canWish, Cond.methodLink RX8 67 ⟨"KneelingStones$Parish", "gift", "()I"⟩, Cond.sameMethod "KneelingStones$Parish" "KneelingStones$Parish" "gift" "()I", Cond.selects RX0 ⟨"KneelingStones$Parish", "gift", "()I"⟩ yX5_gift]
def wsX8_whoMay_r3 : List Cond := [Cond.instanceMethod yX5_gift, Cond.code yX5_gift cX5_gift 1 (some .int), Cond.methodLink RX8 67 yX5_gift, Cond.selects RX5 yX5_gift yX5_gift, Cond.instanceMethod ⟨"KneelingStones$Parish", "gift", "()I"⟩, Cond.selects RX6 ⟨"KneelingStones$Parish", "gift", "()I"⟩ yX6_gift, Cond.instanceMethod yX6_gift, Cond.initialized RX6, Cond.code yX6_gift cX6_gift 1 (some .int), Cond.fieldLink RX6 9 "KneelingStones$Pious" "n" "I", Cond.sameField "KneelingStones$Pious" "KneelingStones$Parish" "n" "I", Cond.selects RX7 ⟨"KneelingStones$Parish", "gift", "()I"⟩ yX5_gift, Cond.methodLink RX8 70 yX8_offer, Cond.instanceMethod yX8_offer, Cond.selects RX8 yX8_offer yX8_offer, Cond.code yX8_offer cX8_offer 3 none, Cond.methodLink RX8 54 ⟨"KneelingStones$Parish", "loss", "()I"⟩, Cond.sameMethod "KneelingStones$Parish" "KneelingStones$Parish" "loss" "()I", Cond.instanceMethod ⟨"KneelingStones$Parish", "loss", "()I"⟩, Cond.selects RX0 ⟨"KneelingStones$Parish", "loss", "()I"⟩ yX7_loss, Cond.instanceMethod yX7_loss, Cond.initialized RX7, Cond.code yX7_loss cX7_loss 1 (some .int), Cond.code yX5_loss cX5_loss 1 (some .int)]
def wsX8_whoMay_r4 : List Cond := [Cond.methodLink RX8 54 yX5_loss, Cond.instanceMethod yX5_loss, Cond.selects RX5 yX5_loss yX5_loss, Cond.selects RX6 ⟨"KneelingStones$Parish", "loss", "()I"⟩ yX5_loss, Cond.selects RX7 ⟨"KneelingStones$Parish", "loss", "()I"⟩ yX7_loss, Cond.methodLink RX8 74 ⟨"KneelingStones$Parish", "canRest", "()Z"⟩, Cond.sameMethod "KneelingStones$Parish" "KneelingStones$Parish" "canRest" "()Z", Cond.selects RX0 ⟨"KneelingStones$Parish", "canRest", "()Z"⟩ yX5_canRest, Cond.instanceMethod yX5_canRest, Cond.code yX5_canRest cX5_canRest 1 (some .boolean), Cond.methodLink RX8 74 yX5_canRest, Cond.selects RX5 yX5_canRest yX5_canRest, Cond.selects RX6 ⟨"KneelingStones$Parish", "canRest", "()Z"⟩ yX5_canRest, Cond.selects RX7 ⟨"KneelingStones$Parish", "canRest", "()Z"⟩ yX5_canRest, Cond.methodLink RX8 36 yX8_costOf, Cond.instanceMethod yX8_costOf, Cond.selects RX8 yX8_costOf yX8_costOf, Cond.code yX8_costOf cX8_costOf 3 (some .int)]
def wsX8_whoMay : List Cond := .code yX8_whoMay cX8_whoMay 5 (some .int) :: ((wsX8_whoMay_r1 ++ (wsX8_whoMay_r2 ++ (wsX8_whoMay_r3 ++ wsX8_whoMay_r4))) ++ wsX00 ++ wsX50 ++ wsX60 ++ wsX70 ++ wsX80)
def wsX9_init_r1 : List Cond := [Cond.methodLink RX9 3 objectInit, Cond.instanceMethod objectInit, Cond.code objectInit ⟨#[0xb1]⟩ 1 none, Cond.classLink RX9 9 RX4, Cond.instantiable RX4 2, Cond.initialized RX4, Cond.fieldLink RX9 12 "KneelingStones" "page" "LKneelingStones$Page;", Cond.classLink RX9 16 RX1, Cond.fieldLink RX9 18 "KneelingStones" "customs" "[LKneelingStones$Custom;", Cond.classLink RX9 22 RX5, Cond.fieldLink RX9 24 "KneelingStones" "parishes" "[LKneelingStones$Parish;", Cond.classLink RX9 28 RX2, Cond.instantiable RX2 8, Cond.initialized RX2, Cond.fieldLink RX9 31 "KneelingStones" "now" "LKneelingStones$Moor;", Cond.fieldLink RX9 35 "KneelingStones" "kept" "LKneelingStones$Moor;", Cond.fieldLink RX9 38 "KneelingStones" "dream" "LKneelingStones$Moor;", Cond.arrayClass .int, Cond.fieldLink RX9 41 "KneelingStones" "sizes" "[I", Cond.classLink RX9 45 RX8, Cond.instantiable RX8 2, Cond.initialized RX8, Cond.fieldLink RX9 48 "KneelingStones" "ways" "LKneelingStones$Ways;", Cond.instanceMethod yX4_init]
def wsX9_init_r2 : List Cond := [Cond.code yX4_init cX4_init 1 none, Cond.methodLink RX4 3 objectInit, Cond.fieldLink RX4 9 "KneelingStones$Page" "codes" "[I", Cond.instanceMethod yX2_init, Cond.code yX2_init cX2_init 1 none, Cond.methodLink RX2 3 objectInit, Cond.fieldLink RX2 9 "KneelingStones$Moor" "heights" "[I", Cond.fieldLink RX2 15 "KneelingStones$Moor" "marks" "[I", Cond.fieldLink RX2 18 "KneelingStones$Moor" "seed" "I", Cond.instanceMethod yX8_init, Cond.code yX8_init cX8_init 1 none, Cond.methodLink RX8 3 objectInit, Cond.fieldLink RX8 11 "KneelingStones$Ways" "row" "[I", Cond.fieldLink RX8 15 "KneelingStones$Ways" "next" "[I"]
def wsX9_init : List Cond := .code yX9_init cX9_init 1 none :: ((wsX9_init_r1 ++ wsX9_init_r2) ++ wsX40 ++ wsX90 ++ wsX20 ++ wsX80)
def wsX9_letters : List Cond := .code yX9_letters cX9_letters 4 (some .int) :: ([.fieldLink RX9 12 "KneelingStones" "page" "LKneelingStones$Page;", .fieldLink RX9 56 "KneelingStones$Page" "length" "I", .methodLink RX9 52 yX4_lettersIn, .static yX4_lettersIn, .initialized RX4, .code yX4_lettersIn cX4_lettersIn 5 (some .int), .methodLink RX4 15 yX4_codeAt, .static yX4_codeAt, .code yX4_codeAt cX4_codeAt 3 (some .int), .constantLong RX4 19 (255), .methodLink RX9 60 yX4_write, .instanceMethod yX4_write, .selects RX4 yX4_write yX4_write, .code yX4_write cX4_write 5 none, .fieldLink RX4 21 "KneelingStones$Page" "length" "I", .fieldLink RX4 9 "KneelingStones$Page" "codes" "[I"] ++ wsX90 ++ wsX40)
def wsX9_blank : List Cond := .code yX9_blank cX9_blank 2 (some .int) :: ([.fieldLink RX9 12 "KneelingStones" "page" "LKneelingStones$Page;", .fieldLink RX9 56 "KneelingStones$Page" "length" "I"] ++ wsX90 ++ wsX40)
def wsX9_fault : List Cond := .code yX9_fault cX9_fault 1 (some .int) :: ([.fieldLink RX9 12 "KneelingStones" "page" "LKneelingStones$Page;", .methodLink RX9 64 yX4_firstWrong, .instanceMethod yX4_firstWrong, .selects RX4 yX4_firstWrong yX4_firstWrong, .initialized RX4, .code yX4_firstWrong cX4_firstWrong 2 (some .int), .fieldLink RX4 21 "KneelingStones$Page" "length" "I", .methodLink RX4 25 yX4_codeOf, .instanceMethod yX4_codeOf, .selects RX4 yX4_codeOf yX4_codeOf, .code yX4_codeOf cX4_codeOf 2 (some .int), .fieldLink RX4 9 "KneelingStones$Page" "codes" "[I", .methodLink RX4 29 yX4_fits, .static yX4_fits, .code yX4_fits cX4_fits 2 (some .boolean), .methodLink RX4 39 yX4_ruleOf, .static yX4_ruleOf, .code yX4_ruleOf cX4_ruleOf 1 (some .int)] ++ wsX90 ++ wsX40)
def wsX9_custom_r1 : List Cond := [Cond.fieldLink RX9 12 "KneelingStones" "page" "LKneelingStones$Page;", Cond.fieldLink RX9 72 "KneelingStones" "customCount" "I", Cond.fieldLink RX9 18 "KneelingStones" "customs" "[LKneelingStones$Custom;", Cond.fieldLink RX9 56 "KneelingStones$Page" "length" "I", Cond.methodLink RX9 68 yX4_isCustom, Cond.instanceMethod yX4_isCustom, Cond.selects RX4 yX4_isCustom yX4_isCustom, Cond.initialized RX4, Cond.code yX4_isCustom cX4_isCustom 1 (some .boolean), Cond.fieldLink RX4 21 "KneelingStones$Page" "length" "I", Cond.methodLink RX4 33 yX4_firstWrong, Cond.instanceMethod yX4_firstWrong, Cond.selects RX4 yX4_firstWrong yX4_firstWrong, Cond.code yX4_firstWrong cX4_firstWrong 2 (some .int), Cond.methodLink RX4 25 yX4_codeOf, Cond.instanceMethod yX4_codeOf, Cond.selects RX4 yX4_codeOf yX4_codeOf, Cond.code yX4_codeOf cX4_codeOf 2 (some .int), Cond.fieldLink RX4 9 "KneelingStones$Page" "codes" "[I", Cond.methodLink RX4 29 yX4_fits, Cond.static yX4_fits, Cond.code yX4_fits cX4_fits 2 (some .boolean), Cond.methodLink RX4 39 yX4_ruleOf, Cond.static yX4_ruleOf]
def wsX9_custom_r2 : List Cond := [Cond.code yX4_ruleOf cX4_ruleOf 1 (some .int), Cond.methodLink RX9 75 yX4_asCustom, Cond.instanceMethod yX4_asCustom, Cond.selects RX4 yX4_asCustom yX4_asCustom, Cond.code yX4_asCustom cX4_asCustom 2 (some (.object "KneelingStones$Custom")), Cond.classLink RX4 37 RX1, Cond.instantiable RX1 3, Cond.initialized RX1, Cond.methodLink RX4 42 yX1_init, Cond.instanceMethod yX1_init, Cond.code yX1_init cX1_init 4 none, Cond.methodLink RX1 1 objectInit, Cond.instanceMethod objectInit, Cond.code objectInit ⟨#[0xb1]⟩ 1 none, Cond.fieldLink RX1 7 "KneelingStones$Custom" "wishRule" "I", Cond.fieldLink RX1 13 "KneelingStones$Custom" "sinRule" "I", Cond.fieldLink RX1 16 "KneelingStones$Custom" "every" "I"]
def wsX9_custom : List Cond := .code yX9_custom cX9_custom 1 (some .int) :: ((wsX9_custom_r1 ++ wsX9_custom_r2) ++ wsX90 ++ wsX40 ++ wsX10)
def wsX9_customAt : List Cond := .code yX9_customAt cX9_customAt 2 (some (.object "KneelingStones$Custom")) :: ([.fieldLink RX9 18 "KneelingStones" "customs" "[LKneelingStones$Custom;"] ++ wsX90)
def wsX9_customTold : List Cond := .code yX9_customTold cX9_customTold 4 (some .int) :: ([.methodLink RX9 79 yX9_customAt, .instanceMethod yX9_customAt, .selects RX9 yX9_customAt yX9_customAt, .initialized RX9, .code yX9_customAt cX9_customAt 2 (some (.object "KneelingStones$Custom")), .fieldLink RX9 18 "KneelingStones" "customs" "[LKneelingStones$Custom;", .methodLink RX9 83 yX1_told, .instanceMethod yX1_told, .selects RX1 yX1_told yX1_told, .initialized RX1, .code yX1_told cX1_told 2 (some .int), .fieldLink RX1 7 "KneelingStones$Custom" "wishRule" "I", .fieldLink RX1 13 "KneelingStones$Custom" "sinRule" "I", .fieldLink RX1 16 "KneelingStones$Custom" "every" "I"] ++ wsX90 ++ wsX10)
def wsX9_isKindWith : List Cond := .code yX9_isKindWith cX9_isKindWith 2 (some .boolean) :: ([.methodLink RX9 119 yX9_isCairn, .static yX9_isCairn, .initialized RX9, .code yX9_isCairn cX9_isCairn 1 (some .boolean)])
def wsX9_mayBe : List Cond := .code yX9_mayBe cX9_mayBe 2 (some .boolean) :: ([])
def wsX9_madeOf_r1 : List Cond := [Cond.classLink RX9 254 RX6, Cond.instantiable RX6 4, Cond.initialized RX6, Cond.classLink RX9 259 RX7, Cond.instantiable RX7 4, Cond.initialized RX7, Cond.classLink RX9 262 RX0, Cond.instantiable RX0 4, Cond.initialized RX0, Cond.classLink RX9 22 RX5, Cond.instantiable RX5 4, Cond.initialized RX5, Cond.methodLink RX9 256 yX6_init, Cond.instanceMethod yX6_init, Cond.code yX6_init cX6_init 2 none, Cond.methodLink RX6 3 yX5_init, Cond.instanceMethod yX5_init, Cond.code yX5_init cX5_init 2 none, Cond.methodLink RX5 3 objectInit, Cond.instanceMethod objectInit, Cond.code objectInit ⟨#[0xb1]⟩ 1 none, Cond.fieldLink RX5 9 "KneelingStones$Parish" "n" "I", Cond.methodLink RX9 261 yX7_init, Cond.instanceMethod yX7_init]
def wsX9_madeOf_r2 : List Cond := [Cond.code yX7_init cX7_init 2 none, Cond.methodLink RX7 3 yX5_init, Cond.methodLink RX9 264 yX0_init, Cond.instanceMethod yX0_init, Cond.code yX0_init cX0_init 2 none, Cond.methodLink RX0 3 yX7_init, Cond.methodLink RX9 265 yX5_init]
def wsX9_madeOf : List Cond := .code yX9_madeOf cX9_madeOf 2 (some (.object "KneelingStones$Parish")) :: ((wsX9_madeOf_r1 ++ wsX9_madeOf_r2) ++ wsX60 ++ wsX70 ++ wsX00 ++ wsX50)
def wsX9_parish_r1 : List Cond := [Cond.fieldLink RX9 94 "KneelingStones" "parishCount" "I", Cond.fieldLink RX9 101 "KneelingStones$Parish" "walkers" "I", Cond.fieldLink RX9 104 "KneelingStones$Parish" "wish" "I", Cond.fieldLink RX9 107 "KneelingStones$Parish" "sin" "I", Cond.fieldLink RX9 24 "KneelingStones" "parishes" "[LKneelingStones$Parish;", Cond.methodLink RX9 87 yX9_isKindWith, Cond.static yX9_isKindWith, Cond.initialized RX9, Cond.code yX9_isKindWith cX9_isKindWith 2 (some .boolean), Cond.methodLink RX9 119 yX9_isCairn, Cond.static yX9_isCairn, Cond.code yX9_isCairn cX9_isCairn 1 (some .boolean), Cond.methodLink RX9 91 yX9_mayBe, Cond.static yX9_mayBe, Cond.code yX9_mayBe cX9_mayBe 2 (some .boolean), Cond.methodLink RX9 97 yX9_madeOf, Cond.static yX9_madeOf, Cond.code yX9_madeOf cX9_madeOf 2 (some (.object "KneelingStones$Parish")), Cond.classLink RX9 254 RX6, Cond.instantiable RX6 4, Cond.initialized RX6, Cond.classLink RX9 259 RX7, Cond.instantiable RX7 4, Cond.initialized RX7]
def wsX9_parish_r2 : List Cond := [Cond.classLink RX9 262 RX0, Cond.instantiable RX0 4, Cond.initialized RX0, Cond.classLink RX9 22 RX5, Cond.instantiable RX5 4, Cond.initialized RX5, Cond.methodLink RX9 256 yX6_init, Cond.instanceMethod yX6_init, Cond.code yX6_init cX6_init 2 none, Cond.methodLink RX6 3 yX5_init, Cond.instanceMethod yX5_init, Cond.code yX5_init cX5_init 2 none, Cond.methodLink RX5 3 objectInit, Cond.instanceMethod objectInit, Cond.code objectInit ⟨#[0xb1]⟩ 1 none, Cond.fieldLink RX5 9 "KneelingStones$Parish" "n" "I", Cond.methodLink RX9 261 yX7_init, Cond.instanceMethod yX7_init, Cond.code yX7_init cX7_init 2 none, Cond.methodLink RX7 3 yX5_init, Cond.methodLink RX9 264 yX0_init, Cond.instanceMethod yX0_init, Cond.code yX0_init cX0_init 2 none, Cond.methodLink RX0 3 yX7_init]
def wsX9_parish_r3 : List Cond := [Cond.methodLink RX9 265 yX5_init]
def wsX9_parish : List Cond := .code yX9_parish cX9_parish 7 (some .int) :: ((wsX9_parish_r1 ++ (wsX9_parish_r2 ++ wsX9_parish_r3)) ++ wsX90 ++ wsX00 ++ wsX50 ++ wsX60 ++ wsX70)
def wsX9_parishAt : List Cond := .code yX9_parishAt cX9_parishAt 2 (some (.object "KneelingStones$Parish")) :: ([.fieldLink RX9 24 "KneelingStones" "parishes" "[LKneelingStones$Parish;"] ++ wsX90)
def wsX9_isOf : List Cond := .code yX9_isOf cX9_isOf 2 (some .boolean) :: ([.classLink RX9 254 "KneelingStones$Pious", .classLink RX9 259 "KneelingStones$Sly", .classLink RX9 262 "KneelingStones$Boys"])
def wsX9_as : List Cond := .code yX9_as cX9_as 4 (some .int) :: ([.methodLink RX9 110 yX9_parishAt, .instanceMethod yX9_parishAt, .selects RX9 yX9_parishAt yX9_parishAt, .initialized RX9, .code yX9_parishAt cX9_parishAt 2 (some (.object "KneelingStones$Parish")), .fieldLink RX9 24 "KneelingStones" "parishes" "[LKneelingStones$Parish;", .methodLink RX9 114 yX9_isOf, .static yX9_isOf, .code yX9_isOf cX9_isOf 2 (some .boolean), .classLink RX9 254 "KneelingStones$Pious", .classLink RX9 259 "KneelingStones$Sly", .classLink RX9 262 "KneelingStones$Boys"] ++ wsX90)
def wsX9_about_r1 : List Cond := [Cond.methodLink RX9 110 yX9_parishAt, Cond.instanceMethod yX9_parishAt, Cond.selects RX9 yX9_parishAt yX9_parishAt, Cond.initialized RX9, Cond.code yX9_parishAt cX9_parishAt 2 (some (.object "KneelingStones$Parish")), Cond.fieldLink RX9 24 "KneelingStones" "parishes" "[LKneelingStones$Parish;", Cond.methodLink RX9 118 ⟨"KneelingStones$Parish", "told", "(I)I"⟩, Cond.sameMethod "KneelingStones$Parish" "KneelingStones$Parish" "told" "(I)I", Cond.selects RX0 ⟨"KneelingStones$Parish", "told", "(I)I"⟩ yX5_told, Cond.instanceMethod yX5_told, Cond.initialized RX5, Cond.code yX5_told cX5_told 2 (some .int), Cond.fieldLink RX5 9 "KneelingStones$Parish" "n" "I", Cond.fieldLink RX5 19 "KneelingStones$Parish" "walkers" "I", Cond.fieldLink RX5 22 "KneelingStones$Parish" "wish" "I", Cond.fieldLink RX5 25 "KneelingStones$Parish" "sin" "I", Cond.methodLink RX5 15 ⟨"KneelingStones$Parish", "kind", "()I"⟩, Cond.sameMethod "KneelingStones$Parish" "KneelingStones$Parish" "kind" "()I", Cond.instanceMethod ⟨"KneelingStones$Parish", "kind", "()I"⟩, Cond.selects RX0 ⟨"KneelingStones$Parish", "kind", "()I"⟩ yX0_kind, Cond.instanceMethod yX0_kind, Cond.initialized RX0, Cond.code yX0_kind cX0_kind 1 (some .int), Cond.code yX5_kind cX5_kind 1 (some .int)]
def wsX9_about_r2 : List Cond := [Cond.methodLink RX5 15 yX5_kind, Cond.instanceMethod yX5_kind, Cond.selects RX5 yX5_kind yX5_kind, Cond.selects RX6 ⟨"KneelingStones$Parish", "kind", "()I"⟩ yX6_kind, Cond.instanceMethod yX6_kind, Cond.initialized RX6, Cond.code yX6_kind cX6_kind 1 (some .int), Cond.selects RX7 ⟨"KneelingStones$Parish", "kind", "()I"⟩ yX7_kind, Cond.instanceMethod yX7_kind, Cond.initialized RX7, Cond.code yX7_kind cX7_kind 1 (some .int), Cond.methodLink RX5 28 ⟨"KneelingStones$Parish", "gift", "()I"⟩, Cond.sameMethod "KneelingStones$Parish" "KneelingStones$Parish" "gift" "()I", Cond.selects RX0 ⟨"KneelingStones$Parish", "gift", "()I"⟩ yX5_gift, Cond.instanceMethod yX5_gift, Cond.code yX5_gift cX5_gift 1 (some .int), Cond.methodLink RX5 28 yX5_gift, Cond.selects RX5 yX5_gift yX5_gift, Cond.instanceMethod ⟨"KneelingStones$Parish", "gift", "()I"⟩, Cond.selects RX6 ⟨"KneelingStones$Parish", "gift", "()I"⟩ yX6_gift, Cond.instanceMethod yX6_gift, Cond.code yX6_gift cX6_gift 1 (some .int), Cond.fieldLink RX6 9 "KneelingStones$Pious" "n" "I", Cond.sameField "KneelingStones$Pious" "KneelingStones$Parish" "n" "I"]
def wsX9_about_r3 : List Cond := [Cond.selects RX7 ⟨"KneelingStones$Parish", "gift", "()I"⟩ yX5_gift, Cond.methodLink RX9 118 yX5_told, Cond.selects RX5 yX5_told yX5_told, Cond.selects RX6 ⟨"KneelingStones$Parish", "told", "(I)I"⟩ yX5_told, Cond.selects RX7 ⟨"KneelingStones$Parish", "told", "(I)I"⟩ yX5_told]
def wsX9_about : List Cond := .code yX9_about cX9_about 4 (some .int) :: ((wsX9_about_r1 ++ (wsX9_about_r2 ++ wsX9_about_r3)) ++ wsX90 ++ wsX00 ++ wsX50 ++ wsX60 ++ wsX70)
def wsX9_change_r1 : List Cond := [Cond.fieldLink RX9 101 "KneelingStones$Parish" "walkers" "I", Cond.fieldLink RX9 104 "KneelingStones$Parish" "wish" "I", Cond.fieldLink RX9 107 "KneelingStones$Parish" "sin" "I", Cond.methodLink RX9 110 yX9_parishAt, Cond.instanceMethod yX9_parishAt, Cond.selects RX9 yX9_parishAt yX9_parishAt, Cond.initialized RX9, Cond.code yX9_parishAt cX9_parishAt 2 (some (.object "KneelingStones$Parish")), Cond.fieldLink RX9 24 "KneelingStones" "parishes" "[LKneelingStones$Parish;", Cond.methodLink RX9 91 yX9_mayBe, Cond.static yX9_mayBe, Cond.code yX9_mayBe cX9_mayBe 2 (some .boolean), Cond.methodLink RX9 118 ⟨"KneelingStones$Parish", "told", "(I)I"⟩, Cond.sameMethod "KneelingStones$Parish" "KneelingStones$Parish" "told" "(I)I", Cond.selects RX0 ⟨"KneelingStones$Parish", "told", "(I)I"⟩ yX5_told, Cond.instanceMethod yX5_told, Cond.initialized RX5, Cond.code yX5_told cX5_told 2 (some .int), Cond.fieldLink RX5 9 "KneelingStones$Parish" "n" "I", Cond.fieldLink RX5 19 "KneelingStones$Parish" "walkers" "I", Cond.fieldLink RX5 22 "KneelingStones$Parish" "wish" "I", Cond.fieldLink RX5 25 "KneelingStones$Parish" "sin" "I", Cond.methodLink RX5 15 ⟨"KneelingStones$Parish", "kind", "()I"⟩, Cond.sameMethod "KneelingStones$Parish" "KneelingStones$Parish" "kind" "()I"]
def wsX9_change_r2 : List Cond := [Cond.instanceMethod ⟨"KneelingStones$Parish", "kind", "()I"⟩, Cond.selects RX0 ⟨"KneelingStones$Parish", "kind", "()I"⟩ yX0_kind, Cond.instanceMethod yX0_kind, Cond.initialized RX0, Cond.code yX0_kind cX0_kind 1 (some .int), Cond.code yX5_kind cX5_kind 1 (some .int), Cond.methodLink RX5 15 yX5_kind, Cond.instanceMethod yX5_kind, Cond.selects RX5 yX5_kind yX5_kind, Cond.selects RX6 ⟨"KneelingStones$Parish", "kind", "()I"⟩ yX6_kind, Cond.instanceMethod yX6_kind, Cond.initialized RX6, Cond.code yX6_kind cX6_kind 1 (some .int), Cond.selects RX7 ⟨"KneelingStones$Parish", "kind", "()I"⟩ yX7_kind, Cond.instanceMethod yX7_kind, Cond.initialized RX7, Cond.code yX7_kind cX7_kind 1 (some .int), Cond.methodLink RX5 28 ⟨"KneelingStones$Parish", "gift", "()I"⟩, Cond.sameMethod "KneelingStones$Parish" "KneelingStones$Parish" "gift" "()I", Cond.selects RX0 ⟨"KneelingStones$Parish", "gift", "()I"⟩ yX5_gift, Cond.instanceMethod yX5_gift, Cond.code yX5_gift cX5_gift 1 (some .int), Cond.methodLink RX5 28 yX5_gift, Cond.selects RX5 yX5_gift yX5_gift]
def wsX9_change_r3 : List Cond := [Cond.instanceMethod ⟨"KneelingStones$Parish", "gift", "()I"⟩, Cond.selects RX6 ⟨"KneelingStones$Parish", "gift", "()I"⟩ yX6_gift, Cond.instanceMethod yX6_gift, Cond.code yX6_gift cX6_gift 1 (some .int), Cond.fieldLink RX6 9 "KneelingStones$Pious" "n" "I", Cond.sameField "KneelingStones$Pious" "KneelingStones$Parish" "n" "I", Cond.selects RX7 ⟨"KneelingStones$Parish", "gift", "()I"⟩ yX5_gift, Cond.methodLink RX9 118 yX5_told, Cond.selects RX5 yX5_told yX5_told, Cond.selects RX6 ⟨"KneelingStones$Parish", "told", "(I)I"⟩ yX5_told, Cond.selects RX7 ⟨"KneelingStones$Parish", "told", "(I)I"⟩ yX5_told]
def wsX9_change : List Cond := .code yX9_change cX9_change 6 (some .int) :: ((wsX9_change_r1 ++ (wsX9_change_r2 ++ wsX9_change_r3)) ++ wsX00 ++ wsX50 ++ wsX60 ++ wsX70 ++ wsX90)
def wsX9_lay : List Cond := .code yX9_lay cX9_lay 3 (some .int) :: ([.fieldLink RX9 31 "KneelingStones" "now" "LKneelingStones$Moor;", .fieldLink RX9 127 "KneelingStones$Moor" "heights" "[I", .methodLink RX9 119 yX9_isCairn, .static yX9_isCairn, .initialized RX9, .code yX9_isCairn cX9_isCairn 1 (some .boolean), .methodLink RX9 123 yX2_layNew, .instanceMethod yX2_layNew, .selects RX2 yX2_layNew yX2_layNew, .initialized RX2, .code yX2_layNew cX2_layNew 4 none, .fieldLink RX2 28 "KneelingStones$Moor" "week" "I", .fieldLink RX2 34 "KneelingStones$Moor" "laid" "I", .methodLink RX2 51 yX2_put, .instanceMethod yX2_put, .selects RX2 yX2_put yX2_put, .code yX2_put cX2_put 4 none, .fieldLink RX2 9 "KneelingStones$Moor" "heights" "[I", .fieldLink RX2 40 "KneelingStones$Moor" "spilt" "I", .fieldLink RX2 15 "KneelingStones$Moor" "marks" "[I"] ++ wsX90 ++ wsX20)
def wsX9_take : List Cond := .code yX9_take cX9_take 3 (some .int) :: ([.fieldLink RX9 31 "KneelingStones" "now" "LKneelingStones$Moor;", .fieldLink RX9 127 "KneelingStones$Moor" "heights" "[I", .methodLink RX9 119 yX9_isCairn, .static yX9_isCairn, .initialized RX9, .code yX9_isCairn cX9_isCairn 1 (some .boolean), .methodLink RX9 130 yX2_takeOff, .instanceMethod yX2_takeOff, .selects RX2 yX2_takeOff yX2_takeOff, .initialized RX2, .code yX2_takeOff cX2_takeOff 4 none, .fieldLink RX2 9 "KneelingStones$Moor" "heights" "[I", .methodLink RX2 55 Lib.Math.min.name, .static Lib.Math.min.name, .initialized "java/lang/Math", .code Lib.Math.min.name Lib.Math.min.code 2 (some .int), .fieldLink RX2 37 "KneelingStones$Moor" "taken" "I"] ++ wsX90 ++ wsX20)
def wsX9_height : List Cond := .code yX9_height cX9_height 2 (some .int) :: ([.fieldLink RX9 31 "KneelingStones" "now" "LKneelingStones$Moor;", .fieldLink RX9 127 "KneelingStones$Moor" "heights" "[I", .methodLink RX9 119 yX9_isCairn, .static yX9_isCairn, .initialized RX9, .code yX9_isCairn cX9_isCairn 1 (some .boolean)] ++ wsX90 ++ wsX20)
def wsX9_mark : List Cond := .code yX9_mark cX9_mark 3 (some .int) :: ([.fieldLink RX9 31 "KneelingStones" "now" "LKneelingStones$Moor;", .methodLink RX9 119 yX9_isCairn, .static yX9_isCairn, .initialized RX9, .code yX9_isCairn cX9_isCairn 1 (some .boolean), .methodLink RX9 133 yX2_markAt, .instanceMethod yX2_markAt, .selects RX2 yX2_markAt yX2_markAt, .initialized RX2, .code yX2_markAt cX2_markAt 4 (some .int), .fieldLink RX2 9 "KneelingStones$Moor" "heights" "[I", .fieldLink RX2 15 "KneelingStones$Moor" "marks" "[I"] ++ wsX90 ++ wsX20)
def wsX9_dated : List Cond := .code yX9_dated cX9_dated 5 (some .int) :: ([.fieldLink RX9 31 "KneelingStones" "now" "LKneelingStones$Moor;", .fieldLink RX9 127 "KneelingStones$Moor" "heights" "[I", .methodLink RX9 119 yX9_isCairn, .static yX9_isCairn, .initialized RX9, .code yX9_isCairn cX9_isCairn 1 (some .boolean), .methodLink RX9 133 yX2_markAt, .instanceMethod yX2_markAt, .selects RX2 yX2_markAt yX2_markAt, .initialized RX2, .code yX2_markAt cX2_markAt 4 (some .int), .fieldLink RX2 9 "KneelingStones$Moor" "heights" "[I", .fieldLink RX2 15 "KneelingStones$Moor" "marks" "[I"] ++ wsX90 ++ wsX20)
def wsX9_seed : List Cond := .code yX9_seed cX9_seed 3 (some .int) :: ([.fieldLink RX9 31 "KneelingStones" "now" "LKneelingStones$Moor;", .fieldLink RX9 137 "KneelingStones$Moor" "seed" "I"] ++ wsX90 ++ wsX20)
def wsX9_weeks_r1 : List Cond := [Cond.fieldLink RX9 31 "KneelingStones" "now" "LKneelingStones$Moor;", Cond.fieldLink RX9 140 "KneelingStones$Moor" "week" "I", Cond.fieldLink RX9 24 "KneelingStones" "parishes" "[LKneelingStones$Parish;", Cond.methodLink RX9 79 yX9_customAt, Cond.instanceMethod yX9_customAt, Cond.selects RX9 yX9_customAt yX9_customAt, Cond.initialized RX9, Cond.code yX9_customAt cX9_customAt 2 (some (.object "KneelingStones$Custom")), Cond.fieldLink RX9 18 "KneelingStones" "customs" "[LKneelingStones$Custom;", Cond.methodLink RX9 143 yX2_goOneWeek, Cond.instanceMethod yX2_goOneWeek, Cond.selects RX2 yX2_goOneWeek yX2_goOneWeek, Cond.initialized RX2, Cond.code yX2_goOneWeek cX2_goOneWeek 6 none, Cond.fieldLink RX2 28 "KneelingStones$Moor" "week" "I", Cond.fieldLink RX2 60 "KneelingStones$Parish" "walkers" "I", Cond.methodLink RX2 65 yX2_walk, Cond.instanceMethod yX2_walk, Cond.selects RX2 yX2_walk yX2_walk, Cond.code yX2_walk cX2_walk 5 none, Cond.fieldLink RX2 81 "KneelingStones$Parish" "wish" "I", Cond.fieldLink RX2 84 "KneelingStones$Custom" "wishRule" "I", Cond.fieldLink RX2 31 "KneelingStones$Moor" "last" "I", Cond.fieldLink RX2 96 "KneelingStones$Parish" "sin" "I"]
def wsX9_weeks_r2 : List Cond := [Cond.fieldLink RX2 106 "KneelingStones$Custom" "sinRule" "I", Cond.methodLink RX2 77 yX2_draw, Cond.instanceMethod yX2_draw, Cond.selects RX2 yX2_draw yX2_draw, Cond.code yX2_draw cX2_draw 1 (some .int), Cond.constantLong RX2 124 (1103515245), Cond.fieldLink RX2 18 "KneelingStones$Moor" "seed" "I", Cond.constantLong RX2 126 (12345), Cond.constantLong RX2 128 (2147483647), Cond.methodLink RX2 87 yX2_cairnBy, Cond.instanceMethod yX2_cairnBy, Cond.selects RX2 yX2_cairnBy yX2_cairnBy, Cond.code yX2_cairnBy cX2_cairnBy 3 (some .int), Cond.methodLink RX2 103 yX2_most, Cond.instanceMethod yX2_most, Cond.selects RX2 yX2_most yX2_most, Cond.code yX2_most cX2_most 3 (some .int), Cond.fieldLink RX2 9 "KneelingStones$Moor" "heights" "[I", Cond.methodLink RX2 121 yX2_fewest, Cond.instanceMethod yX2_fewest, Cond.selects RX2 yX2_fewest yX2_fewest, Cond.code yX2_fewest cX2_fewest 3 (some .int), Cond.methodLink RX2 90 ⟨"KneelingStones$Parish", "gift", "()I"⟩, Cond.sameMethod "KneelingStones$Parish" "KneelingStones$Parish" "gift" "()I"]
def wsX9_weeks_r3 : List Cond := [Cond.selects RX0 ⟨"KneelingStones$Parish", "gift", "()I"⟩ yX5_gift, Cond.instanceMethod yX5_gift, Cond.initialized RX5, Cond.code yX5_gift cX5_gift 1 (some .int), Cond.methodLink RX2 90 yX5_gift, Cond.selects RX5 yX5_gift yX5_gift, Cond.instanceMethod ⟨"KneelingStones$Parish", "gift", "()I"⟩, Cond.selects RX6 ⟨"KneelingStones$Parish", "gift", "()I"⟩ yX6_gift, Cond.instanceMethod yX6_gift, Cond.initialized RX6, Cond.code yX6_gift cX6_gift 1 (some .int), Cond.fieldLink RX6 9 "KneelingStones$Pious" "n" "I", Cond.sameField "KneelingStones$Pious" "KneelingStones$Parish" "n" "I", Cond.selects RX7 ⟨"KneelingStones$Parish", "gift", "()I"⟩ yX5_gift, Cond.methodLink RX2 93 yX2_layNew, Cond.instanceMethod yX2_layNew, Cond.selects RX2 yX2_layNew yX2_layNew, Cond.code yX2_layNew cX2_layNew 4 none, Cond.fieldLink RX2 34 "KneelingStones$Moor" "laid" "I", Cond.methodLink RX2 51 yX2_put, Cond.instanceMethod yX2_put, Cond.selects RX2 yX2_put yX2_put, Cond.code yX2_put cX2_put 4 none, Cond.fieldLink RX2 40 "KneelingStones$Moor" "spilt" "I"]
def wsX9_weeks_r4 : List Cond := [Cond.fieldLink RX2 15 "KneelingStones$Moor" "marks" "[I", Cond.static yX9_isCairn, Cond.code yX9_isCairn cX9_isCairn 1 (some .boolean), Cond.methodLink RX2 99 ⟨"KneelingStones$Parish", "sinsAtMost", "()Z"⟩, Cond.sameMethod "KneelingStones$Parish" "KneelingStones$Parish" "sinsAtMost" "()Z", Cond.instanceMethod ⟨"KneelingStones$Parish", "sinsAtMost", "()Z"⟩, Cond.selects RX0 ⟨"KneelingStones$Parish", "sinsAtMost", "()Z"⟩ yX0_sinsAtMost, Cond.instanceMethod yX0_sinsAtMost, Cond.initialized RX0, Cond.code yX0_sinsAtMost cX0_sinsAtMost 1 (some .boolean), Cond.code yX5_sinsAtMost cX5_sinsAtMost 1 (some .boolean), Cond.methodLink RX2 99 yX5_sinsAtMost, Cond.instanceMethod yX5_sinsAtMost, Cond.selects RX5 yX5_sinsAtMost yX5_sinsAtMost, Cond.selects RX6 ⟨"KneelingStones$Parish", "sinsAtMost", "()Z"⟩ yX5_sinsAtMost, Cond.selects RX7 ⟨"KneelingStones$Parish", "sinsAtMost", "()Z"⟩ yX5_sinsAtMost, Cond.methodLink RX2 109 ⟨"KneelingStones$Parish", "hidesOn", "()I"⟩, Cond.sameMethod "KneelingStones$Parish" "KneelingStones$Parish" "hidesOn" "()I", Cond.instanceMethod ⟨"KneelingStones$Parish", "hidesOn", "()I"⟩, Cond.selects RX0 ⟨"KneelingStones$Parish", "hidesOn", "()I"⟩ yX7_hidesOn, Cond.instanceMethod yX7_hidesOn, Cond.initialized RX7, Cond.code yX7_hidesOn cX7_hidesOn 1 (some .int), Cond.fieldLink RX7 9 "KneelingStones$Sly" "n" "I"]
def wsX9_weeks_r5 : List Cond := [Cond.sameField "KneelingStones$Sly" "KneelingStones$Parish" "n" "I", Cond.code yX5_hidesOn cX5_hidesOn 1 (some .int), Cond.methodLink RX2 109 yX5_hidesOn, Cond.instanceMethod yX5_hidesOn, Cond.selects RX5 yX5_hidesOn yX5_hidesOn, Cond.selects RX6 ⟨"KneelingStones$Parish", "hidesOn", "()I"⟩ yX5_hidesOn, Cond.selects RX7 ⟨"KneelingStones$Parish", "hidesOn", "()I"⟩ yX7_hidesOn, Cond.methodLink RX2 112 yX2_steal, Cond.instanceMethod yX2_steal, Cond.selects RX2 yX2_steal yX2_steal, Cond.code yX2_steal cX2_steal 4 none, Cond.methodLink RX2 115 yX2_takeOff, Cond.instanceMethod yX2_takeOff, Cond.selects RX2 yX2_takeOff yX2_takeOff, Cond.code yX2_takeOff cX2_takeOff 4 none, Cond.methodLink RX2 55 Lib.Math.min.name, Cond.static Lib.Math.min.name, Cond.initialized "java/lang/Math", Cond.code Lib.Math.min.name Lib.Math.min.code 2 (some .int), Cond.fieldLink RX2 37 "KneelingStones$Moor" "taken" "I", Cond.methodLink RX2 118 yX2_markAt, Cond.instanceMethod yX2_markAt, Cond.selects RX2 yX2_markAt yX2_markAt, Cond.code yX2_markAt cX2_markAt 4 (some .int)]
def wsX9_weeks_r6 : List Cond := [Cond.methodLink RX2 69 yX1_floodsIn, Cond.instanceMethod yX1_floodsIn, Cond.selects RX1 yX1_floodsIn yX1_floodsIn, Cond.initialized RX1, Cond.code yX1_floodsIn cX1_floodsIn 2 (some .boolean), Cond.fieldLink RX1 16 "KneelingStones$Custom" "every" "I", Cond.methodLink RX2 74 yX2_flood, Cond.instanceMethod yX2_flood, Cond.selects RX2 yX2_flood yX2_flood, Cond.code yX2_flood cX2_flood 2 none, Cond.methodLink RX9 147 yX2_pebbles, Cond.instanceMethod yX2_pebbles, Cond.selects RX2 yX2_pebbles yX2_pebbles, Cond.code yX2_pebbles cX2_pebbles 3 (some .int)]
def wsX9_weeks : List Cond := .code yX9_weeks cX9_weeks 5 (some .int) :: ((wsX9_weeks_r1 ++ (wsX9_weeks_r2 ++ (wsX9_weeks_r3 ++ (wsX9_weeks_r4 ++ (wsX9_weeks_r5 ++ wsX9_weeks_r6))))) ++ wsX90 ++ wsX20 ++ wsX00 ++ wsX50 ++ wsX60 ++ wsX70 ++ wsX10)
def wsX9_dreamOf_r1 : List Cond := [Cond.fieldLink RX9 38 "KneelingStones" "dream" "LKneelingStones$Moor;", Cond.fieldLink RX9 31 "KneelingStones" "now" "LKneelingStones$Moor;", Cond.fieldLink RX9 24 "KneelingStones" "parishes" "[LKneelingStones$Parish;", Cond.methodLink RX9 196 yX2_become, Cond.instanceMethod yX2_become, Cond.selects RX2 yX2_become yX2_become, Cond.initialized RX2, Cond.code yX2_become cX2_become 2 none, Cond.fieldLink RX2 9 "KneelingStones$Moor" "heights" "[I", Cond.methodLink RX2 22 arraycopyName, Cond.native arraycopyName, Cond.static arraycopyName, Cond.initialized "java/lang/System", Cond.fieldLink RX2 15 "KneelingStones$Moor" "marks" "[I", Cond.fieldLink RX2 28 "KneelingStones$Moor" "week" "I", Cond.fieldLink RX2 31 "KneelingStones$Moor" "last" "I", Cond.fieldLink RX2 18 "KneelingStones$Moor" "seed" "I", Cond.fieldLink RX2 34 "KneelingStones$Moor" "laid" "I", Cond.fieldLink RX2 37 "KneelingStones$Moor" "taken" "I", Cond.fieldLink RX2 40 "KneelingStones$Moor" "spilt" "I", Cond.methodLink RX9 143 yX2_goOneWeek, Cond.instanceMethod yX2_goOneWeek, Cond.selects RX2 yX2_goOneWeek yX2_goOneWeek, Cond.code yX2_goOneWeek cX2_goOneWeek 6 none]
def wsX9_dreamOf_r2 : List Cond := [Cond.fieldLink RX2 60 "KneelingStones$Parish" "walkers" "I", Cond.methodLink RX2 65 yX2_walk, Cond.instanceMethod yX2_walk, Cond.selects RX2 yX2_walk yX2_walk, Cond.code yX2_walk cX2_walk 5 none, Cond.fieldLink RX2 81 "KneelingStones$Parish" "wish" "I", Cond.fieldLink RX2 84 "KneelingStones$Custom" "wishRule" "I", Cond.fieldLink RX2 96 "KneelingStones$Parish" "sin" "I", Cond.fieldLink RX2 106 "KneelingStones$Custom" "sinRule" "I", Cond.methodLink RX2 77 yX2_draw, Cond.instanceMethod yX2_draw, Cond.selects RX2 yX2_draw yX2_draw, Cond.code yX2_draw cX2_draw 1 (some .int), Cond.constantLong RX2 124 (1103515245), Cond.constantLong RX2 126 (12345), Cond.constantLong RX2 128 (2147483647), Cond.methodLink RX2 87 yX2_cairnBy, Cond.instanceMethod yX2_cairnBy, Cond.selects RX2 yX2_cairnBy yX2_cairnBy, Cond.code yX2_cairnBy cX2_cairnBy 3 (some .int), Cond.methodLink RX2 103 yX2_most, Cond.instanceMethod yX2_most, Cond.selects RX2 yX2_most yX2_most, Cond.code yX2_most cX2_most 3 (some .int)]
def wsX9_dreamOf_r3 : List Cond := [Cond.methodLink RX2 121 yX2_fewest, Cond.instanceMethod yX2_fewest, Cond.selects RX2 yX2_fewest yX2_fewest, Cond.code yX2_fewest cX2_fewest 3 (some .int), Cond.methodLink RX2 90 ⟨"KneelingStones$Parish", "gift", "()I"⟩, Cond.sameMethod "KneelingStones$Parish" "KneelingStones$Parish" "gift" "()I", Cond.selects RX0 ⟨"KneelingStones$Parish", "gift", "()I"⟩ yX5_gift, Cond.instanceMethod yX5_gift, Cond.initialized RX5, Cond.code yX5_gift cX5_gift 1 (some .int), Cond.methodLink RX2 90 yX5_gift, Cond.selects RX5 yX5_gift yX5_gift, Cond.instanceMethod ⟨"KneelingStones$Parish", "gift", "()I"⟩, Cond.selects RX6 ⟨"KneelingStones$Parish", "gift", "()I"⟩ yX6_gift, Cond.instanceMethod yX6_gift, Cond.initialized RX6, Cond.code yX6_gift cX6_gift 1 (some .int), Cond.fieldLink RX6 9 "KneelingStones$Pious" "n" "I", Cond.sameField "KneelingStones$Pious" "KneelingStones$Parish" "n" "I", Cond.selects RX7 ⟨"KneelingStones$Parish", "gift", "()I"⟩ yX5_gift, Cond.methodLink RX2 93 yX2_layNew, Cond.instanceMethod yX2_layNew, Cond.selects RX2 yX2_layNew yX2_layNew, Cond.code yX2_layNew cX2_layNew 4 none]
def wsX9_dreamOf_r4 : List Cond := [Cond.methodLink RX2 51 yX2_put, Cond.instanceMethod yX2_put, Cond.selects RX2 yX2_put yX2_put, Cond.code yX2_put cX2_put 4 none, Cond.static yX9_isCairn, Cond.initialized RX9, Cond.code yX9_isCairn cX9_isCairn 1 (some .boolean), Cond.methodLink RX2 99 ⟨"KneelingStones$Parish", "sinsAtMost", "()Z"⟩, Cond.sameMethod "KneelingStones$Parish" "KneelingStones$Parish" "sinsAtMost" "()Z", Cond.instanceMethod ⟨"KneelingStones$Parish", "sinsAtMost", "()Z"⟩, Cond.selects RX0 ⟨"KneelingStones$Parish", "sinsAtMost", "()Z"⟩ yX0_sinsAtMost, Cond.instanceMethod yX0_sinsAtMost, Cond.initialized RX0, Cond.code yX0_sinsAtMost cX0_sinsAtMost 1 (some .boolean), Cond.code yX5_sinsAtMost cX5_sinsAtMost 1 (some .boolean), Cond.methodLink RX2 99 yX5_sinsAtMost, Cond.instanceMethod yX5_sinsAtMost, Cond.selects RX5 yX5_sinsAtMost yX5_sinsAtMost, Cond.selects RX6 ⟨"KneelingStones$Parish", "sinsAtMost", "()Z"⟩ yX5_sinsAtMost, Cond.selects RX7 ⟨"KneelingStones$Parish", "sinsAtMost", "()Z"⟩ yX5_sinsAtMost, Cond.methodLink RX2 109 ⟨"KneelingStones$Parish", "hidesOn", "()I"⟩, Cond.sameMethod "KneelingStones$Parish" "KneelingStones$Parish" "hidesOn" "()I", Cond.instanceMethod ⟨"KneelingStones$Parish", "hidesOn", "()I"⟩, Cond.selects RX0 ⟨"KneelingStones$Parish", "hidesOn", "()I"⟩ yX7_hidesOn]
def wsX9_dreamOf_r5 : List Cond := [Cond.instanceMethod yX7_hidesOn, Cond.initialized RX7, Cond.code yX7_hidesOn cX7_hidesOn 1 (some .int), Cond.fieldLink RX7 9 "KneelingStones$Sly" "n" "I", Cond.sameField "KneelingStones$Sly" "KneelingStones$Parish" "n" "I", Cond.code yX5_hidesOn cX5_hidesOn 1 (some .int), Cond.methodLink RX2 109 yX5_hidesOn, Cond.instanceMethod yX5_hidesOn, Cond.selects RX5 yX5_hidesOn yX5_hidesOn, Cond.selects RX6 ⟨"KneelingStones$Parish", "hidesOn", "()I"⟩ yX5_hidesOn, Cond.selects RX7 ⟨"KneelingStones$Parish", "hidesOn", "()I"⟩ yX7_hidesOn, Cond.methodLink RX2 112 yX2_steal, Cond.instanceMethod yX2_steal, Cond.selects RX2 yX2_steal yX2_steal, Cond.code yX2_steal cX2_steal 4 none, Cond.methodLink RX2 115 yX2_takeOff, Cond.instanceMethod yX2_takeOff, Cond.selects RX2 yX2_takeOff yX2_takeOff, Cond.code yX2_takeOff cX2_takeOff 4 none, Cond.methodLink RX2 55 Lib.Math.min.name, Cond.static Lib.Math.min.name, Cond.initialized "java/lang/Math", Cond.code Lib.Math.min.name Lib.Math.min.code 2 (some .int), Cond.methodLink RX2 118 yX2_markAt]
def wsX9_dreamOf_r6 : List Cond := [Cond.instanceMethod yX2_markAt, Cond.selects RX2 yX2_markAt yX2_markAt, Cond.code yX2_markAt cX2_markAt 4 (some .int), Cond.methodLink RX2 69 yX1_floodsIn, Cond.instanceMethod yX1_floodsIn, Cond.selects RX1 yX1_floodsIn yX1_floodsIn, Cond.initialized RX1, Cond.code yX1_floodsIn cX1_floodsIn 2 (some .boolean), Cond.fieldLink RX1 16 "KneelingStones$Custom" "every" "I", Cond.methodLink RX2 74 yX2_flood, Cond.instanceMethod yX2_flood, Cond.selects RX2 yX2_flood yX2_flood, Cond.code yX2_flood cX2_flood 2 none]
def wsX9_dreamOf : List Cond := .code yX9_dreamOf cX9_dreamOf 4 none :: ((wsX9_dreamOf_r1 ++ (wsX9_dreamOf_r2 ++ (wsX9_dreamOf_r3 ++ (wsX9_dreamOf_r4 ++ (wsX9_dreamOf_r5 ++ wsX9_dreamOf_r6))))) ++ wsX90 ++ wsX20 ++ wsX00 ++ wsX50 ++ wsX60 ++ wsX70 ++ wsX10)
def wsX9_would_r1 : List Cond := [Cond.fieldLink RX9 38 "KneelingStones" "dream" "LKneelingStones$Moor;", Cond.fieldLink RX9 127 "KneelingStones$Moor" "heights" "[I", Cond.methodLink RX9 79 yX9_customAt, Cond.instanceMethod yX9_customAt, Cond.selects RX9 yX9_customAt yX9_customAt, Cond.initialized RX9, Cond.code yX9_customAt cX9_customAt 2 (some (.object "KneelingStones$Custom")), Cond.fieldLink RX9 18 "KneelingStones" "customs" "[LKneelingStones$Custom;", Cond.methodLink RX9 119 yX9_isCairn, Cond.static yX9_isCairn, Cond.code yX9_isCairn cX9_isCairn 1 (some .boolean), Cond.methodLink RX9 150 yX9_dreamOf, Cond.instanceMethod yX9_dreamOf, Cond.selects RX9 yX9_dreamOf yX9_dreamOf, Cond.code yX9_dreamOf cX9_dreamOf 4 none, Cond.fieldLink RX9 31 "KneelingStones" "now" "LKneelingStones$Moor;", Cond.fieldLink RX9 24 "KneelingStones" "parishes" "[LKneelingStones$Parish;", Cond.methodLink RX9 196 yX2_become, Cond.instanceMethod yX2_become, Cond.selects RX2 yX2_become yX2_become, Cond.initialized RX2, Cond.code yX2_become cX2_become 2 none, Cond.fieldLink RX2 9 "KneelingStones$Moor" "heights" "[I", Cond.methodLink RX2 22 arraycopyName]
def wsX9_would_r2 : List Cond := [Cond.native arraycopyName, Cond.static arraycopyName, Cond.initialized "java/lang/System", Cond.fieldLink RX2 15 "KneelingStones$Moor" "marks" "[I", Cond.fieldLink RX2 28 "KneelingStones$Moor" "week" "I", Cond.fieldLink RX2 31 "KneelingStones$Moor" "last" "I", Cond.fieldLink RX2 18 "KneelingStones$Moor" "seed" "I", Cond.fieldLink RX2 34 "KneelingStones$Moor" "laid" "I", Cond.fieldLink RX2 37 "KneelingStones$Moor" "taken" "I", Cond.fieldLink RX2 40 "KneelingStones$Moor" "spilt" "I", Cond.methodLink RX9 143 yX2_goOneWeek, Cond.instanceMethod yX2_goOneWeek, Cond.selects RX2 yX2_goOneWeek yX2_goOneWeek, Cond.code yX2_goOneWeek cX2_goOneWeek 6 none, Cond.fieldLink RX2 60 "KneelingStones$Parish" "walkers" "I", Cond.methodLink RX2 65 yX2_walk, Cond.instanceMethod yX2_walk, Cond.selects RX2 yX2_walk yX2_walk, Cond.code yX2_walk cX2_walk 5 none, Cond.fieldLink RX2 81 "KneelingStones$Parish" "wish" "I", Cond.fieldLink RX2 84 "KneelingStones$Custom" "wishRule" "I", Cond.fieldLink RX2 96 "KneelingStones$Parish" "sin" "I", Cond.fieldLink RX2 106 "KneelingStones$Custom" "sinRule" "I", Cond.methodLink RX2 77 yX2_draw]
def wsX9_would_r3 : List Cond := [Cond.instanceMethod yX2_draw, Cond.selects RX2 yX2_draw yX2_draw, Cond.code yX2_draw cX2_draw 1 (some .int), Cond.constantLong RX2 124 (1103515245), Cond.constantLong RX2 126 (12345), Cond.constantLong RX2 128 (2147483647), Cond.methodLink RX2 87 yX2_cairnBy, Cond.instanceMethod yX2_cairnBy, Cond.selects RX2 yX2_cairnBy yX2_cairnBy, Cond.code yX2_cairnBy cX2_cairnBy 3 (some .int), Cond.methodLink RX2 103 yX2_most, Cond.instanceMethod yX2_most, Cond.selects RX2 yX2_most yX2_most, Cond.code yX2_most cX2_most 3 (some .int), Cond.methodLink RX2 121 yX2_fewest, Cond.instanceMethod yX2_fewest, Cond.selects RX2 yX2_fewest yX2_fewest, Cond.code yX2_fewest cX2_fewest 3 (some .int), Cond.methodLink RX2 90 ⟨"KneelingStones$Parish", "gift", "()I"⟩, Cond.sameMethod "KneelingStones$Parish" "KneelingStones$Parish" "gift" "()I", Cond.selects RX0 ⟨"KneelingStones$Parish", "gift", "()I"⟩ yX5_gift, Cond.instanceMethod yX5_gift, Cond.initialized RX5, Cond.code yX5_gift cX5_gift 1 (some .int)]
def wsX9_would_r4 : List Cond := [Cond.methodLink RX2 90 yX5_gift, Cond.selects RX5 yX5_gift yX5_gift, Cond.instanceMethod ⟨"KneelingStones$Parish", "gift", "()I"⟩, Cond.selects RX6 ⟨"KneelingStones$Parish", "gift", "()I"⟩ yX6_gift, Cond.instanceMethod yX6_gift, Cond.initialized RX6, Cond.code yX6_gift cX6_gift 1 (some .int), Cond.fieldLink RX6 9 "KneelingStones$Pious" "n" "I", Cond.sameField "KneelingStones$Pious" "KneelingStones$Parish" "n" "I", Cond.selects RX7 ⟨"KneelingStones$Parish", "gift", "()I"⟩ yX5_gift, Cond.methodLink RX2 93 yX2_layNew, Cond.instanceMethod yX2_layNew, Cond.selects RX2 yX2_layNew yX2_layNew, Cond.code yX2_layNew cX2_layNew 4 none, Cond.methodLink RX2 51 yX2_put, Cond.instanceMethod yX2_put, Cond.selects RX2 yX2_put yX2_put, Cond.code yX2_put cX2_put 4 none, Cond.methodLink RX2 99 ⟨"KneelingStones$Parish", "sinsAtMost", "()Z"⟩, Cond.sameMethod "KneelingStones$Parish" "KneelingStones$Parish" "sinsAtMost" "()Z", Cond.instanceMethod ⟨"KneelingStones$Parish", "sinsAtMost", "()Z"⟩, Cond.selects RX0 ⟨"KneelingStones$Parish", "sinsAtMost", "()Z"⟩ yX0_sinsAtMost, Cond.instanceMethod yX0_sinsAtMost, Cond.initialized RX0]
def wsX9_would_r5 : List Cond := [Cond.code yX0_sinsAtMost cX0_sinsAtMost 1 (some .boolean), Cond.code yX5_sinsAtMost cX5_sinsAtMost 1 (some .boolean), Cond.methodLink RX2 99 yX5_sinsAtMost, Cond.instanceMethod yX5_sinsAtMost, Cond.selects RX5 yX5_sinsAtMost yX5_sinsAtMost, Cond.selects RX6 ⟨"KneelingStones$Parish", "sinsAtMost", "()Z"⟩ yX5_sinsAtMost, Cond.selects RX7 ⟨"KneelingStones$Parish", "sinsAtMost", "()Z"⟩ yX5_sinsAtMost, Cond.methodLink RX2 109 ⟨"KneelingStones$Parish", "hidesOn", "()I"⟩, Cond.sameMethod "KneelingStones$Parish" "KneelingStones$Parish" "hidesOn" "()I", Cond.instanceMethod ⟨"KneelingStones$Parish", "hidesOn", "()I"⟩, Cond.selects RX0 ⟨"KneelingStones$Parish", "hidesOn", "()I"⟩ yX7_hidesOn, Cond.instanceMethod yX7_hidesOn, Cond.initialized RX7, Cond.code yX7_hidesOn cX7_hidesOn 1 (some .int), Cond.fieldLink RX7 9 "KneelingStones$Sly" "n" "I", Cond.sameField "KneelingStones$Sly" "KneelingStones$Parish" "n" "I", Cond.code yX5_hidesOn cX5_hidesOn 1 (some .int), Cond.methodLink RX2 109 yX5_hidesOn, Cond.instanceMethod yX5_hidesOn, Cond.selects RX5 yX5_hidesOn yX5_hidesOn, Cond.selects RX6 ⟨"KneelingStones$Parish", "hidesOn", "()I"⟩ yX5_hidesOn, Cond.selects RX7 ⟨"KneelingStones$Parish", "hidesOn", "()I"⟩ yX7_hidesOn, Cond.methodLink RX2 112 yX2_steal, Cond.instanceMethod yX2_steal]
def wsX9_would_r6 : List Cond := [Cond.selects RX2 yX2_steal yX2_steal, Cond.code yX2_steal cX2_steal 4 none, Cond.methodLink RX2 115 yX2_takeOff, Cond.instanceMethod yX2_takeOff, Cond.selects RX2 yX2_takeOff yX2_takeOff, Cond.code yX2_takeOff cX2_takeOff 4 none, Cond.methodLink RX2 55 Lib.Math.min.name, Cond.static Lib.Math.min.name, Cond.initialized "java/lang/Math", Cond.code Lib.Math.min.name Lib.Math.min.code 2 (some .int), Cond.methodLink RX2 118 yX2_markAt, Cond.instanceMethod yX2_markAt, Cond.selects RX2 yX2_markAt yX2_markAt, Cond.code yX2_markAt cX2_markAt 4 (some .int), Cond.methodLink RX2 69 yX1_floodsIn, Cond.instanceMethod yX1_floodsIn, Cond.selects RX1 yX1_floodsIn yX1_floodsIn, Cond.initialized RX1, Cond.code yX1_floodsIn cX1_floodsIn 2 (some .boolean), Cond.fieldLink RX1 16 "KneelingStones$Custom" "every" "I", Cond.methodLink RX2 74 yX2_flood, Cond.instanceMethod yX2_flood, Cond.selects RX2 yX2_flood yX2_flood, Cond.code yX2_flood cX2_flood 2 none]
def wsX9_would : List Cond := .code yX9_would cX9_would 5 (some .int) :: ((wsX9_would_r1 ++ (wsX9_would_r2 ++ (wsX9_would_r3 ++ (wsX9_would_r4 ++ (wsX9_would_r5 ++ wsX9_would_r6))))) ++ wsX90 ++ wsX20 ++ wsX00 ++ wsX50 ++ wsX60 ++ wsX70 ++ wsX10)
def wsX9_order : List Cond := .code yX9_order cX9_order 3 (some .int) :: ([.fieldLink RX9 31 "KneelingStones" "now" "LKneelingStones$Moor;", .methodLink RX9 154 yX2_aheadOf, .instanceMethod yX2_aheadOf, .selects RX2 yX2_aheadOf yX2_aheadOf, .initialized RX2, .code yX2_aheadOf cX2_aheadOf 4 (some .int), .fieldLink RX2 9 "KneelingStones$Moor" "heights" "[I", .static yX9_isCairn, .initialized RX9, .code yX9_isCairn cX9_isCairn 1 (some .boolean)] ++ wsX90 ++ wsX20)
def wsX9_commonDivisor : List Cond := .code yX9_commonDivisor cX9_commonDivisor 11 (some .long) :: ([])
def wsX9_inLowest : List Cond := .code yX9_inLowest cX9_inLowest 7 (some .long) :: ([.constantLong RX9 159 (-102), .methodLink RX9 266 yX9_commonDivisor, .static yX9_commonDivisor, .initialized RX9, .code yX9_commonDivisor cX9_commonDivisor 11 (some .long)])
def wsX9_odds_r1 : List Cond := [Cond.constantLong RX9 157 (-101), Cond.constantLong RX9 159 (-102), Cond.fieldLink RX9 101 "KneelingStones$Parish" "walkers" "I", Cond.methodLink RX9 110 yX9_parishAt, Cond.instanceMethod yX9_parishAt, Cond.selects RX9 yX9_parishAt yX9_parishAt, Cond.initialized RX9, Cond.code yX9_parishAt cX9_parishAt 2 (some (.object "KneelingStones$Parish")), Cond.fieldLink RX9 24 "KneelingStones" "parishes" "[LKneelingStones$Parish;", Cond.methodLink RX9 161 yX3_of, Cond.static yX3_of, Cond.initialized RX3, Cond.code yX3_of cX3_of 5 (some .long), Cond.fieldLink RX3 9 "KneelingStones$Parish" "walkers" "I", Cond.fieldLink RX3 21 "KneelingStones$Parish" "wish" "I", Cond.fieldLink RX3 27 "KneelingStones$Parish" "sin" "I", Cond.methodLink RX3 24 yX3_choices, Cond.static yX3_choices, Cond.code yX3_choices cX3_choices 5 (some .long), Cond.methodLink RX3 15 yX3_power, Cond.static yX3_power, Cond.code yX3_power cX3_power 5 (some .long), Cond.methodLink RX9 167 yX3_whole, Cond.static yX3_whole]
def wsX9_odds_r2 : List Cond := [Cond.code yX3_whole cX3_whole 1 (some .long), Cond.methodLink RX9 171 yX9_inLowest, Cond.static yX9_inLowest, Cond.code yX9_inLowest cX9_inLowest 7 (some .long), Cond.methodLink RX9 266 yX9_commonDivisor, Cond.static yX9_commonDivisor, Cond.code yX9_commonDivisor cX9_commonDivisor 11 (some .long)]
def wsX9_odds : List Cond := .code yX9_odds cX9_odds 6 (some .long) :: ((wsX9_odds_r1 ++ wsX9_odds_r2) ++ wsX00 ++ wsX50 ++ wsX60 ++ wsX70 ++ wsX90)
def wsX9_isNetOfOne : List Cond := .code yX9_isNetOfOne cX9_isNetOfOne 1 (some .boolean) :: ([])
def wsX9_chance_r1 : List Cond := [Cond.constantLong RX9 157 (-101), Cond.constantLong RX9 159 (-102), Cond.methodLink RX9 110 yX9_parishAt, Cond.instanceMethod yX9_parishAt, Cond.selects RX9 yX9_parishAt yX9_parishAt, Cond.initialized RX9, Cond.code yX9_parishAt cX9_parishAt 2 (some (.object "KneelingStones$Parish")), Cond.fieldLink RX9 24 "KneelingStones" "parishes" "[LKneelingStones$Parish;", Cond.methodLink RX9 175 yX9_isNetOfOne, Cond.static yX9_isNetOfOne, Cond.code yX9_isNetOfOne cX9_isNetOfOne 1 (some .boolean), Cond.methodLink RX9 178 yX3_ofNet, Cond.static yX3_ofNet, Cond.initialized RX3, Cond.code yX3_ofNet cX3_ofNet 7 (some .long), Cond.fieldLink RX3 9 "KneelingStones$Parish" "walkers" "I", Cond.methodLink RX3 30 ⟨"KneelingStones$Parish", "gift", "()I"⟩, Cond.sameMethod "KneelingStones$Parish" "KneelingStones$Parish" "gift" "()I", Cond.selects RX0 ⟨"KneelingStones$Parish", "gift", "()I"⟩ yX5_gift, Cond.instanceMethod yX5_gift, Cond.initialized RX5, Cond.code yX5_gift cX5_gift 1 (some .int), Cond.methodLink RX3 30 yX5_gift, Cond.selects RX5 yX5_gift yX5_gift]
def wsX9_chance_r2 : List Cond := [Cond.instanceMethod ⟨"KneelingStones$Parish", "gift", "()I"⟩, Cond.selects RX6 ⟨"KneelingStones$Parish", "gift", "()I"⟩ yX6_gift, Cond.instanceMethod yX6_gift, Cond.initialized RX6, Cond.code yX6_gift cX6_gift 1 (some .int), Cond.fieldLink RX6 9 "KneelingStones$Pious" "n" "I", Cond.sameField "KneelingStones$Pious" "KneelingStones$Parish" "n" "I", Cond.selects RX7 ⟨"KneelingStones$Parish", "gift", "()I"⟩ yX5_gift, Cond.methodLink RX3 34 ⟨"KneelingStones$Parish", "loss", "()I"⟩, Cond.sameMethod "KneelingStones$Parish" "KneelingStones$Parish" "loss" "()I", Cond.instanceMethod ⟨"KneelingStones$Parish", "loss", "()I"⟩, Cond.selects RX0 ⟨"KneelingStones$Parish", "loss", "()I"⟩ yX7_loss, Cond.instanceMethod yX7_loss, Cond.initialized RX7, Cond.code yX7_loss cX7_loss 1 (some .int), Cond.code yX5_loss cX5_loss 1 (some .int), Cond.methodLink RX3 34 yX5_loss, Cond.instanceMethod yX5_loss, Cond.selects RX5 yX5_loss yX5_loss, Cond.selects RX6 ⟨"KneelingStones$Parish", "loss", "()I"⟩ yX5_loss, Cond.selects RX7 ⟨"KneelingStones$Parish", "loss", "()I"⟩ yX7_loss, Cond.methodLink RX3 37 yX3_of, Cond.static yX3_of, Cond.code yX3_of cX3_of 5 (some .long)]
def wsX9_chance_r3 : List Cond := [Cond.fieldLink RX3 21 "KneelingStones$Parish" "wish" "I", Cond.fieldLink RX3 27 "KneelingStones$Parish" "sin" "I", Cond.methodLink RX3 24 yX3_choices, Cond.static yX3_choices, Cond.code yX3_choices cX3_choices 5 (some .long), Cond.methodLink RX3 15 yX3_power, Cond.static yX3_power, Cond.code yX3_power cX3_power 5 (some .long), Cond.methodLink RX9 167 yX3_whole, Cond.static yX3_whole, Cond.code yX3_whole cX3_whole 1 (some .long), Cond.methodLink RX9 171 yX9_inLowest, Cond.static yX9_inLowest, Cond.code yX9_inLowest cX9_inLowest 7 (some .long), Cond.methodLink RX9 266 yX9_commonDivisor, Cond.static yX9_commonDivisor, Cond.code yX9_commonDivisor cX9_commonDivisor 11 (some .long)]
def wsX9_chance : List Cond := .code yX9_chance cX9_chance 5 (some .long) :: ((wsX9_chance_r1 ++ (wsX9_chance_r2 ++ wsX9_chance_r3)) ++ wsX90 ++ wsX00 ++ wsX50 ++ wsX60 ++ wsX70)
def wsX9_sinned_r1 : List Cond := [Cond.constantLong RX9 157 (-101), Cond.constantLong RX9 159 (-102), Cond.constantLong RX9 181 (-1), Cond.methodLink RX9 110 yX9_parishAt, Cond.instanceMethod yX9_parishAt, Cond.selects RX9 yX9_parishAt yX9_parishAt, Cond.initialized RX9, Cond.code yX9_parishAt cX9_parishAt 2 (some (.object "KneelingStones$Parish")), Cond.fieldLink RX9 24 "KneelingStones" "parishes" "[LKneelingStones$Parish;", Cond.methodLink RX9 175 yX9_isNetOfOne, Cond.static yX9_isNetOfOne, Cond.code yX9_isNetOfOne cX9_isNetOfOne 1 (some .boolean), Cond.methodLink RX9 178 yX3_ofNet, Cond.static yX3_ofNet, Cond.initialized RX3, Cond.code yX3_ofNet cX3_ofNet 7 (some .long), Cond.fieldLink RX3 9 "KneelingStones$Parish" "walkers" "I", Cond.methodLink RX3 30 ⟨"KneelingStones$Parish", "gift", "()I"⟩, Cond.sameMethod "KneelingStones$Parish" "KneelingStones$Parish" "gift" "()I", Cond.selects RX0 ⟨"KneelingStones$Parish", "gift", "()I"⟩ yX5_gift, Cond.instanceMethod yX5_gift, Cond.initialized RX5, Cond.code yX5_gift cX5_gift 1 (some .int), Cond.methodLink RX3 30 yX5_gift]
def wsX9_sinned_r2 : List Cond := [Cond.selects RX5 yX5_gift yX5_gift, Cond.instanceMethod ⟨"KneelingStones$Parish", "gift", "()I"⟩, Cond.selects RX6 ⟨"KneelingStones$Parish", "gift", "()I"⟩ yX6_gift, Cond.instanceMethod yX6_gift, Cond.initialized RX6, Cond.code yX6_gift cX6_gift 1 (some .int), Cond.fieldLink RX6 9 "KneelingStones$Pious" "n" "I", Cond.sameField "KneelingStones$Pious" "KneelingStones$Parish" "n" "I", Cond.selects RX7 ⟨"KneelingStones$Parish", "gift", "()I"⟩ yX5_gift, Cond.methodLink RX3 34 ⟨"KneelingStones$Parish", "loss", "()I"⟩, Cond.sameMethod "KneelingStones$Parish" "KneelingStones$Parish" "loss" "()I", Cond.instanceMethod ⟨"KneelingStones$Parish", "loss", "()I"⟩, Cond.selects RX0 ⟨"KneelingStones$Parish", "loss", "()I"⟩ yX7_loss, Cond.instanceMethod yX7_loss, Cond.initialized RX7, Cond.code yX7_loss cX7_loss 1 (some .int), Cond.code yX5_loss cX5_loss 1 (some .int), Cond.methodLink RX3 34 yX5_loss, Cond.instanceMethod yX5_loss, Cond.selects RX5 yX5_loss yX5_loss, Cond.selects RX6 ⟨"KneelingStones$Parish", "loss", "()I"⟩ yX5_loss, Cond.selects RX7 ⟨"KneelingStones$Parish", "loss", "()I"⟩ yX7_loss, Cond.methodLink RX3 37 yX3_of, Cond.static yX3_of]
def wsX9_sinned_r3 : List Cond := [Cond.code yX3_of cX3_of 5 (some .long), Cond.fieldLink RX3 21 "KneelingStones$Parish" "wish" "I", Cond.fieldLink RX3 27 "KneelingStones$Parish" "sin" "I", Cond.methodLink RX3 24 yX3_choices, Cond.static yX3_choices, Cond.code yX3_choices cX3_choices 5 (some .long), Cond.methodLink RX3 15 yX3_power, Cond.static yX3_power, Cond.code yX3_power cX3_power 5 (some .long), Cond.methodLink RX9 171 yX9_inLowest, Cond.static yX9_inLowest, Cond.code yX9_inLowest cX9_inLowest 7 (some .long), Cond.methodLink RX9 266 yX9_commonDivisor, Cond.static yX9_commonDivisor, Cond.code yX9_commonDivisor cX9_commonDivisor 11 (some .long)]
def wsX9_sinned : List Cond := .code yX9_sinned cX9_sinned 7 (some .long) :: ((wsX9_sinned_r1 ++ (wsX9_sinned_r2 ++ wsX9_sinned_r3)) ++ wsX90 ++ wsX00 ++ wsX50 ++ wsX60 ++ wsX70)
def wsX9_bounds_r1 : List Cond := [Cond.fieldLink RX9 48 "KneelingStones" "ways" "LKneelingStones$Ways;", Cond.fieldLink RX9 24 "KneelingStones" "parishes" "[LKneelingStones$Parish;", Cond.methodLink RX9 183 yX8_fewestSins, Cond.instanceMethod yX8_fewestSins, Cond.selects RX8 yX8_fewestSins yX8_fewestSins, Cond.initialized RX8, Cond.code yX8_fewestSins cX8_fewestSins 4 (some .int), Cond.methodLink RX8 18 yX8_leastCost, Cond.instanceMethod yX8_leastCost, Cond.selects RX8 yX8_leastCost yX8_leastCost, Cond.code yX8_leastCost cX8_leastCost 4 (some .int), Cond.methodLink RX8 29 yX8_start, Cond.instanceMethod yX8_start, Cond.selects RX8 yX8_start yX8_start, Cond.code yX8_start cX8_start 1 none, Cond.fieldLink RX8 11 "KneelingStones$Ways" "row" "[I", Cond.methodLink RX8 58 yJ7_fill_53178, Cond.static yJ7_fill_53178, Cond.initialized RJ7, Cond.code yJ7_fill_53178 cJ7_fill_53178 4 none, Cond.methodLink RX8 32 yX8_addAllBut, Cond.instanceMethod yX8_addAllBut, Cond.selects RX8 yX8_addAllBut yX8_addAllBut, Cond.code yX8_addAllBut cX8_addAllBut 7 none]
def wsX9_bounds_r2 : List Cond := [Cond.fieldLink RX8 40 "KneelingStones$Parish" "walkers" "I", Cond.methodLink RX8 46 yX8_addWalker, Cond.instanceMethod yX8_addWalker, Cond.selects RX8 yX8_addWalker yX8_addWalker, Cond.code yX8_addWalker cX8_addWalker 7 none, Cond.fieldLink RX8 15 "KneelingStones$Ways" "next" "[I", Cond.methodLink RX8 50 ⟨"KneelingStones$Parish", "canSin", "()Z"⟩, Cond.sameMethod "KneelingStones$Parish" "KneelingStones$Parish" "canSin" "()Z", Cond.selects RX0 ⟨"KneelingStones$Parish", "canSin", "()Z"⟩ yX5_canSin, Cond.instanceMethod yX5_canSin, Cond.initialized RX5, Cond.code yX5_canSin cX5_canSin 1 (some .boolean), Cond.fieldLink RX5 22 "KneelingStones$Parish" "wish" "I", Cond.fieldLink RX5 25 "KneelingStones$Parish" "sin" "I", Cond.methodLink RX8 50 yX5_canSin, Cond.selects RX5 yX5_canSin yX5_canSin, Cond.selects RX6 ⟨"KneelingStones$Parish", "canSin", "()Z"⟩ yX5_canSin, Cond.selects RX7 ⟨"KneelingStones$Parish", "canSin", "()Z"⟩ yX5_canSin, Cond.methodLink RX8 64 ⟨"KneelingStones$Parish", "canWish", "()Z"⟩, Cond.sameMethod "KneelingStones$Parish" "KneelingStones$Parish" "canWish" "()Z", Cond.selects RX0 ⟨"KneelingStones$Parish", "canWish", "()Z"⟩ yX5_canWish, Cond.instanceMethod yX5_canWish, Cond.code yX5_canWish cX5_canWish 1 (some .boolean), Cond.methodLink RX8 64 yX5_canWish]
def wsX9_bounds_r3 : List Cond := [Cond.selects RX5 yX5_canWish yX5_canWish, Cond.selects RX6 ⟨"KneelingStones$Parish", "canWish", "()Z"⟩ yX5_canWish, Cond.selects RX7 ⟨"KneelingStones$Parish", "canWish", "()Z"⟩ yX5_canWish, Cond.methodLink RX8 67 ⟨"KneelingStones$Parish", "gift", "()I"⟩, Cond.sameMethod "KneelingStones$Parish" "KneelingStones$Parish" "gift" "()I", Cond.selects RX0 ⟨"KneelingStones$Parish", "gift", "()I"⟩ yX5_gift, Cond.instanceMethod yX5_gift, Cond.code yX5_gift cX5_gift 1 (some .int), Cond.methodLink RX8 67 yX5_gift, Cond.selects RX5 yX5_gift yX5_gift, Cond.instanceMethod ⟨"KneelingStones$Parish", "gift", "()I"⟩, Cond.selects RX6 ⟨"KneelingStones$Parish", "gift", "()I"⟩ yX6_gift, Cond.instanceMethod yX6_gift, Cond.initialized RX6, Cond.code yX6_gift cX6_gift 1 (some .int), Cond.fieldLink RX6 9 "KneelingStones$Pious" "n" "I", Cond.sameField "KneelingStones$Pious" "KneelingStones$Parish" "n" "I", Cond.selects RX7 ⟨"KneelingStones$Parish", "gift", "()I"⟩ yX5_gift, Cond.methodLink RX8 70 yX8_offer, Cond.instanceMethod yX8_offer, Cond.selects RX8 yX8_offer yX8_offer, Cond.code yX8_offer cX8_offer 3 none, Cond.methodLink RX8 54 ⟨"KneelingStones$Parish", "loss", "()I"⟩, Cond.sameMethod "KneelingStones$Parish" "KneelingStones$Parish" "loss" "()I"]
def wsX9_bounds_r4 : List Cond := [Cond.instanceMethod ⟨"KneelingStones$Parish", "loss", "()I"⟩, Cond.selects RX0 ⟨"KneelingStones$Parish", "loss", "()I"⟩ yX7_loss, Cond.instanceMethod yX7_loss, Cond.initialized RX7, Cond.code yX7_loss cX7_loss 1 (some .int), Cond.code yX5_loss cX5_loss 1 (some .int), Cond.methodLink RX8 54 yX5_loss, Cond.instanceMethod yX5_loss, Cond.selects RX5 yX5_loss yX5_loss, Cond.selects RX6 ⟨"KneelingStones$Parish", "loss", "()I"⟩ yX5_loss, Cond.selects RX7 ⟨"KneelingStones$Parish", "loss", "()I"⟩ yX7_loss, Cond.methodLink RX8 74 ⟨"KneelingStones$Parish", "canRest", "()Z"⟩, Cond.sameMethod "KneelingStones$Parish" "KneelingStones$Parish" "canRest" "()Z", Cond.selects RX0 ⟨"KneelingStones$Parish", "canRest", "()Z"⟩ yX5_canRest, Cond.instanceMethod yX5_canRest, Cond.code yX5_canRest cX5_canRest 1 (some .boolean), Cond.methodLink RX8 74 yX5_canRest, Cond.selects RX5 yX5_canRest yX5_canRest, Cond.selects RX6 ⟨"KneelingStones$Parish", "canRest", "()Z"⟩ yX5_canRest, Cond.selects RX7 ⟨"KneelingStones$Parish", "canRest", "()Z"⟩ yX5_canRest, Cond.methodLink RX8 36 yX8_costOf, Cond.instanceMethod yX8_costOf, Cond.selects RX8 yX8_costOf yX8_costOf, Cond.code yX8_costOf cX8_costOf 3 (some .int)]
def wsX9_bounds_r5 : List Cond := [Cond.methodLink RX9 187 yX8_mostSins, Cond.instanceMethod yX8_mostSins, Cond.selects RX8 yX8_mostSins yX8_mostSins, Cond.code yX8_mostSins cX8_mostSins 4 (some .int), Cond.methodLink RX9 190 yX8_whoMust, Cond.instanceMethod yX8_whoMust, Cond.selects RX8 yX8_whoMust yX8_whoMust, Cond.code yX8_whoMust cX8_whoMust 5 (some .int), Cond.methodLink RX8 22 yX8_canBeWithout, Cond.instanceMethod yX8_canBeWithout, Cond.selects RX8 yX8_canBeWithout yX8_canBeWithout, Cond.code yX8_canBeWithout cX8_canBeWithout 6 (some .boolean), Cond.methodLink RX9 193 yX8_whoMay, Cond.instanceMethod yX8_whoMay, Cond.selects RX8 yX8_whoMay yX8_whoMay, Cond.code yX8_whoMay cX8_whoMay 5 (some .int), Cond.methodLink RX8 26 yX8_canBeWith, Cond.instanceMethod yX8_canBeWith, Cond.selects RX8 yX8_canBeWith yX8_canBeWith, Cond.code yX8_canBeWith cX8_canBeWith 6 (some .boolean)]
def wsX9_bounds : List Cond := .code yX9_bounds cX9_bounds 3 (some .int) :: ((wsX9_bounds_r1 ++ (wsX9_bounds_r2 ++ (wsX9_bounds_r3 ++ (wsX9_bounds_r4 ++ wsX9_bounds_r5)))) ++ wsX90 ++ wsX80 ++ wsX00 ++ wsX50 ++ wsX60 ++ wsX70)
def wsX9_shows_r1 : List Cond := [Cond.fieldLink RX9 38 "KneelingStones" "dream" "LKneelingStones$Moor;", Cond.fieldLink RX9 31 "KneelingStones" "now" "LKneelingStones$Moor;", Cond.fieldLink RX9 24 "KneelingStones" "parishes" "[LKneelingStones$Parish;", Cond.methodLink RX9 79 yX9_customAt, Cond.instanceMethod yX9_customAt, Cond.selects RX9 yX9_customAt yX9_customAt, Cond.initialized RX9, Cond.code yX9_customAt cX9_customAt 2 (some (.object "KneelingStones$Custom")), Cond.fieldLink RX9 18 "KneelingStones" "customs" "[LKneelingStones$Custom;", Cond.methodLink RX9 119 yX9_isCairn, Cond.static yX9_isCairn, Cond.code yX9_isCairn cX9_isCairn 1 (some .boolean), Cond.methodLink RX9 196 yX2_become, Cond.instanceMethod yX2_become, Cond.selects RX2 yX2_become yX2_become, Cond.initialized RX2, Cond.code yX2_become cX2_become 2 none, Cond.fieldLink RX2 9 "KneelingStones$Moor" "heights" "[I", Cond.methodLink RX2 22 arraycopyName, Cond.native arraycopyName, Cond.static arraycopyName, Cond.initialized "java/lang/System", Cond.fieldLink RX2 15 "KneelingStones$Moor" "marks" "[I", Cond.fieldLink RX2 28 "KneelingStones$Moor" "week" "I"]
def wsX9_shows_r2 : List Cond := [Cond.fieldLink RX2 31 "KneelingStones$Moor" "last" "I", Cond.fieldLink RX2 18 "KneelingStones$Moor" "seed" "I", Cond.fieldLink RX2 34 "KneelingStones$Moor" "laid" "I", Cond.fieldLink RX2 37 "KneelingStones$Moor" "taken" "I", Cond.fieldLink RX2 40 "KneelingStones$Moor" "spilt" "I", Cond.methodLink RX9 123 yX2_layNew, Cond.instanceMethod yX2_layNew, Cond.selects RX2 yX2_layNew yX2_layNew, Cond.code yX2_layNew cX2_layNew 4 none, Cond.methodLink RX2 51 yX2_put, Cond.instanceMethod yX2_put, Cond.selects RX2 yX2_put yX2_put, Cond.code yX2_put cX2_put 4 none, Cond.methodLink RX9 143 yX2_goOneWeek, Cond.instanceMethod yX2_goOneWeek, Cond.selects RX2 yX2_goOneWeek yX2_goOneWeek, Cond.code yX2_goOneWeek cX2_goOneWeek 6 none, Cond.fieldLink RX2 60 "KneelingStones$Parish" "walkers" "I", Cond.methodLink RX2 65 yX2_walk, Cond.instanceMethod yX2_walk, Cond.selects RX2 yX2_walk yX2_walk, Cond.code yX2_walk cX2_walk 5 none, Cond.fieldLink RX2 81 "KneelingStones$Parish" "wish" "I", Cond.fieldLink RX2 84 "KneelingStones$Custom" "wishRule" "I"]
def wsX9_shows_r3 : List Cond := [Cond.fieldLink RX2 96 "KneelingStones$Parish" "sin" "I", Cond.fieldLink RX2 106 "KneelingStones$Custom" "sinRule" "I", Cond.methodLink RX2 77 yX2_draw, Cond.instanceMethod yX2_draw, Cond.selects RX2 yX2_draw yX2_draw, Cond.code yX2_draw cX2_draw 1 (some .int), Cond.constantLong RX2 124 (1103515245), Cond.constantLong RX2 126 (12345), Cond.constantLong RX2 128 (2147483647), Cond.methodLink RX2 87 yX2_cairnBy, Cond.instanceMethod yX2_cairnBy, Cond.selects RX2 yX2_cairnBy yX2_cairnBy, Cond.code yX2_cairnBy cX2_cairnBy 3 (some .int), Cond.methodLink RX2 103 yX2_most, Cond.instanceMethod yX2_most, Cond.selects RX2 yX2_most yX2_most, Cond.code yX2_most cX2_most 3 (some .int), Cond.methodLink RX2 121 yX2_fewest, Cond.instanceMethod yX2_fewest, Cond.selects RX2 yX2_fewest yX2_fewest, Cond.code yX2_fewest cX2_fewest 3 (some .int), Cond.methodLink RX2 90 ⟨"KneelingStones$Parish", "gift", "()I"⟩, Cond.sameMethod "KneelingStones$Parish" "KneelingStones$Parish" "gift" "()I", Cond.selects RX0 ⟨"KneelingStones$Parish", "gift", "()I"⟩ yX5_gift]
def wsX9_shows_r4 : List Cond := [Cond.instanceMethod yX5_gift, Cond.initialized RX5, Cond.code yX5_gift cX5_gift 1 (some .int), Cond.methodLink RX2 90 yX5_gift, Cond.selects RX5 yX5_gift yX5_gift, Cond.instanceMethod ⟨"KneelingStones$Parish", "gift", "()I"⟩, Cond.selects RX6 ⟨"KneelingStones$Parish", "gift", "()I"⟩ yX6_gift, Cond.instanceMethod yX6_gift, Cond.initialized RX6, Cond.code yX6_gift cX6_gift 1 (some .int), Cond.fieldLink RX6 9 "KneelingStones$Pious" "n" "I", Cond.sameField "KneelingStones$Pious" "KneelingStones$Parish" "n" "I", Cond.selects RX7 ⟨"KneelingStones$Parish", "gift", "()I"⟩ yX5_gift, Cond.methodLink RX2 93 yX2_layNew, Cond.methodLink RX2 99 ⟨"KneelingStones$Parish", "sinsAtMost", "()Z"⟩, Cond.sameMethod "KneelingStones$Parish" "KneelingStones$Parish" "sinsAtMost" "()Z", Cond.instanceMethod ⟨"KneelingStones$Parish", "sinsAtMost", "()Z"⟩, Cond.selects RX0 ⟨"KneelingStones$Parish", "sinsAtMost", "()Z"⟩ yX0_sinsAtMost, Cond.instanceMethod yX0_sinsAtMost, Cond.initialized RX0, Cond.code yX0_sinsAtMost cX0_sinsAtMost 1 (some .boolean), Cond.code yX5_sinsAtMost cX5_sinsAtMost 1 (some .boolean), Cond.methodLink RX2 99 yX5_sinsAtMost, Cond.instanceMethod yX5_sinsAtMost]
def wsX9_shows_r5 : List Cond := [Cond.selects RX5 yX5_sinsAtMost yX5_sinsAtMost, Cond.selects RX6 ⟨"KneelingStones$Parish", "sinsAtMost", "()Z"⟩ yX5_sinsAtMost, Cond.selects RX7 ⟨"KneelingStones$Parish", "sinsAtMost", "()Z"⟩ yX5_sinsAtMost, Cond.methodLink RX2 109 ⟨"KneelingStones$Parish", "hidesOn", "()I"⟩, Cond.sameMethod "KneelingStones$Parish" "KneelingStones$Parish" "hidesOn" "()I", Cond.instanceMethod ⟨"KneelingStones$Parish", "hidesOn", "()I"⟩, Cond.selects RX0 ⟨"KneelingStones$Parish", "hidesOn", "()I"⟩ yX7_hidesOn, Cond.instanceMethod yX7_hidesOn, Cond.initialized RX7, Cond.code yX7_hidesOn cX7_hidesOn 1 (some .int), Cond.fieldLink RX7 9 "KneelingStones$Sly" "n" "I", Cond.sameField "KneelingStones$Sly" "KneelingStones$Parish" "n" "I", Cond.code yX5_hidesOn cX5_hidesOn 1 (some .int), Cond.methodLink RX2 109 yX5_hidesOn, Cond.instanceMethod yX5_hidesOn, Cond.selects RX5 yX5_hidesOn yX5_hidesOn, Cond.selects RX6 ⟨"KneelingStones$Parish", "hidesOn", "()I"⟩ yX5_hidesOn, Cond.selects RX7 ⟨"KneelingStones$Parish", "hidesOn", "()I"⟩ yX7_hidesOn, Cond.methodLink RX2 112 yX2_steal, Cond.instanceMethod yX2_steal, Cond.selects RX2 yX2_steal yX2_steal, Cond.code yX2_steal cX2_steal 4 none, Cond.methodLink RX2 115 yX2_takeOff, Cond.instanceMethod yX2_takeOff]
def wsX9_shows_r6 : List Cond := [Cond.selects RX2 yX2_takeOff yX2_takeOff, Cond.code yX2_takeOff cX2_takeOff 4 none, Cond.methodLink RX2 55 Lib.Math.min.name, Cond.static Lib.Math.min.name, Cond.initialized "java/lang/Math", Cond.code Lib.Math.min.name Lib.Math.min.code 2 (some .int), Cond.methodLink RX2 118 yX2_markAt, Cond.instanceMethod yX2_markAt, Cond.selects RX2 yX2_markAt yX2_markAt, Cond.code yX2_markAt cX2_markAt 4 (some .int), Cond.methodLink RX2 69 yX1_floodsIn, Cond.instanceMethod yX1_floodsIn, Cond.selects RX1 yX1_floodsIn yX1_floodsIn, Cond.initialized RX1, Cond.code yX1_floodsIn cX1_floodsIn 2 (some .boolean), Cond.fieldLink RX1 16 "KneelingStones$Custom" "every" "I", Cond.methodLink RX2 74 yX2_flood, Cond.instanceMethod yX2_flood, Cond.selects RX2 yX2_flood yX2_flood, Cond.code yX2_flood cX2_flood 2 none, Cond.methodLink RX9 200 yX2_hasMostAlone, Cond.instanceMethod yX2_hasMostAlone, Cond.selects RX2 yX2_hasMostAlone yX2_hasMostAlone, Cond.code yX2_hasMostAlone cX2_hasMostAlone 2 (some .boolean)]
def wsX9_shows_r7 : List Cond := [Cond.methodLink RX2 47 yX2_surplusOver, Cond.instanceMethod yX2_surplusOver, Cond.selects RX2 yX2_surplusOver yX2_surplusOver, Cond.code yX2_surplusOver cX2_surplusOver 5 (some .int)]
def wsX9_shows : List Cond := .code yX9_shows cX9_shows 6 (some .int) :: ((wsX9_shows_r1 ++ (wsX9_shows_r2 ++ (wsX9_shows_r3 ++ (wsX9_shows_r4 ++ (wsX9_shows_r5 ++ (wsX9_shows_r6 ++ wsX9_shows_r7)))))) ++ wsX90 ++ wsX20 ++ wsX00 ++ wsX50 ++ wsX60 ++ wsX70 ++ wsX10)
def wsX9_dreamTillEmpty_r1 : List Cond := [Cond.fieldLink RX9 38 "KneelingStones" "dream" "LKneelingStones$Moor;", Cond.fieldLink RX9 24 "KneelingStones" "parishes" "[LKneelingStones$Parish;", Cond.fieldLink RX9 127 "KneelingStones$Moor" "heights" "[I", Cond.methodLink RX9 143 yX2_goOneWeek, Cond.instanceMethod yX2_goOneWeek, Cond.selects RX2 yX2_goOneWeek yX2_goOneWeek, Cond.initialized RX2, Cond.code yX2_goOneWeek cX2_goOneWeek 6 none, Cond.fieldLink RX2 28 "KneelingStones$Moor" "week" "I", Cond.fieldLink RX2 60 "KneelingStones$Parish" "walkers" "I", Cond.methodLink RX2 65 yX2_walk, Cond.instanceMethod yX2_walk, Cond.selects RX2 yX2_walk yX2_walk, Cond.code yX2_walk cX2_walk 5 none, Cond.fieldLink RX2 81 "KneelingStones$Parish" "wish" "I", Cond.fieldLink RX2 84 "KneelingStones$Custom" "wishRule" "I", Cond.fieldLink RX2 31 "KneelingStones$Moor" "last" "I", Cond.fieldLink RX2 96 "KneelingStones$Parish" "sin" "I", Cond.fieldLink RX2 106 "KneelingStones$Custom" "sinRule" "I", Cond.methodLink RX2 77 yX2_draw, Cond.instanceMethod yX2_draw, Cond.selects RX2 yX2_draw yX2_draw, Cond.code yX2_draw cX2_draw 1 (some .int), Cond.constantLong RX2 124 (1103515245)]
def wsX9_dreamTillEmpty_r2 : List Cond := [Cond.fieldLink RX2 18 "KneelingStones$Moor" "seed" "I", Cond.constantLong RX2 126 (12345), Cond.constantLong RX2 128 (2147483647), Cond.methodLink RX2 87 yX2_cairnBy, Cond.instanceMethod yX2_cairnBy, Cond.selects RX2 yX2_cairnBy yX2_cairnBy, Cond.code yX2_cairnBy cX2_cairnBy 3 (some .int), Cond.methodLink RX2 103 yX2_most, Cond.instanceMethod yX2_most, Cond.selects RX2 yX2_most yX2_most, Cond.code yX2_most cX2_most 3 (some .int), Cond.fieldLink RX2 9 "KneelingStones$Moor" "heights" "[I", Cond.methodLink RX2 121 yX2_fewest, Cond.instanceMethod yX2_fewest, Cond.selects RX2 yX2_fewest yX2_fewest, Cond.code yX2_fewest cX2_fewest 3 (some .int), Cond.methodLink RX2 90 ⟨"KneelingStones$Parish", "gift", "()I"⟩, Cond.sameMethod "KneelingStones$Parish" "KneelingStones$Parish" "gift" "()I", Cond.selects RX0 ⟨"KneelingStones$Parish", "gift", "()I"⟩ yX5_gift, Cond.instanceMethod yX5_gift, Cond.initialized RX5, Cond.code yX5_gift cX5_gift 1 (some .int), Cond.methodLink RX2 90 yX5_gift, Cond.selects RX5 yX5_gift yX5_gift]
def wsX9_dreamTillEmpty_r3 : List Cond := [Cond.instanceMethod ⟨"KneelingStones$Parish", "gift", "()I"⟩, Cond.selects RX6 ⟨"KneelingStones$Parish", "gift", "()I"⟩ yX6_gift, Cond.instanceMethod yX6_gift, Cond.initialized RX6, Cond.code yX6_gift cX6_gift 1 (some .int), Cond.fieldLink RX6 9 "KneelingStones$Pious" "n" "I", Cond.sameField "KneelingStones$Pious" "KneelingStones$Parish" "n" "I", Cond.selects RX7 ⟨"KneelingStones$Parish", "gift", "()I"⟩ yX5_gift, Cond.methodLink RX2 93 yX2_layNew, Cond.instanceMethod yX2_layNew, Cond.selects RX2 yX2_layNew yX2_layNew, Cond.code yX2_layNew cX2_layNew 4 none, Cond.fieldLink RX2 34 "KneelingStones$Moor" "laid" "I", Cond.methodLink RX2 51 yX2_put, Cond.instanceMethod yX2_put, Cond.selects RX2 yX2_put yX2_put, Cond.code yX2_put cX2_put 4 none, Cond.fieldLink RX2 40 "KneelingStones$Moor" "spilt" "I", Cond.fieldLink RX2 15 "KneelingStones$Moor" "marks" "[I", Cond.static yX9_isCairn, Cond.initialized RX9, Cond.code yX9_isCairn cX9_isCairn 1 (some .boolean), Cond.methodLink RX2 99 ⟨"KneelingStones$Parish", "sinsAtMost", "()Z"⟩, Cond.sameMethod "KneelingStones$Parish" "KneelingStones$Parish" "sinsAtMost" "()Z"]
def wsX9_dreamTillEmpty_r4 : List Cond := [Cond.instanceMethod ⟨"KneelingStones$Parish", "sinsAtMost", "()Z"⟩, Cond.selects RX0 ⟨"KneelingStones$Parish", "sinsAtMost", "()Z"⟩ yX0_sinsAtMost, Cond.instanceMethod yX0_sinsAtMost, Cond.initialized RX0, Cond.code yX0_sinsAtMost cX0_sinsAtMost 1 (some .boolean), Cond.code yX5_sinsAtMost cX5_sinsAtMost 1 (some .boolean), Cond.methodLink RX2 99 yX5_sinsAtMost, Cond.instanceMethod yX5_sinsAtMost, Cond.selects RX5 yX5_sinsAtMost yX5_sinsAtMost, Cond.selects RX6 ⟨"KneelingStones$Parish", "sinsAtMost", "()Z"⟩ yX5_sinsAtMost, Cond.selects RX7 ⟨"KneelingStones$Parish", "sinsAtMost", "()Z"⟩ yX5_sinsAtMost, Cond.methodLink RX2 109 ⟨"KneelingStones$Parish", "hidesOn", "()I"⟩, Cond.sameMethod "KneelingStones$Parish" "KneelingStones$Parish" "hidesOn" "()I", Cond.instanceMethod ⟨"KneelingStones$Parish", "hidesOn", "()I"⟩, Cond.selects RX0 ⟨"KneelingStones$Parish", "hidesOn", "()I"⟩ yX7_hidesOn, Cond.instanceMethod yX7_hidesOn, Cond.initialized RX7, Cond.code yX7_hidesOn cX7_hidesOn 1 (some .int), Cond.fieldLink RX7 9 "KneelingStones$Sly" "n" "I", Cond.sameField "KneelingStones$Sly" "KneelingStones$Parish" "n" "I", Cond.code yX5_hidesOn cX5_hidesOn 1 (some .int), Cond.methodLink RX2 109 yX5_hidesOn, Cond.instanceMethod yX5_hidesOn, Cond.selects RX5 yX5_hidesOn yX5_hidesOn]
def wsX9_dreamTillEmpty_r5 : List Cond := [Cond.selects RX6 ⟨"KneelingStones$Parish", "hidesOn", "()I"⟩ yX5_hidesOn, Cond.selects RX7 ⟨"KneelingStones$Parish", "hidesOn", "()I"⟩ yX7_hidesOn, Cond.methodLink RX2 112 yX2_steal, Cond.instanceMethod yX2_steal, Cond.selects RX2 yX2_steal yX2_steal, Cond.code yX2_steal cX2_steal 4 none, Cond.methodLink RX2 115 yX2_takeOff, Cond.instanceMethod yX2_takeOff, Cond.selects RX2 yX2_takeOff yX2_takeOff, Cond.code yX2_takeOff cX2_takeOff 4 none, Cond.methodLink RX2 55 Lib.Math.min.name, Cond.static Lib.Math.min.name, Cond.initialized "java/lang/Math", Cond.code Lib.Math.min.name Lib.Math.min.code 2 (some .int), Cond.fieldLink RX2 37 "KneelingStones$Moor" "taken" "I", Cond.methodLink RX2 118 yX2_markAt, Cond.instanceMethod yX2_markAt, Cond.selects RX2 yX2_markAt yX2_markAt, Cond.code yX2_markAt cX2_markAt 4 (some .int), Cond.methodLink RX2 69 yX1_floodsIn, Cond.instanceMethod yX1_floodsIn, Cond.selects RX1 yX1_floodsIn yX1_floodsIn, Cond.initialized RX1, Cond.code yX1_floodsIn cX1_floodsIn 2 (some .boolean)]
def wsX9_dreamTillEmpty_r6 : List Cond := [Cond.fieldLink RX1 16 "KneelingStones$Custom" "every" "I", Cond.methodLink RX2 74 yX2_flood, Cond.instanceMethod yX2_flood, Cond.selects RX2 yX2_flood yX2_flood, Cond.code yX2_flood cX2_flood 2 none, Cond.methodLink RX9 119 yX9_isCairn]
def wsX9_dreamTillEmpty : List Cond := .code yX9_dreamTillEmpty cX9_dreamTillEmpty 5 (some .int) :: ((wsX9_dreamTillEmpty_r1 ++ (wsX9_dreamTillEmpty_r2 ++ (wsX9_dreamTillEmpty_r3 ++ (wsX9_dreamTillEmpty_r4 ++ (wsX9_dreamTillEmpty_r5 ++ wsX9_dreamTillEmpty_r6))))) ++ wsX90 ++ wsX20 ++ wsX00 ++ wsX50 ++ wsX60 ++ wsX70 ++ wsX10)
def wsX9_gone_r1 : List Cond := [Cond.fieldLink RX9 38 "KneelingStones" "dream" "LKneelingStones$Moor;", Cond.fieldLink RX9 31 "KneelingStones" "now" "LKneelingStones$Moor;", Cond.fieldLink RX9 127 "KneelingStones$Moor" "heights" "[I", Cond.methodLink RX9 79 yX9_customAt, Cond.instanceMethod yX9_customAt, Cond.selects RX9 yX9_customAt yX9_customAt, Cond.initialized RX9, Cond.code yX9_customAt cX9_customAt 2 (some (.object "KneelingStones$Custom")), Cond.fieldLink RX9 18 "KneelingStones" "customs" "[LKneelingStones$Custom;", Cond.methodLink RX9 119 yX9_isCairn, Cond.static yX9_isCairn, Cond.code yX9_isCairn cX9_isCairn 1 (some .boolean), Cond.methodLink RX9 196 yX2_become, Cond.instanceMethod yX2_become, Cond.selects RX2 yX2_become yX2_become, Cond.initialized RX2, Cond.code yX2_become cX2_become 2 none, Cond.fieldLink RX2 9 "KneelingStones$Moor" "heights" "[I", Cond.methodLink RX2 22 arraycopyName, Cond.native arraycopyName, Cond.static arraycopyName, Cond.initialized "java/lang/System", Cond.fieldLink RX2 15 "KneelingStones$Moor" "marks" "[I", Cond.fieldLink RX2 28 "KneelingStones$Moor" "week" "I"]
def wsX9_gone_r2 : List Cond := [Cond.fieldLink RX2 31 "KneelingStones$Moor" "last" "I", Cond.fieldLink RX2 18 "KneelingStones$Moor" "seed" "I", Cond.fieldLink RX2 34 "KneelingStones$Moor" "laid" "I", Cond.fieldLink RX2 37 "KneelingStones$Moor" "taken" "I", Cond.fieldLink RX2 40 "KneelingStones$Moor" "spilt" "I", Cond.methodLink RX9 203 yX9_dreamTillEmpty, Cond.instanceMethod yX9_dreamTillEmpty, Cond.selects RX9 yX9_dreamTillEmpty yX9_dreamTillEmpty, Cond.code yX9_dreamTillEmpty cX9_dreamTillEmpty 5 (some .int), Cond.fieldLink RX9 24 "KneelingStones" "parishes" "[LKneelingStones$Parish;", Cond.methodLink RX9 143 yX2_goOneWeek, Cond.instanceMethod yX2_goOneWeek, Cond.selects RX2 yX2_goOneWeek yX2_goOneWeek, Cond.code yX2_goOneWeek cX2_goOneWeek 6 none, Cond.fieldLink RX2 60 "KneelingStones$Parish" "walkers" "I", Cond.methodLink RX2 65 yX2_walk, Cond.instanceMethod yX2_walk, Cond.selects RX2 yX2_walk yX2_walk, Cond.code yX2_walk cX2_walk 5 none, Cond.fieldLink RX2 81 "KneelingStones$Parish" "wish" "I", Cond.fieldLink RX2 84 "KneelingStones$Custom" "wishRule" "I", Cond.fieldLink RX2 96 "KneelingStones$Parish" "sin" "I", Cond.fieldLink RX2 106 "KneelingStones$Custom" "sinRule" "I", Cond.methodLink RX2 77 yX2_draw]
def wsX9_gone_r3 : List Cond := [Cond.instanceMethod yX2_draw, Cond.selects RX2 yX2_draw yX2_draw, Cond.code yX2_draw cX2_draw 1 (some .int), Cond.constantLong RX2 124 (1103515245), Cond.constantLong RX2 126 (12345), Cond.constantLong RX2 128 (2147483647), Cond.methodLink RX2 87 yX2_cairnBy, Cond.instanceMethod yX2_cairnBy, Cond.selects RX2 yX2_cairnBy yX2_cairnBy, Cond.code yX2_cairnBy cX2_cairnBy 3 (some .int), Cond.methodLink RX2 103 yX2_most, Cond.instanceMethod yX2_most, Cond.selects RX2 yX2_most yX2_most, Cond.code yX2_most cX2_most 3 (some .int), Cond.methodLink RX2 121 yX2_fewest, Cond.instanceMethod yX2_fewest, Cond.selects RX2 yX2_fewest yX2_fewest, Cond.code yX2_fewest cX2_fewest 3 (some .int), Cond.methodLink RX2 90 ⟨"KneelingStones$Parish", "gift", "()I"⟩, Cond.sameMethod "KneelingStones$Parish" "KneelingStones$Parish" "gift" "()I", Cond.selects RX0 ⟨"KneelingStones$Parish", "gift", "()I"⟩ yX5_gift, Cond.instanceMethod yX5_gift, Cond.initialized RX5, Cond.code yX5_gift cX5_gift 1 (some .int)]
def wsX9_gone_r4 : List Cond := [Cond.methodLink RX2 90 yX5_gift, Cond.selects RX5 yX5_gift yX5_gift, Cond.instanceMethod ⟨"KneelingStones$Parish", "gift", "()I"⟩, Cond.selects RX6 ⟨"KneelingStones$Parish", "gift", "()I"⟩ yX6_gift, Cond.instanceMethod yX6_gift, Cond.initialized RX6, Cond.code yX6_gift cX6_gift 1 (some .int), Cond.fieldLink RX6 9 "KneelingStones$Pious" "n" "I", Cond.sameField "KneelingStones$Pious" "KneelingStones$Parish" "n" "I", Cond.selects RX7 ⟨"KneelingStones$Parish", "gift", "()I"⟩ yX5_gift, Cond.methodLink RX2 93 yX2_layNew, Cond.instanceMethod yX2_layNew, Cond.selects RX2 yX2_layNew yX2_layNew, Cond.code yX2_layNew cX2_layNew 4 none, Cond.methodLink RX2 51 yX2_put, Cond.instanceMethod yX2_put, Cond.selects RX2 yX2_put yX2_put, Cond.code yX2_put cX2_put 4 none, Cond.methodLink RX2 99 ⟨"KneelingStones$Parish", "sinsAtMost", "()Z"⟩, Cond.sameMethod "KneelingStones$Parish" "KneelingStones$Parish" "sinsAtMost" "()Z", Cond.instanceMethod ⟨"KneelingStones$Parish", "sinsAtMost", "()Z"⟩, Cond.selects RX0 ⟨"KneelingStones$Parish", "sinsAtMost", "()Z"⟩ yX0_sinsAtMost, Cond.instanceMethod yX0_sinsAtMost, Cond.initialized RX0]
def wsX9_gone_r5 : List Cond := [Cond.code yX0_sinsAtMost cX0_sinsAtMost 1 (some .boolean), Cond.code yX5_sinsAtMost cX5_sinsAtMost 1 (some .boolean), Cond.methodLink RX2 99 yX5_sinsAtMost, Cond.instanceMethod yX5_sinsAtMost, Cond.selects RX5 yX5_sinsAtMost yX5_sinsAtMost, Cond.selects RX6 ⟨"KneelingStones$Parish", "sinsAtMost", "()Z"⟩ yX5_sinsAtMost, Cond.selects RX7 ⟨"KneelingStones$Parish", "sinsAtMost", "()Z"⟩ yX5_sinsAtMost, Cond.methodLink RX2 109 ⟨"KneelingStones$Parish", "hidesOn", "()I"⟩, Cond.sameMethod "KneelingStones$Parish" "KneelingStones$Parish" "hidesOn" "()I", Cond.instanceMethod ⟨"KneelingStones$Parish", "hidesOn", "()I"⟩, Cond.selects RX0 ⟨"KneelingStones$Parish", "hidesOn", "()I"⟩ yX7_hidesOn, Cond.instanceMethod yX7_hidesOn, Cond.initialized RX7, Cond.code yX7_hidesOn cX7_hidesOn 1 (some .int), Cond.fieldLink RX7 9 "KneelingStones$Sly" "n" "I", Cond.sameField "KneelingStones$Sly" "KneelingStones$Parish" "n" "I", Cond.code yX5_hidesOn cX5_hidesOn 1 (some .int), Cond.methodLink RX2 109 yX5_hidesOn, Cond.instanceMethod yX5_hidesOn, Cond.selects RX5 yX5_hidesOn yX5_hidesOn, Cond.selects RX6 ⟨"KneelingStones$Parish", "hidesOn", "()I"⟩ yX5_hidesOn, Cond.selects RX7 ⟨"KneelingStones$Parish", "hidesOn", "()I"⟩ yX7_hidesOn, Cond.methodLink RX2 112 yX2_steal, Cond.instanceMethod yX2_steal]
def wsX9_gone_r6 : List Cond := [Cond.selects RX2 yX2_steal yX2_steal, Cond.code yX2_steal cX2_steal 4 none, Cond.methodLink RX2 115 yX2_takeOff, Cond.instanceMethod yX2_takeOff, Cond.selects RX2 yX2_takeOff yX2_takeOff, Cond.code yX2_takeOff cX2_takeOff 4 none, Cond.methodLink RX2 55 Lib.Math.min.name, Cond.static Lib.Math.min.name, Cond.initialized "java/lang/Math", Cond.code Lib.Math.min.name Lib.Math.min.code 2 (some .int), Cond.methodLink RX2 118 yX2_markAt, Cond.instanceMethod yX2_markAt, Cond.selects RX2 yX2_markAt yX2_markAt, Cond.code yX2_markAt cX2_markAt 4 (some .int), Cond.methodLink RX2 69 yX1_floodsIn, Cond.instanceMethod yX1_floodsIn, Cond.selects RX1 yX1_floodsIn yX1_floodsIn, Cond.initialized RX1, Cond.code yX1_floodsIn cX1_floodsIn 2 (some .boolean), Cond.fieldLink RX1 16 "KneelingStones$Custom" "every" "I", Cond.methodLink RX2 74 yX2_flood, Cond.instanceMethod yX2_flood, Cond.selects RX2 yX2_flood yX2_flood, Cond.code yX2_flood cX2_flood 2 none]
def wsX9_gone : List Cond := .code yX9_gone cX9_gone 5 (some .int) :: ((wsX9_gone_r1 ++ (wsX9_gone_r2 ++ (wsX9_gone_r3 ++ (wsX9_gone_r4 ++ (wsX9_gone_r5 ++ wsX9_gone_r6))))) ++ wsX90 ++ wsX20 ++ wsX00 ++ wsX50 ++ wsX60 ++ wsX70 ++ wsX10)
def wsX9_saved_r1 : List Cond := [Cond.fieldLink RX9 31 "KneelingStones" "now" "LKneelingStones$Moor;", Cond.fieldLink RX9 127 "KneelingStones$Moor" "heights" "[I", Cond.fieldLink RX9 38 "KneelingStones" "dream" "LKneelingStones$Moor;", Cond.methodLink RX9 79 yX9_customAt, Cond.instanceMethod yX9_customAt, Cond.selects RX9 yX9_customAt yX9_customAt, Cond.initialized RX9, Cond.code yX9_customAt cX9_customAt 2 (some (.object "KneelingStones$Custom")), Cond.fieldLink RX9 18 "KneelingStones" "customs" "[LKneelingStones$Custom;", Cond.methodLink RX9 119 yX9_isCairn, Cond.static yX9_isCairn, Cond.code yX9_isCairn cX9_isCairn 1 (some .boolean), Cond.methodLink RX9 196 yX2_become, Cond.instanceMethod yX2_become, Cond.selects RX2 yX2_become yX2_become, Cond.initialized RX2, Cond.code yX2_become cX2_become 2 none, Cond.fieldLink RX2 9 "KneelingStones$Moor" "heights" "[I", Cond.methodLink RX2 22 arraycopyName, Cond.native arraycopyName, Cond.static arraycopyName, Cond.initialized "java/lang/System", Cond.fieldLink RX2 15 "KneelingStones$Moor" "marks" "[I", Cond.fieldLink RX2 28 "KneelingStones$Moor" "week" "I"]
def wsX9_saved_r2 : List Cond := [Cond.fieldLink RX2 31 "KneelingStones$Moor" "last" "I", Cond.fieldLink RX2 18 "KneelingStones$Moor" "seed" "I", Cond.fieldLink RX2 34 "KneelingStones$Moor" "laid" "I", Cond.fieldLink RX2 37 "KneelingStones$Moor" "taken" "I", Cond.fieldLink RX2 40 "KneelingStones$Moor" "spilt" "I", Cond.methodLink RX9 123 yX2_layNew, Cond.instanceMethod yX2_layNew, Cond.selects RX2 yX2_layNew yX2_layNew, Cond.code yX2_layNew cX2_layNew 4 none, Cond.methodLink RX2 51 yX2_put, Cond.instanceMethod yX2_put, Cond.selects RX2 yX2_put yX2_put, Cond.code yX2_put cX2_put 4 none, Cond.methodLink RX9 203 yX9_dreamTillEmpty, Cond.instanceMethod yX9_dreamTillEmpty, Cond.selects RX9 yX9_dreamTillEmpty yX9_dreamTillEmpty, Cond.code yX9_dreamTillEmpty cX9_dreamTillEmpty 5 (some .int), Cond.fieldLink RX9 24 "KneelingStones" "parishes" "[LKneelingStones$Parish;", Cond.methodLink RX9 143 yX2_goOneWeek, Cond.instanceMethod yX2_goOneWeek, Cond.selects RX2 yX2_goOneWeek yX2_goOneWeek, Cond.code yX2_goOneWeek cX2_goOneWeek 6 none, Cond.fieldLink RX2 60 "KneelingStones$Parish" "walkers" "I", Cond.methodLink RX2 65 yX2_walk]
def wsX9_saved_r3 : List Cond := [Cond.instanceMethod yX2_walk, Cond.selects RX2 yX2_walk yX2_walk, Cond.code yX2_walk cX2_walk 5 none, Cond.fieldLink RX2 81 "KneelingStones$Parish" "wish" "I", Cond.fieldLink RX2 84 "KneelingStones$Custom" "wishRule" "I", Cond.fieldLink RX2 96 "KneelingStones$Parish" "sin" "I", Cond.fieldLink RX2 106 "KneelingStones$Custom" "sinRule" "I", Cond.methodLink RX2 77 yX2_draw, Cond.instanceMethod yX2_draw, Cond.selects RX2 yX2_draw yX2_draw, Cond.code yX2_draw cX2_draw 1 (some .int), Cond.constantLong RX2 124 (1103515245), Cond.constantLong RX2 126 (12345), Cond.constantLong RX2 128 (2147483647), Cond.methodLink RX2 87 yX2_cairnBy, Cond.instanceMethod yX2_cairnBy, Cond.selects RX2 yX2_cairnBy yX2_cairnBy, Cond.code yX2_cairnBy cX2_cairnBy 3 (some .int), Cond.methodLink RX2 103 yX2_most, Cond.instanceMethod yX2_most, Cond.selects RX2 yX2_most yX2_most, Cond.code yX2_most cX2_most 3 (some .int), Cond.methodLink RX2 121 yX2_fewest, Cond.instanceMethod yX2_fewest]
def wsX9_saved_r4 : List Cond := [Cond.selects RX2 yX2_fewest yX2_fewest, Cond.code yX2_fewest cX2_fewest 3 (some .int), Cond.methodLink RX2 90 ⟨"KneelingStones$Parish", "gift", "()I"⟩, Cond.sameMethod "KneelingStones$Parish" "KneelingStones$Parish" "gift" "()I", Cond.selects RX0 ⟨"KneelingStones$Parish", "gift", "()I"⟩ yX5_gift, Cond.instanceMethod yX5_gift, Cond.initialized RX5, Cond.code yX5_gift cX5_gift 1 (some .int), Cond.methodLink RX2 90 yX5_gift, Cond.selects RX5 yX5_gift yX5_gift, Cond.instanceMethod ⟨"KneelingStones$Parish", "gift", "()I"⟩, Cond.selects RX6 ⟨"KneelingStones$Parish", "gift", "()I"⟩ yX6_gift, Cond.instanceMethod yX6_gift, Cond.initialized RX6, Cond.code yX6_gift cX6_gift 1 (some .int), Cond.fieldLink RX6 9 "KneelingStones$Pious" "n" "I", Cond.sameField "KneelingStones$Pious" "KneelingStones$Parish" "n" "I", Cond.selects RX7 ⟨"KneelingStones$Parish", "gift", "()I"⟩ yX5_gift, Cond.methodLink RX2 93 yX2_layNew, Cond.methodLink RX2 99 ⟨"KneelingStones$Parish", "sinsAtMost", "()Z"⟩, Cond.sameMethod "KneelingStones$Parish" "KneelingStones$Parish" "sinsAtMost" "()Z", Cond.instanceMethod ⟨"KneelingStones$Parish", "sinsAtMost", "()Z"⟩, Cond.selects RX0 ⟨"KneelingStones$Parish", "sinsAtMost", "()Z"⟩ yX0_sinsAtMost, Cond.instanceMethod yX0_sinsAtMost]
def wsX9_saved_r5 : List Cond := [Cond.initialized RX0, Cond.code yX0_sinsAtMost cX0_sinsAtMost 1 (some .boolean), Cond.code yX5_sinsAtMost cX5_sinsAtMost 1 (some .boolean), Cond.methodLink RX2 99 yX5_sinsAtMost, Cond.instanceMethod yX5_sinsAtMost, Cond.selects RX5 yX5_sinsAtMost yX5_sinsAtMost, Cond.selects RX6 ⟨"KneelingStones$Parish", "sinsAtMost", "()Z"⟩ yX5_sinsAtMost, Cond.selects RX7 ⟨"KneelingStones$Parish", "sinsAtMost", "()Z"⟩ yX5_sinsAtMost, Cond.methodLink RX2 109 ⟨"KneelingStones$Parish", "hidesOn", "()I"⟩, Cond.sameMethod "KneelingStones$Parish" "KneelingStones$Parish" "hidesOn" "()I", Cond.instanceMethod ⟨"KneelingStones$Parish", "hidesOn", "()I"⟩, Cond.selects RX0 ⟨"KneelingStones$Parish", "hidesOn", "()I"⟩ yX7_hidesOn, Cond.instanceMethod yX7_hidesOn, Cond.initialized RX7, Cond.code yX7_hidesOn cX7_hidesOn 1 (some .int), Cond.fieldLink RX7 9 "KneelingStones$Sly" "n" "I", Cond.sameField "KneelingStones$Sly" "KneelingStones$Parish" "n" "I", Cond.code yX5_hidesOn cX5_hidesOn 1 (some .int), Cond.methodLink RX2 109 yX5_hidesOn, Cond.instanceMethod yX5_hidesOn, Cond.selects RX5 yX5_hidesOn yX5_hidesOn, Cond.selects RX6 ⟨"KneelingStones$Parish", "hidesOn", "()I"⟩ yX5_hidesOn, Cond.selects RX7 ⟨"KneelingStones$Parish", "hidesOn", "()I"⟩ yX7_hidesOn, Cond.methodLink RX2 112 yX2_steal]
def wsX9_saved_r6 : List Cond := [Cond.instanceMethod yX2_steal, Cond.selects RX2 yX2_steal yX2_steal, Cond.code yX2_steal cX2_steal 4 none, Cond.methodLink RX2 115 yX2_takeOff, Cond.instanceMethod yX2_takeOff, Cond.selects RX2 yX2_takeOff yX2_takeOff, Cond.code yX2_takeOff cX2_takeOff 4 none, Cond.methodLink RX2 55 Lib.Math.min.name, Cond.static Lib.Math.min.name, Cond.initialized "java/lang/Math", Cond.code Lib.Math.min.name Lib.Math.min.code 2 (some .int), Cond.methodLink RX2 118 yX2_markAt, Cond.instanceMethod yX2_markAt, Cond.selects RX2 yX2_markAt yX2_markAt, Cond.code yX2_markAt cX2_markAt 4 (some .int), Cond.methodLink RX2 69 yX1_floodsIn, Cond.instanceMethod yX1_floodsIn, Cond.selects RX1 yX1_floodsIn yX1_floodsIn, Cond.initialized RX1, Cond.code yX1_floodsIn cX1_floodsIn 2 (some .boolean), Cond.fieldLink RX1 16 "KneelingStones$Custom" "every" "I", Cond.methodLink RX2 74 yX2_flood, Cond.instanceMethod yX2_flood, Cond.selects RX2 yX2_flood yX2_flood]
def wsX9_saved_r7 : List Cond := [Cond.code yX2_flood cX2_flood 2 none]
def wsX9_saved : List Cond := .code yX9_saved cX9_saved 7 (some .int) :: ((wsX9_saved_r1 ++ (wsX9_saved_r2 ++ (wsX9_saved_r3 ++ (wsX9_saved_r4 ++ (wsX9_saved_r5 ++ (wsX9_saved_r6 ++ wsX9_saved_r7)))))) ++ wsX90 ++ wsX20 ++ wsX00 ++ wsX50 ++ wsX60 ++ wsX70 ++ wsX10)
def wsX9_unlike_r1 : List Cond := [Cond.fieldLink RX9 41 "KneelingStones" "sizes" "[I", Cond.fieldLink RX9 38 "KneelingStones" "dream" "LKneelingStones$Moor;", Cond.fieldLink RX9 127 "KneelingStones$Moor" "heights" "[I", Cond.methodLink RX9 207 Lib.Math.abs.name, Cond.static Lib.Math.abs.name, Cond.initialized "java/lang/Math", Cond.code Lib.Math.abs.name Lib.Math.abs.code 1 (some .int), Cond.methodLink RX9 79 yX9_customAt, Cond.instanceMethod yX9_customAt, Cond.selects RX9 yX9_customAt yX9_customAt, Cond.initialized RX9, Cond.code yX9_customAt cX9_customAt 2 (some (.object "KneelingStones$Custom")), Cond.fieldLink RX9 18 "KneelingStones" "customs" "[LKneelingStones$Custom;", Cond.methodLink RX9 150 yX9_dreamOf, Cond.instanceMethod yX9_dreamOf, Cond.selects RX9 yX9_dreamOf yX9_dreamOf, Cond.code yX9_dreamOf cX9_dreamOf 4 none, Cond.fieldLink RX9 31 "KneelingStones" "now" "LKneelingStones$Moor;", Cond.fieldLink RX9 24 "KneelingStones" "parishes" "[LKneelingStones$Parish;", Cond.methodLink RX9 196 yX2_become, Cond.instanceMethod yX2_become, Cond.selects RX2 yX2_become yX2_become, Cond.initialized RX2, Cond.code yX2_become cX2_become 2 none]
def wsX9_unlike_r2 : List Cond := [Cond.fieldLink RX2 9 "KneelingStones$Moor" "heights" "[I", Cond.methodLink RX2 22 arraycopyName, Cond.native arraycopyName, Cond.static arraycopyName, Cond.initialized "java/lang/System", Cond.fieldLink RX2 15 "KneelingStones$Moor" "marks" "[I", Cond.fieldLink RX2 28 "KneelingStones$Moor" "week" "I", Cond.fieldLink RX2 31 "KneelingStones$Moor" "last" "I", Cond.fieldLink RX2 18 "KneelingStones$Moor" "seed" "I", Cond.fieldLink RX2 34 "KneelingStones$Moor" "laid" "I", Cond.fieldLink RX2 37 "KneelingStones$Moor" "taken" "I", Cond.fieldLink RX2 40 "KneelingStones$Moor" "spilt" "I", Cond.methodLink RX9 143 yX2_goOneWeek, Cond.instanceMethod yX2_goOneWeek, Cond.selects RX2 yX2_goOneWeek yX2_goOneWeek, Cond.code yX2_goOneWeek cX2_goOneWeek 6 none, Cond.fieldLink RX2 60 "KneelingStones$Parish" "walkers" "I", Cond.methodLink RX2 65 yX2_walk, Cond.instanceMethod yX2_walk, Cond.selects RX2 yX2_walk yX2_walk, Cond.code yX2_walk cX2_walk 5 none, Cond.fieldLink RX2 81 "KneelingStones$Parish" "wish" "I", Cond.fieldLink RX2 84 "KneelingStones$Custom" "wishRule" "I", Cond.fieldLink RX2 96 "KneelingStones$Parish" "sin" "I"]
def wsX9_unlike_r3 : List Cond := [Cond.fieldLink RX2 106 "KneelingStones$Custom" "sinRule" "I", Cond.methodLink RX2 77 yX2_draw, Cond.instanceMethod yX2_draw, Cond.selects RX2 yX2_draw yX2_draw, Cond.code yX2_draw cX2_draw 1 (some .int), Cond.constantLong RX2 124 (1103515245), Cond.constantLong RX2 126 (12345), Cond.constantLong RX2 128 (2147483647), Cond.methodLink RX2 87 yX2_cairnBy, Cond.instanceMethod yX2_cairnBy, Cond.selects RX2 yX2_cairnBy yX2_cairnBy, Cond.code yX2_cairnBy cX2_cairnBy 3 (some .int), Cond.methodLink RX2 103 yX2_most, Cond.instanceMethod yX2_most, Cond.selects RX2 yX2_most yX2_most, Cond.code yX2_most cX2_most 3 (some .int), Cond.methodLink RX2 121 yX2_fewest, Cond.instanceMethod yX2_fewest, Cond.selects RX2 yX2_fewest yX2_fewest, Cond.code yX2_fewest cX2_fewest 3 (some .int), Cond.methodLink RX2 90 ⟨"KneelingStones$Parish", "gift", "()I"⟩, Cond.sameMethod "KneelingStones$Parish" "KneelingStones$Parish" "gift" "()I", Cond.selects RX0 ⟨"KneelingStones$Parish", "gift", "()I"⟩ yX5_gift, Cond.instanceMethod yX5_gift]
def wsX9_unlike_r4 : List Cond := [Cond.initialized RX5, Cond.code yX5_gift cX5_gift 1 (some .int), Cond.methodLink RX2 90 yX5_gift, Cond.selects RX5 yX5_gift yX5_gift, Cond.instanceMethod ⟨"KneelingStones$Parish", "gift", "()I"⟩, Cond.selects RX6 ⟨"KneelingStones$Parish", "gift", "()I"⟩ yX6_gift, Cond.instanceMethod yX6_gift, Cond.initialized RX6, Cond.code yX6_gift cX6_gift 1 (some .int), Cond.fieldLink RX6 9 "KneelingStones$Pious" "n" "I", Cond.sameField "KneelingStones$Pious" "KneelingStones$Parish" "n" "I", Cond.selects RX7 ⟨"KneelingStones$Parish", "gift", "()I"⟩ yX5_gift, Cond.methodLink RX2 93 yX2_layNew, Cond.instanceMethod yX2_layNew, Cond.selects RX2 yX2_layNew yX2_layNew, Cond.code yX2_layNew cX2_layNew 4 none, Cond.methodLink RX2 51 yX2_put, Cond.instanceMethod yX2_put, Cond.selects RX2 yX2_put yX2_put, Cond.code yX2_put cX2_put 4 none, Cond.static yX9_isCairn, Cond.code yX9_isCairn cX9_isCairn 1 (some .boolean), Cond.methodLink RX2 99 ⟨"KneelingStones$Parish", "sinsAtMost", "()Z"⟩, Cond.sameMethod "KneelingStones$Parish" "KneelingStones$Parish" "sinsAtMost" "()Z"]
def wsX9_unlike_r5 : List Cond := [Cond.instanceMethod ⟨"KneelingStones$Parish", "sinsAtMost", "()Z"⟩, Cond.selects RX0 ⟨"KneelingStones$Parish", "sinsAtMost", "()Z"⟩ yX0_sinsAtMost, Cond.instanceMethod yX0_sinsAtMost, Cond.initialized RX0, Cond.code yX0_sinsAtMost cX0_sinsAtMost 1 (some .boolean), Cond.code yX5_sinsAtMost cX5_sinsAtMost 1 (some .boolean), Cond.methodLink RX2 99 yX5_sinsAtMost, Cond.instanceMethod yX5_sinsAtMost, Cond.selects RX5 yX5_sinsAtMost yX5_sinsAtMost, Cond.selects RX6 ⟨"KneelingStones$Parish", "sinsAtMost", "()Z"⟩ yX5_sinsAtMost, Cond.selects RX7 ⟨"KneelingStones$Parish", "sinsAtMost", "()Z"⟩ yX5_sinsAtMost, Cond.methodLink RX2 109 ⟨"KneelingStones$Parish", "hidesOn", "()I"⟩, Cond.sameMethod "KneelingStones$Parish" "KneelingStones$Parish" "hidesOn" "()I", Cond.instanceMethod ⟨"KneelingStones$Parish", "hidesOn", "()I"⟩, Cond.selects RX0 ⟨"KneelingStones$Parish", "hidesOn", "()I"⟩ yX7_hidesOn, Cond.instanceMethod yX7_hidesOn, Cond.initialized RX7, Cond.code yX7_hidesOn cX7_hidesOn 1 (some .int), Cond.fieldLink RX7 9 "KneelingStones$Sly" "n" "I", Cond.sameField "KneelingStones$Sly" "KneelingStones$Parish" "n" "I", Cond.code yX5_hidesOn cX5_hidesOn 1 (some .int), Cond.methodLink RX2 109 yX5_hidesOn, Cond.instanceMethod yX5_hidesOn, Cond.selects RX5 yX5_hidesOn yX5_hidesOn]
def wsX9_unlike_r6 : List Cond := [Cond.selects RX6 ⟨"KneelingStones$Parish", "hidesOn", "()I"⟩ yX5_hidesOn, Cond.selects RX7 ⟨"KneelingStones$Parish", "hidesOn", "()I"⟩ yX7_hidesOn, Cond.methodLink RX2 112 yX2_steal, Cond.instanceMethod yX2_steal, Cond.selects RX2 yX2_steal yX2_steal, Cond.code yX2_steal cX2_steal 4 none, Cond.methodLink RX2 115 yX2_takeOff, Cond.instanceMethod yX2_takeOff, Cond.selects RX2 yX2_takeOff yX2_takeOff, Cond.code yX2_takeOff cX2_takeOff 4 none, Cond.methodLink RX2 55 Lib.Math.min.name, Cond.static Lib.Math.min.name, Cond.code Lib.Math.min.name Lib.Math.min.code 2 (some .int), Cond.methodLink RX2 118 yX2_markAt, Cond.instanceMethod yX2_markAt, Cond.selects RX2 yX2_markAt yX2_markAt, Cond.code yX2_markAt cX2_markAt 4 (some .int), Cond.methodLink RX2 69 yX1_floodsIn, Cond.instanceMethod yX1_floodsIn, Cond.selects RX1 yX1_floodsIn yX1_floodsIn, Cond.initialized RX1, Cond.code yX1_floodsIn cX1_floodsIn 2 (some .boolean), Cond.fieldLink RX1 16 "KneelingStones$Custom" "every" "I", Cond.methodLink RX2 74 yX2_flood]
def wsX9_unlike_r7 : List Cond := [Cond.instanceMethod yX2_flood, Cond.selects RX2 yX2_flood yX2_flood, Cond.code yX2_flood cX2_flood 2 none]
def wsX9_unlike : List Cond := .code yX9_unlike cX9_unlike 8 (some .int) :: ((wsX9_unlike_r1 ++ (wsX9_unlike_r2 ++ (wsX9_unlike_r3 ++ (wsX9_unlike_r4 ++ (wsX9_unlike_r5 ++ (wsX9_unlike_r6 ++ wsX9_unlike_r7)))))) ++ wsX90 ++ wsX20 ++ wsX00 ++ wsX50 ++ wsX60 ++ wsX70 ++ wsX10)
def wsX9_lie : List Cond := .code yX9_lie cX9_lie 5 (some .int) :: ([.fieldLink RX9 31 "KneelingStones" "now" "LKneelingStones$Moor;", .fieldLink RX9 127 "KneelingStones$Moor" "heights" "[I", .methodLink RX9 119 yX9_isCairn, .static yX9_isCairn, .initialized RX9, .code yX9_isCairn cX9_isCairn 1 (some .boolean), .methodLink RX9 147 yX2_pebbles, .instanceMethod yX2_pebbles, .selects RX2 yX2_pebbles yX2_pebbles, .initialized RX2, .code yX2_pebbles cX2_pebbles 3 (some .int), .fieldLink RX2 9 "KneelingStones$Moor" "heights" "[I", .methodLink RX9 212 yX2_surplusOver, .instanceMethod yX2_surplusOver, .selects RX2 yX2_surplusOver yX2_surplusOver, .code yX2_surplusOver cX2_surplusOver 5 (some .int)] ++ wsX90 ++ wsX20)
def wsX9_image : List Cond := .code yX9_image cX9_image 1 (some .int) :: ([.fieldLink RX9 35 "KneelingStones" "kept" "LKneelingStones$Moor;", .fieldLink RX9 31 "KneelingStones" "now" "LKneelingStones$Moor;", .fieldLink RX9 215 "KneelingStones" "isKept" "Z", .methodLink RX9 196 yX2_become, .instanceMethod yX2_become, .selects RX2 yX2_become yX2_become, .initialized RX2, .code yX2_become cX2_become 2 none, .fieldLink RX2 9 "KneelingStones$Moor" "heights" "[I", .methodLink RX2 22 arraycopyName, .native arraycopyName, .static arraycopyName, .initialized "java/lang/System", .fieldLink RX2 15 "KneelingStones$Moor" "marks" "[I", .fieldLink RX2 28 "KneelingStones$Moor" "week" "I", .fieldLink RX2 31 "KneelingStones$Moor" "last" "I", .fieldLink RX2 18 "KneelingStones$Moor" "seed" "I", .fieldLink RX2 34 "KneelingStones$Moor" "laid" "I", .fieldLink RX2 37 "KneelingStones$Moor" "taken" "I", .fieldLink RX2 40 "KneelingStones$Moor" "spilt" "I", .methodLink RX9 147 yX2_pebbles, .instanceMethod yX2_pebbles, .selects RX2 yX2_pebbles yX2_pebbles, .code yX2_pebbles cX2_pebbles 3 (some .int)] ++ wsX90 ++ wsX20)
def wsX9_restore : List Cond := .code yX9_restore cX9_restore 1 (some .int) :: ([.fieldLink RX9 215 "KneelingStones" "isKept" "Z", .fieldLink RX9 31 "KneelingStones" "now" "LKneelingStones$Moor;", .fieldLink RX9 35 "KneelingStones" "kept" "LKneelingStones$Moor;", .methodLink RX9 196 yX2_become, .instanceMethod yX2_become, .selects RX2 yX2_become yX2_become, .initialized RX2, .code yX2_become cX2_become 2 none, .fieldLink RX2 9 "KneelingStones$Moor" "heights" "[I", .methodLink RX2 22 arraycopyName, .native arraycopyName, .static arraycopyName, .initialized "java/lang/System", .fieldLink RX2 15 "KneelingStones$Moor" "marks" "[I", .fieldLink RX2 28 "KneelingStones$Moor" "week" "I", .fieldLink RX2 31 "KneelingStones$Moor" "last" "I", .fieldLink RX2 18 "KneelingStones$Moor" "seed" "I", .fieldLink RX2 34 "KneelingStones$Moor" "laid" "I", .fieldLink RX2 37 "KneelingStones$Moor" "taken" "I", .fieldLink RX2 40 "KneelingStones$Moor" "spilt" "I", .methodLink RX9 147 yX2_pebbles, .instanceMethod yX2_pebbles, .selects RX2 yX2_pebbles yX2_pebbles, .code yX2_pebbles cX2_pebbles 3 (some .int)] ++ wsX90 ++ wsX20)
def wsX9_count : List Cond := .code yX9_count cX9_count 2 (some .int) :: ([.fieldLink RX9 94 "KneelingStones" "parishCount" "I", .fieldLink RX9 72 "KneelingStones" "customCount" "I", .fieldLink RX9 31 "KneelingStones" "now" "LKneelingStones$Moor;", .fieldLink RX9 140 "KneelingStones$Moor" "week" "I", .fieldLink RX9 137 "KneelingStones$Moor" "seed" "I", .fieldLink RX9 219 "KneelingStones$Moor" "last" "I", .fieldLink RX9 222 "KneelingStones$Moor" "laid" "I", .fieldLink RX9 225 "KneelingStones$Moor" "taken" "I", .fieldLink RX9 228 "KneelingStones$Moor" "spilt" "I", .fieldLink RX9 12 "KneelingStones" "page" "LKneelingStones$Page;", .fieldLink RX9 56 "KneelingStones$Page" "length" "I", .methodLink RX9 147 yX2_pebbles, .instanceMethod yX2_pebbles, .selects RX2 yX2_pebbles yX2_pebbles, .initialized RX2, .code yX2_pebbles cX2_pebbles 3 (some .int), .fieldLink RX2 9 "KneelingStones$Moor" "heights" "[I"] ++ wsX90 ++ wsX20 ++ wsX40)
def wsX9_withCairns : List Cond := .code yX9_withCairns cX9_withCairns 7 (some .long) :: ([.constantLong RX9 243 (31), .fieldLink RX9 31 "KneelingStones" "now" "LKneelingStones$Moor;", .fieldLink RX9 127 "KneelingStones$Moor" "heights" "[I", .methodLink RX9 133 yX2_markAt, .instanceMethod yX2_markAt, .selects RX2 yX2_markAt yX2_markAt, .initialized RX2, .code yX2_markAt cX2_markAt 4 (some .int), .fieldLink RX2 9 "KneelingStones$Moor" "heights" "[I", .fieldLink RX2 15 "KneelingStones$Moor" "marks" "[I", .static yX9_isCairn, .initialized RX9, .code yX9_isCairn cX9_isCairn 1 (some .boolean)] ++ wsX90 ++ wsX20)
def wsX9_withParishes_r1 : List Cond := [Cond.fieldLink RX9 24 "KneelingStones" "parishes" "[LKneelingStones$Parish;", Cond.constantLong RX9 243 (31), Cond.methodLink RX9 118 ⟨"KneelingStones$Parish", "told", "(I)I"⟩, Cond.sameMethod "KneelingStones$Parish" "KneelingStones$Parish" "told" "(I)I", Cond.selects RX0 ⟨"KneelingStones$Parish", "told", "(I)I"⟩ yX5_told, Cond.instanceMethod yX5_told, Cond.initialized RX5, Cond.code yX5_told cX5_told 2 (some .int), Cond.fieldLink RX5 9 "KneelingStones$Parish" "n" "I", Cond.fieldLink RX5 19 "KneelingStones$Parish" "walkers" "I", Cond.fieldLink RX5 22 "KneelingStones$Parish" "wish" "I", Cond.fieldLink RX5 25 "KneelingStones$Parish" "sin" "I", Cond.methodLink RX5 15 ⟨"KneelingStones$Parish", "kind", "()I"⟩, Cond.sameMethod "KneelingStones$Parish" "KneelingStones$Parish" "kind" "()I", Cond.instanceMethod ⟨"KneelingStones$Parish", "kind", "()I"⟩, Cond.selects RX0 ⟨"KneelingStones$Parish", "kind", "()I"⟩ yX0_kind, Cond.instanceMethod yX0_kind, Cond.initialized RX0, Cond.code yX0_kind cX0_kind 1 (some .int), Cond.code yX5_kind cX5_kind 1 (some .int), Cond.methodLink RX5 15 yX5_kind, Cond.instanceMethod yX5_kind, Cond.selects RX5 yX5_kind yX5_kind, Cond.selects RX6 ⟨"KneelingStones$Parish", "kind", "()I"⟩ yX6_kind]
def wsX9_withParishes_r2 : List Cond := [Cond.instanceMethod yX6_kind, Cond.initialized RX6, Cond.code yX6_kind cX6_kind 1 (some .int), Cond.selects RX7 ⟨"KneelingStones$Parish", "kind", "()I"⟩ yX7_kind, Cond.instanceMethod yX7_kind, Cond.initialized RX7, Cond.code yX7_kind cX7_kind 1 (some .int), Cond.methodLink RX5 28 ⟨"KneelingStones$Parish", "gift", "()I"⟩, Cond.sameMethod "KneelingStones$Parish" "KneelingStones$Parish" "gift" "()I", Cond.selects RX0 ⟨"KneelingStones$Parish", "gift", "()I"⟩ yX5_gift, Cond.instanceMethod yX5_gift, Cond.code yX5_gift cX5_gift 1 (some .int), Cond.methodLink RX5 28 yX5_gift, Cond.selects RX5 yX5_gift yX5_gift, Cond.instanceMethod ⟨"KneelingStones$Parish", "gift", "()I"⟩, Cond.selects RX6 ⟨"KneelingStones$Parish", "gift", "()I"⟩ yX6_gift, Cond.instanceMethod yX6_gift, Cond.code yX6_gift cX6_gift 1 (some .int), Cond.fieldLink RX6 9 "KneelingStones$Pious" "n" "I", Cond.sameField "KneelingStones$Pious" "KneelingStones$Parish" "n" "I", Cond.selects RX7 ⟨"KneelingStones$Parish", "gift", "()I"⟩ yX5_gift, Cond.methodLink RX9 118 yX5_told, Cond.selects RX5 yX5_told yX5_told, Cond.selects RX6 ⟨"KneelingStones$Parish", "told", "(I)I"⟩ yX5_told]
def wsX9_withParishes_r3 : List Cond := [Cond.selects RX7 ⟨"KneelingStones$Parish", "told", "(I)I"⟩ yX5_told]
def wsX9_withParishes : List Cond := .code yX9_withParishes cX9_withParishes 8 (some .long) :: ((wsX9_withParishes_r1 ++ (wsX9_withParishes_r2 ++ wsX9_withParishes_r3)) ++ wsX90 ++ wsX00 ++ wsX50 ++ wsX60 ++ wsX70)
def wsX9_withCustoms_r1 : List Cond := [Cond.fieldLink RX9 18 "KneelingStones" "customs" "[LKneelingStones$Custom;", Cond.constantLong RX9 243 (31), Cond.fieldLink RX9 38 "KneelingStones" "dream" "LKneelingStones$Moor;", Cond.fieldLink RX9 31 "KneelingStones" "now" "LKneelingStones$Moor;", Cond.fieldLink RX9 24 "KneelingStones" "parishes" "[LKneelingStones$Parish;", Cond.fieldLink RX9 127 "KneelingStones$Moor" "heights" "[I", Cond.methodLink RX9 83 yX1_told, Cond.instanceMethod yX1_told, Cond.selects RX1 yX1_told yX1_told, Cond.initialized RX1, Cond.code yX1_told cX1_told 2 (some .int), Cond.fieldLink RX1 7 "KneelingStones$Custom" "wishRule" "I", Cond.fieldLink RX1 13 "KneelingStones$Custom" "sinRule" "I", Cond.fieldLink RX1 16 "KneelingStones$Custom" "every" "I", Cond.methodLink RX9 196 yX2_become, Cond.instanceMethod yX2_become, Cond.selects RX2 yX2_become yX2_become, Cond.initialized RX2, Cond.code yX2_become cX2_become 2 none, Cond.fieldLink RX2 9 "KneelingStones$Moor" "heights" "[I", Cond.methodLink RX2 22 arraycopyName, Cond.native arraycopyName, Cond.static arraycopyName, Cond.initialized "java/lang/System"]
def wsX9_withCustoms_r2 : List Cond := [Cond.fieldLink RX2 15 "KneelingStones$Moor" "marks" "[I", Cond.fieldLink RX2 28 "KneelingStones$Moor" "week" "I", Cond.fieldLink RX2 31 "KneelingStones$Moor" "last" "I", Cond.fieldLink RX2 18 "KneelingStones$Moor" "seed" "I", Cond.fieldLink RX2 34 "KneelingStones$Moor" "laid" "I", Cond.fieldLink RX2 37 "KneelingStones$Moor" "taken" "I", Cond.fieldLink RX2 40 "KneelingStones$Moor" "spilt" "I", Cond.methodLink RX9 143 yX2_goOneWeek, Cond.instanceMethod yX2_goOneWeek, Cond.selects RX2 yX2_goOneWeek yX2_goOneWeek, Cond.code yX2_goOneWeek cX2_goOneWeek 6 none, Cond.fieldLink RX2 60 "KneelingStones$Parish" "walkers" "I", Cond.methodLink RX2 65 yX2_walk, Cond.instanceMethod yX2_walk, Cond.selects RX2 yX2_walk yX2_walk, Cond.code yX2_walk cX2_walk 5 none, Cond.fieldLink RX2 81 "KneelingStones$Parish" "wish" "I", Cond.fieldLink RX2 84 "KneelingStones$Custom" "wishRule" "I", Cond.fieldLink RX2 96 "KneelingStones$Parish" "sin" "I", Cond.fieldLink RX2 106 "KneelingStones$Custom" "sinRule" "I", Cond.methodLink RX2 77 yX2_draw, Cond.instanceMethod yX2_draw, Cond.selects RX2 yX2_draw yX2_draw, Cond.code yX2_draw cX2_draw 1 (some .int)]
def wsX9_withCustoms_r3 : List Cond := [Cond.constantLong RX2 124 (1103515245), Cond.constantLong RX2 126 (12345), Cond.constantLong RX2 128 (2147483647), Cond.methodLink RX2 87 yX2_cairnBy, Cond.instanceMethod yX2_cairnBy, Cond.selects RX2 yX2_cairnBy yX2_cairnBy, Cond.code yX2_cairnBy cX2_cairnBy 3 (some .int), Cond.methodLink RX2 103 yX2_most, Cond.instanceMethod yX2_most, Cond.selects RX2 yX2_most yX2_most, Cond.code yX2_most cX2_most 3 (some .int), Cond.methodLink RX2 121 yX2_fewest, Cond.instanceMethod yX2_fewest, Cond.selects RX2 yX2_fewest yX2_fewest, Cond.code yX2_fewest cX2_fewest 3 (some .int), Cond.methodLink RX2 90 ⟨"KneelingStones$Parish", "gift", "()I"⟩, Cond.sameMethod "KneelingStones$Parish" "KneelingStones$Parish" "gift" "()I", Cond.selects RX0 ⟨"KneelingStones$Parish", "gift", "()I"⟩ yX5_gift, Cond.instanceMethod yX5_gift, Cond.initialized RX5, Cond.code yX5_gift cX5_gift 1 (some .int), Cond.methodLink RX2 90 yX5_gift, Cond.selects RX5 yX5_gift yX5_gift, Cond.instanceMethod ⟨"KneelingStones$Parish", "gift", "()I"⟩]
def wsX9_withCustoms_r4 : List Cond := [Cond.selects RX6 ⟨"KneelingStones$Parish", "gift", "()I"⟩ yX6_gift, Cond.instanceMethod yX6_gift, Cond.initialized RX6, Cond.code yX6_gift cX6_gift 1 (some .int), Cond.fieldLink RX6 9 "KneelingStones$Pious" "n" "I", Cond.sameField "KneelingStones$Pious" "KneelingStones$Parish" "n" "I", Cond.selects RX7 ⟨"KneelingStones$Parish", "gift", "()I"⟩ yX5_gift, Cond.methodLink RX2 93 yX2_layNew, Cond.instanceMethod yX2_layNew, Cond.selects RX2 yX2_layNew yX2_layNew, Cond.code yX2_layNew cX2_layNew 4 none, Cond.methodLink RX2 51 yX2_put, Cond.instanceMethod yX2_put, Cond.selects RX2 yX2_put yX2_put, Cond.code yX2_put cX2_put 4 none, Cond.static yX9_isCairn, Cond.initialized RX9, Cond.code yX9_isCairn cX9_isCairn 1 (some .boolean), Cond.methodLink RX2 99 ⟨"KneelingStones$Parish", "sinsAtMost", "()Z"⟩, Cond.sameMethod "KneelingStones$Parish" "KneelingStones$Parish" "sinsAtMost" "()Z", Cond.instanceMethod ⟨"KneelingStones$Parish", "sinsAtMost", "()Z"⟩, Cond.selects RX0 ⟨"KneelingStones$Parish", "sinsAtMost", "()Z"⟩ yX0_sinsAtMost, Cond.instanceMethod yX0_sinsAtMost, Cond.initialized RX0]
def wsX9_withCustoms_r5 : List Cond := [Cond.code yX0_sinsAtMost cX0_sinsAtMost 1 (some .boolean), Cond.code yX5_sinsAtMost cX5_sinsAtMost 1 (some .boolean), Cond.methodLink RX2 99 yX5_sinsAtMost, Cond.instanceMethod yX5_sinsAtMost, Cond.selects RX5 yX5_sinsAtMost yX5_sinsAtMost, Cond.selects RX6 ⟨"KneelingStones$Parish", "sinsAtMost", "()Z"⟩ yX5_sinsAtMost, Cond.selects RX7 ⟨"KneelingStones$Parish", "sinsAtMost", "()Z"⟩ yX5_sinsAtMost, Cond.methodLink RX2 109 ⟨"KneelingStones$Parish", "hidesOn", "()I"⟩, Cond.sameMethod "KneelingStones$Parish" "KneelingStones$Parish" "hidesOn" "()I", Cond.instanceMethod ⟨"KneelingStones$Parish", "hidesOn", "()I"⟩, Cond.selects RX0 ⟨"KneelingStones$Parish", "hidesOn", "()I"⟩ yX7_hidesOn, Cond.instanceMethod yX7_hidesOn, Cond.initialized RX7, Cond.code yX7_hidesOn cX7_hidesOn 1 (some .int), Cond.fieldLink RX7 9 "KneelingStones$Sly" "n" "I", Cond.sameField "KneelingStones$Sly" "KneelingStones$Parish" "n" "I", Cond.code yX5_hidesOn cX5_hidesOn 1 (some .int), Cond.methodLink RX2 109 yX5_hidesOn, Cond.instanceMethod yX5_hidesOn, Cond.selects RX5 yX5_hidesOn yX5_hidesOn, Cond.selects RX6 ⟨"KneelingStones$Parish", "hidesOn", "()I"⟩ yX5_hidesOn, Cond.selects RX7 ⟨"KneelingStones$Parish", "hidesOn", "()I"⟩ yX7_hidesOn, Cond.methodLink RX2 112 yX2_steal, Cond.instanceMethod yX2_steal]
def wsX9_withCustoms_r6 : List Cond := [Cond.selects RX2 yX2_steal yX2_steal, Cond.code yX2_steal cX2_steal 4 none, Cond.methodLink RX2 115 yX2_takeOff, Cond.instanceMethod yX2_takeOff, Cond.selects RX2 yX2_takeOff yX2_takeOff, Cond.code yX2_takeOff cX2_takeOff 4 none, Cond.methodLink RX2 55 Lib.Math.min.name, Cond.static Lib.Math.min.name, Cond.initialized "java/lang/Math", Cond.code Lib.Math.min.name Lib.Math.min.code 2 (some .int), Cond.methodLink RX2 118 yX2_markAt, Cond.instanceMethod yX2_markAt, Cond.selects RX2 yX2_markAt yX2_markAt, Cond.code yX2_markAt cX2_markAt 4 (some .int), Cond.methodLink RX2 69 yX1_floodsIn, Cond.instanceMethod yX1_floodsIn, Cond.selects RX1 yX1_floodsIn yX1_floodsIn, Cond.code yX1_floodsIn cX1_floodsIn 2 (some .boolean), Cond.methodLink RX2 74 yX2_flood, Cond.instanceMethod yX2_flood, Cond.selects RX2 yX2_flood yX2_flood, Cond.code yX2_flood cX2_flood 2 none]
def wsX9_withCustoms : List Cond := .code yX9_withCustoms cX9_withCustoms 8 (some .long) :: ((wsX9_withCustoms_r1 ++ (wsX9_withCustoms_r2 ++ (wsX9_withCustoms_r3 ++ (wsX9_withCustoms_r4 ++ (wsX9_withCustoms_r5 ++ wsX9_withCustoms_r6))))) ++ wsX90 ++ wsX20 ++ wsX10 ++ wsX00 ++ wsX50 ++ wsX60 ++ wsX70)
def wsX9_digest_r1 : List Cond := [Cond.constantLong RX9 231 (563), Cond.constantLong RX9 243 (31), Cond.fieldLink RX9 12 "KneelingStones" "page" "LKneelingStones$Page;", Cond.fieldLink RX9 56 "KneelingStones$Page" "length" "I", Cond.fieldLink RX9 248 "KneelingStones$Page" "codes" "[I", Cond.methodLink RX9 233 yX9_withCairns, Cond.instanceMethod yX9_withCairns, Cond.selects RX9 yX9_withCairns yX9_withCairns, Cond.initialized RX9, Cond.code yX9_withCairns cX9_withCairns 7 (some .long), Cond.fieldLink RX9 31 "KneelingStones" "now" "LKneelingStones$Moor;", Cond.fieldLink RX9 127 "KneelingStones$Moor" "heights" "[I", Cond.methodLink RX9 133 yX2_markAt, Cond.instanceMethod yX2_markAt, Cond.selects RX2 yX2_markAt yX2_markAt, Cond.initialized RX2, Cond.code yX2_markAt cX2_markAt 4 (some .int), Cond.fieldLink RX2 9 "KneelingStones$Moor" "heights" "[I", Cond.fieldLink RX2 15 "KneelingStones$Moor" "marks" "[I", Cond.static yX9_isCairn, Cond.code yX9_isCairn cX9_isCairn 1 (some .boolean), Cond.methodLink RX9 237 yX9_withParishes, Cond.instanceMethod yX9_withParishes, Cond.selects RX9 yX9_withParishes yX9_withParishes]
def wsX9_digest_r2 : List Cond := [Cond.code yX9_withParishes cX9_withParishes 8 (some .long), Cond.fieldLink RX9 24 "KneelingStones" "parishes" "[LKneelingStones$Parish;", Cond.methodLink RX9 118 ⟨"KneelingStones$Parish", "told", "(I)I"⟩, Cond.sameMethod "KneelingStones$Parish" "KneelingStones$Parish" "told" "(I)I", Cond.selects RX0 ⟨"KneelingStones$Parish", "told", "(I)I"⟩ yX5_told, Cond.instanceMethod yX5_told, Cond.initialized RX5, Cond.code yX5_told cX5_told 2 (some .int), Cond.fieldLink RX5 9 "KneelingStones$Parish" "n" "I", Cond.fieldLink RX5 19 "KneelingStones$Parish" "walkers" "I", Cond.fieldLink RX5 22 "KneelingStones$Parish" "wish" "I", Cond.fieldLink RX5 25 "KneelingStones$Parish" "sin" "I", Cond.methodLink RX5 15 ⟨"KneelingStones$Parish", "kind", "()I"⟩, Cond.sameMethod "KneelingStones$Parish" "KneelingStones$Parish" "kind" "()I", Cond.instanceMethod ⟨"KneelingStones$Parish", "kind", "()I"⟩, Cond.selects RX0 ⟨"KneelingStones$Parish", "kind", "()I"⟩ yX0_kind, Cond.instanceMethod yX0_kind, Cond.initialized RX0, Cond.code yX0_kind cX0_kind 1 (some .int), Cond.code yX5_kind cX5_kind 1 (some .int), Cond.methodLink RX5 15 yX5_kind, Cond.instanceMethod yX5_kind, Cond.selects RX5 yX5_kind yX5_kind, Cond.selects RX6 ⟨"KneelingStones$Parish", "kind", "()I"⟩ yX6_kind]
def wsX9_digest_r3 : List Cond := [Cond.instanceMethod yX6_kind, Cond.initialized RX6, Cond.code yX6_kind cX6_kind 1 (some .int), Cond.selects RX7 ⟨"KneelingStones$Parish", "kind", "()I"⟩ yX7_kind, Cond.instanceMethod yX7_kind, Cond.initialized RX7, Cond.code yX7_kind cX7_kind 1 (some .int), Cond.methodLink RX5 28 ⟨"KneelingStones$Parish", "gift", "()I"⟩, Cond.sameMethod "KneelingStones$Parish" "KneelingStones$Parish" "gift" "()I", Cond.selects RX0 ⟨"KneelingStones$Parish", "gift", "()I"⟩ yX5_gift, Cond.instanceMethod yX5_gift, Cond.code yX5_gift cX5_gift 1 (some .int), Cond.methodLink RX5 28 yX5_gift, Cond.selects RX5 yX5_gift yX5_gift, Cond.instanceMethod ⟨"KneelingStones$Parish", "gift", "()I"⟩, Cond.selects RX6 ⟨"KneelingStones$Parish", "gift", "()I"⟩ yX6_gift, Cond.instanceMethod yX6_gift, Cond.code yX6_gift cX6_gift 1 (some .int), Cond.fieldLink RX6 9 "KneelingStones$Pious" "n" "I", Cond.sameField "KneelingStones$Pious" "KneelingStones$Parish" "n" "I", Cond.selects RX7 ⟨"KneelingStones$Parish", "gift", "()I"⟩ yX5_gift, Cond.methodLink RX9 118 yX5_told, Cond.selects RX5 yX5_told yX5_told, Cond.selects RX6 ⟨"KneelingStones$Parish", "told", "(I)I"⟩ yX5_told]
def wsX9_digest_r4 : List Cond := [Cond.selects RX7 ⟨"KneelingStones$Parish", "told", "(I)I"⟩ yX5_told, Cond.methodLink RX9 240 yX9_withCustoms, Cond.instanceMethod yX9_withCustoms, Cond.selects RX9 yX9_withCustoms yX9_withCustoms, Cond.code yX9_withCustoms cX9_withCustoms 8 (some .long), Cond.fieldLink RX9 18 "KneelingStones" "customs" "[LKneelingStones$Custom;", Cond.fieldLink RX9 38 "KneelingStones" "dream" "LKneelingStones$Moor;", Cond.methodLink RX9 83 yX1_told, Cond.instanceMethod yX1_told, Cond.selects RX1 yX1_told yX1_told, Cond.initialized RX1, Cond.code yX1_told cX1_told 2 (some .int), Cond.fieldLink RX1 7 "KneelingStones$Custom" "wishRule" "I", Cond.fieldLink RX1 13 "KneelingStones$Custom" "sinRule" "I", Cond.fieldLink RX1 16 "KneelingStones$Custom" "every" "I", Cond.methodLink RX9 196 yX2_become, Cond.instanceMethod yX2_become, Cond.selects RX2 yX2_become yX2_become, Cond.code yX2_become cX2_become 2 none, Cond.methodLink RX2 22 arraycopyName, Cond.native arraycopyName, Cond.static arraycopyName, Cond.initialized "java/lang/System", Cond.fieldLink RX2 28 "KneelingStones$Moor" "week" "I"]
def wsX9_digest_r5 : List Cond := [Cond.fieldLink RX2 31 "KneelingStones$Moor" "last" "I", Cond.fieldLink RX2 18 "KneelingStones$Moor" "seed" "I", Cond.fieldLink RX2 34 "KneelingStones$Moor" "laid" "I", Cond.fieldLink RX2 37 "KneelingStones$Moor" "taken" "I", Cond.fieldLink RX2 40 "KneelingStones$Moor" "spilt" "I", Cond.methodLink RX9 143 yX2_goOneWeek, Cond.instanceMethod yX2_goOneWeek, Cond.selects RX2 yX2_goOneWeek yX2_goOneWeek, Cond.code yX2_goOneWeek cX2_goOneWeek 6 none, Cond.fieldLink RX2 60 "KneelingStones$Parish" "walkers" "I", Cond.methodLink RX2 65 yX2_walk, Cond.instanceMethod yX2_walk, Cond.selects RX2 yX2_walk yX2_walk, Cond.code yX2_walk cX2_walk 5 none, Cond.fieldLink RX2 81 "KneelingStones$Parish" "wish" "I", Cond.fieldLink RX2 84 "KneelingStones$Custom" "wishRule" "I", Cond.fieldLink RX2 96 "KneelingStones$Parish" "sin" "I", Cond.fieldLink RX2 106 "KneelingStones$Custom" "sinRule" "I", Cond.methodLink RX2 77 yX2_draw, Cond.instanceMethod yX2_draw, Cond.selects RX2 yX2_draw yX2_draw, Cond.code yX2_draw cX2_draw 1 (some .int), Cond.constantLong RX2 124 (1103515245), Cond.constantLong RX2 126 (12345)]
def wsX9_digest_r6 : List Cond := [Cond.constantLong RX2 128 (2147483647), Cond.methodLink RX2 87 yX2_cairnBy, Cond.instanceMethod yX2_cairnBy, Cond.selects RX2 yX2_cairnBy yX2_cairnBy, Cond.code yX2_cairnBy cX2_cairnBy 3 (some .int), Cond.methodLink RX2 103 yX2_most, Cond.instanceMethod yX2_most, Cond.selects RX2 yX2_most yX2_most, Cond.code yX2_most cX2_most 3 (some .int), Cond.methodLink RX2 121 yX2_fewest, Cond.instanceMethod yX2_fewest, Cond.selects RX2 yX2_fewest yX2_fewest, Cond.code yX2_fewest cX2_fewest 3 (some .int), Cond.methodLink RX2 90 ⟨"KneelingStones$Parish", "gift", "()I"⟩, Cond.methodLink RX2 90 yX5_gift, Cond.methodLink RX2 93 yX2_layNew, Cond.instanceMethod yX2_layNew, Cond.selects RX2 yX2_layNew yX2_layNew, Cond.code yX2_layNew cX2_layNew 4 none, Cond.methodLink RX2 51 yX2_put, Cond.instanceMethod yX2_put, Cond.selects RX2 yX2_put yX2_put, Cond.code yX2_put cX2_put 4 none, Cond.methodLink RX2 99 ⟨"KneelingStones$Parish", "sinsAtMost", "()Z"⟩]
def wsX9_digest_r7 : List Cond := [Cond.sameMethod "KneelingStones$Parish" "KneelingStones$Parish" "sinsAtMost" "()Z", Cond.instanceMethod ⟨"KneelingStones$Parish", "sinsAtMost", "()Z"⟩, Cond.selects RX0 ⟨"KneelingStones$Parish", "sinsAtMost", "()Z"⟩ yX0_sinsAtMost, Cond.instanceMethod yX0_sinsAtMost, Cond.code yX0_sinsAtMost cX0_sinsAtMost 1 (some .boolean), Cond.code yX5_sinsAtMost cX5_sinsAtMost 1 (some .boolean), Cond.methodLink RX2 99 yX5_sinsAtMost, Cond.instanceMethod yX5_sinsAtMost, Cond.selects RX5 yX5_sinsAtMost yX5_sinsAtMost, Cond.selects RX6 ⟨"KneelingStones$Parish", "sinsAtMost", "()Z"⟩ yX5_sinsAtMost, Cond.selects RX7 ⟨"KneelingStones$Parish", "sinsAtMost", "()Z"⟩ yX5_sinsAtMost, Cond.methodLink RX2 109 ⟨"KneelingStones$Parish", "hidesOn", "()I"⟩, Cond.sameMethod "KneelingStones$Parish" "KneelingStones$Parish" "hidesOn" "()I", Cond.instanceMethod ⟨"KneelingStones$Parish", "hidesOn", "()I"⟩, Cond.selects RX0 ⟨"KneelingStones$Parish", "hidesOn", "()I"⟩ yX7_hidesOn, Cond.instanceMethod yX7_hidesOn, Cond.code yX7_hidesOn cX7_hidesOn 1 (some .int), Cond.fieldLink RX7 9 "KneelingStones$Sly" "n" "I", Cond.sameField "KneelingStones$Sly" "KneelingStones$Parish" "n" "I", Cond.code yX5_hidesOn cX5_hidesOn 1 (some .int), Cond.methodLink RX2 109 yX5_hidesOn, Cond.instanceMethod yX5_hidesOn, Cond.selects RX5 yX5_hidesOn yX5_hidesOn, Cond.selects RX6 ⟨"KneelingStones$Parish", "hidesOn", "()I"⟩ yX5_hidesOn]
def wsX9_digest_r8 : List Cond := [Cond.selects RX7 ⟨"KneelingStones$Parish", "hidesOn", "()I"⟩ yX7_hidesOn, Cond.methodLink RX2 112 yX2_steal, Cond.instanceMethod yX2_steal, Cond.selects RX2 yX2_steal yX2_steal, Cond.code yX2_steal cX2_steal 4 none, Cond.methodLink RX2 115 yX2_takeOff, Cond.instanceMethod yX2_takeOff, Cond.selects RX2 yX2_takeOff yX2_takeOff, Cond.code yX2_takeOff cX2_takeOff 4 none, Cond.methodLink RX2 55 Lib.Math.min.name, Cond.static Lib.Math.min.name, Cond.initialized "java/lang/Math", Cond.code Lib.Math.min.name Lib.Math.min.code 2 (some .int), Cond.methodLink RX2 118 yX2_markAt, Cond.methodLink RX2 69 yX1_floodsIn, Cond.instanceMethod yX1_floodsIn, Cond.selects RX1 yX1_floodsIn yX1_floodsIn, Cond.code yX1_floodsIn cX1_floodsIn 2 (some .boolean), Cond.methodLink RX2 74 yX2_flood, Cond.instanceMethod yX2_flood, Cond.selects RX2 yX2_flood yX2_flood, Cond.code yX2_flood cX2_flood 2 none, Cond.methodLink RX9 245 yX9_bounds, Cond.instanceMethod yX9_bounds]
def wsX9_digest_r9 : List Cond := [Cond.selects RX9 yX9_bounds yX9_bounds, Cond.code yX9_bounds cX9_bounds 3 (some .int), Cond.fieldLink RX9 48 "KneelingStones" "ways" "LKneelingStones$Ways;", Cond.methodLink RX9 183 yX8_fewestSins, Cond.instanceMethod yX8_fewestSins, Cond.selects RX8 yX8_fewestSins yX8_fewestSins, Cond.initialized RX8, Cond.code yX8_fewestSins cX8_fewestSins 4 (some .int), Cond.methodLink RX8 18 yX8_leastCost, Cond.instanceMethod yX8_leastCost, Cond.selects RX8 yX8_leastCost yX8_leastCost, Cond.code yX8_leastCost cX8_leastCost 4 (some .int), Cond.methodLink RX8 29 yX8_start, Cond.instanceMethod yX8_start, Cond.selects RX8 yX8_start yX8_start, Cond.code yX8_start cX8_start 1 none, Cond.fieldLink RX8 11 "KneelingStones$Ways" "row" "[I", Cond.methodLink RX8 58 yJ7_fill_53178, Cond.static yJ7_fill_53178, Cond.initialized RJ7, Cond.code yJ7_fill_53178 cJ7_fill_53178 4 none, Cond.methodLink RX8 32 yX8_addAllBut, Cond.instanceMethod yX8_addAllBut, Cond.selects RX8 yX8_addAllBut yX8_addAllBut]
def wsX9_digest_r10 : List Cond := [Cond.code yX8_addAllBut cX8_addAllBut 7 none, Cond.fieldLink RX8 40 "KneelingStones$Parish" "walkers" "I", Cond.methodLink RX8 46 yX8_addWalker, Cond.instanceMethod yX8_addWalker, Cond.selects RX8 yX8_addWalker yX8_addWalker, Cond.code yX8_addWalker cX8_addWalker 7 none, Cond.fieldLink RX8 15 "KneelingStones$Ways" "next" "[I", Cond.methodLink RX8 50 ⟨"KneelingStones$Parish", "canSin", "()Z"⟩, Cond.sameMethod "KneelingStones$Parish" "KneelingStones$Parish" "canSin" "()Z", Cond.selects RX0 ⟨"KneelingStones$Parish", "canSin", "()Z"⟩ yX5_canSin, Cond.instanceMethod yX5_canSin, Cond.code yX5_canSin cX5_canSin 1 (some .boolean), Cond.methodLink RX8 50 yX5_canSin, Cond.selects RX5 yX5_canSin yX5_canSin, Cond.selects RX6 ⟨"KneelingStones$Parish", "canSin", "()Z"⟩ yX5_canSin, Cond.selects RX7 ⟨"KneelingStones$Parish", "canSin", "()Z"⟩ yX5_canSin, Cond.methodLink RX8 64 ⟨"KneelingStones$Parish", "canWish", "()Z"⟩, Cond.sameMethod "KneelingStones$Parish" "KneelingStones$Parish" "canWish" "()Z", Cond.selects RX0 ⟨"KneelingStones$Parish", "canWish", "()Z"⟩ yX5_canWish, Cond.instanceMethod yX5_canWish, Cond.code yX5_canWish cX5_canWish 1 (some .boolean), Cond.methodLink RX8 64 yX5_canWish, Cond.selects RX5 yX5_canWish yX5_canWish, Cond.selects RX6 ⟨"KneelingStones$Parish", "canWish", "()Z"⟩ yX5_canWish]
def wsX9_digest_r11 : List Cond := [Cond.selects RX7 ⟨"KneelingStones$Parish", "canWish", "()Z"⟩ yX5_canWish, Cond.methodLink RX8 67 ⟨"KneelingStones$Parish", "gift", "()I"⟩, Cond.methodLink RX8 67 yX5_gift, Cond.methodLink RX8 70 yX8_offer, Cond.instanceMethod yX8_offer, Cond.selects RX8 yX8_offer yX8_offer, Cond.code yX8_offer cX8_offer 3 none, Cond.methodLink RX8 54 ⟨"KneelingStones$Parish", "loss", "()I"⟩, Cond.sameMethod "KneelingStones$Parish" "KneelingStones$Parish" "loss" "()I", Cond.instanceMethod ⟨"KneelingStones$Parish", "loss", "()I"⟩, Cond.selects RX0 ⟨"KneelingStones$Parish", "loss", "()I"⟩ yX7_loss, Cond.instanceMethod yX7_loss, Cond.code yX7_loss cX7_loss 1 (some .int), Cond.code yX5_loss cX5_loss 1 (some .int), Cond.methodLink RX8 54 yX5_loss, Cond.instanceMethod yX5_loss, Cond.selects RX5 yX5_loss yX5_loss, Cond.selects RX6 ⟨"KneelingStones$Parish", "loss", "()I"⟩ yX5_loss, Cond.selects RX7 ⟨"KneelingStones$Parish", "loss", "()I"⟩ yX7_loss, Cond.methodLink RX8 74 ⟨"KneelingStones$Parish", "canRest", "()Z"⟩, Cond.sameMethod "KneelingStones$Parish" "KneelingStones$Parish" "canRest" "()Z", Cond.selects RX0 ⟨"KneelingStones$Parish", "canRest", "()Z"⟩ yX5_canRest, Cond.instanceMethod yX5_canRest, Cond.code yX5_canRest cX5_canRest 1 (some .boolean)]
def wsX9_digest_r12 : List Cond := [Cond.methodLink RX8 74 yX5_canRest, Cond.selects RX5 yX5_canRest yX5_canRest, Cond.selects RX6 ⟨"KneelingStones$Parish", "canRest", "()Z"⟩ yX5_canRest, Cond.selects RX7 ⟨"KneelingStones$Parish", "canRest", "()Z"⟩ yX5_canRest, Cond.methodLink RX8 36 yX8_costOf, Cond.instanceMethod yX8_costOf, Cond.selects RX8 yX8_costOf yX8_costOf, Cond.code yX8_costOf cX8_costOf 3 (some .int), Cond.methodLink RX9 187 yX8_mostSins, Cond.instanceMethod yX8_mostSins, Cond.selects RX8 yX8_mostSins yX8_mostSins, Cond.code yX8_mostSins cX8_mostSins 4 (some .int), Cond.methodLink RX9 190 yX8_whoMust, Cond.instanceMethod yX8_whoMust, Cond.selects RX8 yX8_whoMust yX8_whoMust, Cond.code yX8_whoMust cX8_whoMust 5 (some .int), Cond.methodLink RX8 22 yX8_canBeWithout, Cond.instanceMethod yX8_canBeWithout, Cond.selects RX8 yX8_canBeWithout yX8_canBeWithout, Cond.code yX8_canBeWithout cX8_canBeWithout 6 (some .boolean), Cond.methodLink RX9 193 yX8_whoMay, Cond.instanceMethod yX8_whoMay, Cond.selects RX8 yX8_whoMay yX8_whoMay, Cond.code yX8_whoMay cX8_whoMay 5 (some .int)]
def wsX9_digest_r13 : List Cond := [Cond.methodLink RX8 26 yX8_canBeWith, Cond.instanceMethod yX8_canBeWith, Cond.selects RX8 yX8_canBeWith yX8_canBeWith, Cond.code yX8_canBeWith cX8_canBeWith 6 (some .boolean), Cond.methodLink RX9 251 yX9_count, Cond.instanceMethod yX9_count, Cond.selects RX9 yX9_count yX9_count, Cond.code yX9_count cX9_count 2 (some .int), Cond.fieldLink RX9 94 "KneelingStones" "parishCount" "I", Cond.fieldLink RX9 72 "KneelingStones" "customCount" "I", Cond.fieldLink RX9 140 "KneelingStones$Moor" "week" "I", Cond.fieldLink RX9 137 "KneelingStones$Moor" "seed" "I", Cond.fieldLink RX9 219 "KneelingStones$Moor" "last" "I", Cond.fieldLink RX9 222 "KneelingStones$Moor" "laid" "I", Cond.fieldLink RX9 225 "KneelingStones$Moor" "taken" "I", Cond.fieldLink RX9 228 "KneelingStones$Moor" "spilt" "I", Cond.methodLink RX9 147 yX2_pebbles, Cond.instanceMethod yX2_pebbles, Cond.selects RX2 yX2_pebbles yX2_pebbles, Cond.code yX2_pebbles cX2_pebbles 3 (some .int)]
def wsX9_digest : List Cond := .code yX9_digest cX9_digest 4 (some .long) :: ((wsX9_digest_r1 ++ (wsX9_digest_r2 ++ (wsX9_digest_r3 ++ (wsX9_digest_r4 ++ (wsX9_digest_r5 ++ (wsX9_digest_r6 ++ (wsX9_digest_r7 ++ (wsX9_digest_r8 ++ (wsX9_digest_r9 ++ (wsX9_digest_r10 ++ (wsX9_digest_r11 ++ (wsX9_digest_r12 ++ wsX9_digest_r13)))))))))))) ++ wsX90 ++ wsX40 ++ wsX20 ++ wsX00 ++ wsX50 ++ wsX60 ++ wsX70 ++ wsX10 ++ wsX80)
def wsX10_init : List Cond := .code yX10_init cX10_init 1 none :: ([.methodLink RX10 1 objectInit, .instanceMethod objectInit, .code objectInit ⟨#[0xb1]⟩ 1 none, .arrayClass .int, .fieldLink RX10 7 "KneelingStonesModel" "marks" "[I", .fieldLink RX10 13 "KneelingStonesModel" "height" "[I", .fieldLink RX10 16 "KneelingStonesModel" "seedNow" "J", .fieldLink RX10 20 "KneelingStonesModel" "kindOf" "[I", .fieldLink RX10 23 "KneelingStonesModel" "numberOf" "[I", .fieldLink RX10 26 "KneelingStonesModel" "walkersOf" "[I", .fieldLink RX10 29 "KneelingStonesModel" "wishOf" "[I", .fieldLink RX10 32 "KneelingStonesModel" "sinOf" "[I", .fieldLink RX10 35 "KneelingStonesModel" "wishRule" "[I", .fieldLink RX10 38 "KneelingStonesModel" "sinRule" "[I", .fieldLink RX10 41 "KneelingStonesModel" "everyOf" "[I", .arrayClass .byte, .fieldLink RX10 44 "KneelingStonesModel" "page" "[B", .fieldLink RX10 48 "KneelingStonesModel" "keptOf" "[I", .fieldLink RX10 51 "KneelingStonesModel" "savedOf" "[I", .fieldLink RX10 54 "KneelingStonesModel" "fewest" "[I", .fieldLink RX10 57 "KneelingStonesModel" "most" "[I", .fieldLink RX10 60 "KneelingStonesModel" "fewestThen" "[I", .fieldLink RX10 63 "KneelingStonesModel" "mostThen" "[I"] ++ wsX100)
def wsX10_within : List Cond := .code yX10_within cX10_within 3 (some .boolean) :: ([])
def wsX10_letters : List Cond := .code yX10_letters cX10_letters 7 (some .int) :: ([.constantLong RX10 66 (255), .fieldLink RX10 68 "KneelingStonesModel" "pageLength" "I", .fieldLink RX10 44 "KneelingStonesModel" "page" "[B"] ++ wsX100)
def wsX10_blank : List Cond := .code yX10_blank cX10_blank 2 (some .int) :: ([.fieldLink RX10 68 "KneelingStonesModel" "pageLength" "I"] ++ wsX100)
def wsX10_ruleBy : List Cond := .code yX10_ruleBy cX10_ruleBy 1 (some .int) :: ([.methodLink RX10 72 yX10_within, .static yX10_within, .initialized RX10, .code yX10_within cX10_within 3 (some .boolean)])
def wsX10_nextState : List Cond := .code yX10_nextState cX10_nextState 3 (some .int) :: ([.fieldLink RX10 80 "KneelingStonesModel" "newWish" "I", .fieldLink RX10 83 "KneelingStonesModel" "newSin" "I", .fieldLink RX10 86 "KneelingStonesModel" "newEvery" "I", .methodLink RX10 76 yX10_ruleBy, .static yX10_ruleBy, .initialized RX10, .code yX10_ruleBy cX10_ruleBy 1 (some .int), .methodLink RX10 72 yX10_within, .static yX10_within, .code yX10_within cX10_within 3 (some .boolean)] ++ wsX100)
def wsX10_readCustom : List Cond := .code yX10_readCustom cX10_readCustom 5 none :: ([.fieldLink RX10 86 "KneelingStonesModel" "newEvery" "I", .fieldLink RX10 68 "KneelingStonesModel" "pageLength" "I", .fieldLink RX10 44 "KneelingStonesModel" "page" "[B", .fieldLink RX10 93 "KneelingStonesModel" "faultAt" "I", .fieldLink RX10 96 "KneelingStonesModel" "isWhole" "Z", .methodLink RX10 89 yX10_nextState, .instanceMethod yX10_nextState, .selects RX10 yX10_nextState yX10_nextState, .initialized RX10, .code yX10_nextState cX10_nextState 3 (some .int), .fieldLink RX10 80 "KneelingStonesModel" "newWish" "I", .fieldLink RX10 83 "KneelingStonesModel" "newSin" "I", .methodLink RX10 76 yX10_ruleBy, .static yX10_ruleBy, .code yX10_ruleBy cX10_ruleBy 1 (some .int), .methodLink RX10 72 yX10_within, .static yX10_within, .code yX10_within cX10_within 3 (some .boolean)] ++ wsX100)
def wsX10_fault : List Cond := .code yX10_fault cX10_fault 1 (some .int) :: ([.fieldLink RX10 93 "KneelingStonesModel" "faultAt" "I", .methodLink RX10 100 yX10_readCustom, .instanceMethod yX10_readCustom, .selects RX10 yX10_readCustom yX10_readCustom, .initialized RX10, .code yX10_readCustom cX10_readCustom 5 none, .fieldLink RX10 86 "KneelingStonesModel" "newEvery" "I", .fieldLink RX10 68 "KneelingStonesModel" "pageLength" "I", .fieldLink RX10 44 "KneelingStonesModel" "page" "[B", .fieldLink RX10 96 "KneelingStonesModel" "isWhole" "Z", .methodLink RX10 89 yX10_nextState, .instanceMethod yX10_nextState, .selects RX10 yX10_nextState yX10_nextState, .code yX10_nextState cX10_nextState 3 (some .int), .fieldLink RX10 80 "KneelingStonesModel" "newWish" "I", .fieldLink RX10 83 "KneelingStonesModel" "newSin" "I", .methodLink RX10 76 yX10_ruleBy, .static yX10_ruleBy, .code yX10_ruleBy cX10_ruleBy 1 (some .int), .methodLink RX10 72 yX10_within, .static yX10_within, .code yX10_within cX10_within 3 (some .boolean)] ++ wsX100)
def wsX10_custom_r1 : List Cond := [Cond.fieldLink RX10 96 "KneelingStonesModel" "isWhole" "Z", Cond.fieldLink RX10 103 "KneelingStonesModel" "customs" "I", Cond.fieldLink RX10 35 "KneelingStonesModel" "wishRule" "[I", Cond.fieldLink RX10 80 "KneelingStonesModel" "newWish" "I", Cond.fieldLink RX10 38 "KneelingStonesModel" "sinRule" "[I", Cond.fieldLink RX10 83 "KneelingStonesModel" "newSin" "I", Cond.fieldLink RX10 41 "KneelingStonesModel" "everyOf" "[I", Cond.fieldLink RX10 86 "KneelingStonesModel" "newEvery" "I", Cond.fieldLink RX10 68 "KneelingStonesModel" "pageLength" "I", Cond.methodLink RX10 100 yX10_readCustom, Cond.instanceMethod yX10_readCustom, Cond.selects RX10 yX10_readCustom yX10_readCustom, Cond.initialized RX10, Cond.code yX10_readCustom cX10_readCustom 5 none, Cond.fieldLink RX10 44 "KneelingStonesModel" "page" "[B", Cond.fieldLink RX10 93 "KneelingStonesModel" "faultAt" "I", Cond.methodLink RX10 89 yX10_nextState, Cond.instanceMethod yX10_nextState, Cond.selects RX10 yX10_nextState yX10_nextState, Cond.code yX10_nextState cX10_nextState 3 (some .int), Cond.methodLink RX10 76 yX10_ruleBy, Cond.static yX10_ruleBy, Cond.code yX10_ruleBy cX10_ruleBy 1 (some .int), Cond.methodLink RX10 72 yX10_within]
def wsX10_custom_r2 : List Cond := [Cond.static yX10_within, Cond.code yX10_within cX10_within 3 (some .boolean)]
def wsX10_custom : List Cond := .code yX10_custom cX10_custom 1 (some .int) :: ((wsX10_custom_r1 ++ wsX10_custom_r2) ++ wsX100)
def wsX10_isCustom : List Cond := .code yX10_isCustom cX10_isCustom 2 (some .boolean) :: ([.fieldLink RX10 103 "KneelingStonesModel" "customs" "I", .methodLink RX10 72 yX10_within, .static yX10_within, .initialized RX10, .code yX10_within cX10_within 3 (some .boolean)] ++ wsX100)
def wsX10_customNow : List Cond := .code yX10_customNow cX10_customNow 3 (some .int) :: ([.fieldLink RX10 35 "KneelingStonesModel" "wishRule" "[I", .fieldLink RX10 38 "KneelingStonesModel" "sinRule" "[I", .fieldLink RX10 41 "KneelingStonesModel" "everyOf" "[I"] ++ wsX100)
def wsX10_customTold : List Cond := .code yX10_customTold cX10_customTold 3 (some .int) :: ([.methodLink RX10 106 yX10_isCustom, .instanceMethod yX10_isCustom, .selects RX10 yX10_isCustom yX10_isCustom, .initialized RX10, .code yX10_isCustom cX10_isCustom 2 (some .boolean), .fieldLink RX10 103 "KneelingStonesModel" "customs" "I", .methodLink RX10 72 yX10_within, .static yX10_within, .code yX10_within cX10_within 3 (some .boolean), .methodLink RX10 110 yX10_customNow, .instanceMethod yX10_customNow, .selects RX10 yX10_customNow yX10_customNow, .code yX10_customNow cX10_customNow 3 (some .int), .fieldLink RX10 35 "KneelingStonesModel" "wishRule" "[I", .fieldLink RX10 38 "KneelingStonesModel" "sinRule" "[I", .fieldLink RX10 41 "KneelingStonesModel" "everyOf" "[I"] ++ wsX100)
def wsX10_isParish : List Cond := .code yX10_isParish cX10_isParish 2 (some .boolean) :: ([.fieldLink RX10 113 "KneelingStonesModel" "parishes" "I", .methodLink RX10 72 yX10_within, .static yX10_within, .initialized RX10, .code yX10_within cX10_within 3 (some .boolean)] ++ wsX100)
def wsX10_isNumber : List Cond := .code yX10_isNumber cX10_isNumber 2 (some .boolean) :: ([.methodLink RX10 72 yX10_within, .static yX10_within, .initialized RX10, .code yX10_within cX10_within 3 (some .boolean)])
def wsX10_isTold : List Cond := .code yX10_isTold cX10_isTold 2 (some .boolean) :: ([.methodLink RX10 72 yX10_within, .static yX10_within, .initialized RX10, .code yX10_within cX10_within 3 (some .boolean)])
def wsX10_parish : List Cond := .code yX10_parish cX10_parish 6 (some .int) :: ([.fieldLink RX10 113 "KneelingStonesModel" "parishes" "I", .fieldLink RX10 20 "KneelingStonesModel" "kindOf" "[I", .fieldLink RX10 23 "KneelingStonesModel" "numberOf" "[I", .fieldLink RX10 26 "KneelingStonesModel" "walkersOf" "[I", .fieldLink RX10 29 "KneelingStonesModel" "wishOf" "[I", .fieldLink RX10 32 "KneelingStonesModel" "sinOf" "[I", .methodLink RX10 72 yX10_within, .static yX10_within, .initialized RX10, .code yX10_within cX10_within 3 (some .boolean), .methodLink RX10 116 yX10_isNumber, .static yX10_isNumber, .code yX10_isNumber cX10_isNumber 2 (some .boolean), .methodLink RX10 120 yX10_isTold, .static yX10_isTold, .code yX10_isTold cX10_isTold 2 (some .boolean)] ++ wsX100)
def wsX10_as : List Cond := .code yX10_as cX10_as 4 (some .int) :: ([.fieldLink RX10 20 "KneelingStonesModel" "kindOf" "[I", .methodLink RX10 123 yX10_isParish, .instanceMethod yX10_isParish, .selects RX10 yX10_isParish yX10_isParish, .initialized RX10, .code yX10_isParish cX10_isParish 2 (some .boolean), .fieldLink RX10 113 "KneelingStonesModel" "parishes" "I", .methodLink RX10 72 yX10_within, .static yX10_within, .code yX10_within cX10_within 3 (some .boolean)] ++ wsX100)
def wsX10_gift : List Cond := .code yX10_gift cX10_gift 2 (some .int) :: ([.fieldLink RX10 20 "KneelingStonesModel" "kindOf" "[I", .fieldLink RX10 23 "KneelingStonesModel" "numberOf" "[I"] ++ wsX100)
def wsX10_parishNow : List Cond := .code yX10_parishNow cX10_parishNow 3 (some .int) :: ([.fieldLink RX10 20 "KneelingStonesModel" "kindOf" "[I", .fieldLink RX10 23 "KneelingStonesModel" "numberOf" "[I", .fieldLink RX10 26 "KneelingStonesModel" "walkersOf" "[I", .fieldLink RX10 29 "KneelingStonesModel" "wishOf" "[I", .fieldLink RX10 32 "KneelingStonesModel" "sinOf" "[I", .methodLink RX10 126 yX10_gift, .instanceMethod yX10_gift, .selects RX10 yX10_gift yX10_gift, .initialized RX10, .code yX10_gift cX10_gift 2 (some .int)] ++ wsX100)
def wsX10_about : List Cond := .code yX10_about cX10_about 3 (some .int) :: ([.methodLink RX10 123 yX10_isParish, .instanceMethod yX10_isParish, .selects RX10 yX10_isParish yX10_isParish, .initialized RX10, .code yX10_isParish cX10_isParish 2 (some .boolean), .fieldLink RX10 113 "KneelingStonesModel" "parishes" "I", .methodLink RX10 72 yX10_within, .static yX10_within, .code yX10_within cX10_within 3 (some .boolean), .methodLink RX10 129 yX10_parishNow, .instanceMethod yX10_parishNow, .selects RX10 yX10_parishNow yX10_parishNow, .code yX10_parishNow cX10_parishNow 3 (some .int), .fieldLink RX10 20 "KneelingStonesModel" "kindOf" "[I", .fieldLink RX10 23 "KneelingStonesModel" "numberOf" "[I", .fieldLink RX10 26 "KneelingStonesModel" "walkersOf" "[I", .fieldLink RX10 29 "KneelingStonesModel" "wishOf" "[I", .fieldLink RX10 32 "KneelingStonesModel" "sinOf" "[I", .methodLink RX10 126 yX10_gift, .instanceMethod yX10_gift, .selects RX10 yX10_gift yX10_gift, .code yX10_gift cX10_gift 2 (some .int)] ++ wsX100)
def wsX10_change_r1 : List Cond := [Cond.fieldLink RX10 26 "KneelingStonesModel" "walkersOf" "[I", Cond.fieldLink RX10 29 "KneelingStonesModel" "wishOf" "[I", Cond.fieldLink RX10 32 "KneelingStonesModel" "sinOf" "[I", Cond.methodLink RX10 123 yX10_isParish, Cond.instanceMethod yX10_isParish, Cond.selects RX10 yX10_isParish yX10_isParish, Cond.initialized RX10, Cond.code yX10_isParish cX10_isParish 2 (some .boolean), Cond.fieldLink RX10 113 "KneelingStonesModel" "parishes" "I", Cond.methodLink RX10 72 yX10_within, Cond.static yX10_within, Cond.code yX10_within cX10_within 3 (some .boolean), Cond.methodLink RX10 120 yX10_isTold, Cond.static yX10_isTold, Cond.code yX10_isTold cX10_isTold 2 (some .boolean), Cond.methodLink RX10 129 yX10_parishNow, Cond.instanceMethod yX10_parishNow, Cond.selects RX10 yX10_parishNow yX10_parishNow, Cond.code yX10_parishNow cX10_parishNow 3 (some .int), Cond.fieldLink RX10 20 "KneelingStonesModel" "kindOf" "[I", Cond.fieldLink RX10 23 "KneelingStonesModel" "numberOf" "[I", Cond.methodLink RX10 126 yX10_gift, Cond.instanceMethod yX10_gift, Cond.selects RX10 yX10_gift yX10_gift]
def wsX10_change_r2 : List Cond := [Cond.code yX10_gift cX10_gift 2 (some .int)]
def wsX10_change : List Cond := .code yX10_change cX10_change 5 (some .int) :: ((wsX10_change_r1 ++ wsX10_change_r2) ++ wsX100)
def wsX10_isCairn : List Cond := .code yX10_isCairn cX10_isCairn 1 (some .boolean) :: ([.methodLink RX10 72 yX10_within, .static yX10_within, .initialized RX10, .code yX10_within cX10_within 3 (some .boolean)])
def wsX10_put : List Cond := .code yX10_put cX10_put 3 none :: ([.fieldLink RX10 13 "KneelingStonesModel" "height" "[I", .fieldLink RX10 132 "KneelingStonesModel" "spiltAll" "I", .fieldLink RX10 7 "KneelingStonesModel" "marks" "[I"] ++ wsX100)
def wsX10_layAll : List Cond := .code yX10_layAll cX10_layAll 4 none :: ([.fieldLink RX10 135 "KneelingStonesModel" "laidAll" "I", .fieldLink RX10 138 "KneelingStonesModel" "week" "I", .methodLink RX10 141 yX10_put, .instanceMethod yX10_put, .selects RX10 yX10_put yX10_put, .initialized RX10, .code yX10_put cX10_put 3 none, .fieldLink RX10 13 "KneelingStonesModel" "height" "[I", .fieldLink RX10 132 "KneelingStonesModel" "spiltAll" "I", .fieldLink RX10 7 "KneelingStonesModel" "marks" "[I"] ++ wsX100)
def wsX10_takeAll : List Cond := .code yX10_takeAll cX10_takeAll 4 none :: ([.fieldLink RX10 13 "KneelingStonesModel" "height" "[I", .fieldLink RX10 145 "KneelingStonesModel" "takenAll" "I"] ++ wsX100)
def wsX10_lay : List Cond := .code yX10_lay cX10_lay 3 (some .int) :: ([.fieldLink RX10 13 "KneelingStonesModel" "height" "[I", .methodLink RX10 148 yX10_isCairn, .static yX10_isCairn, .initialized RX10, .code yX10_isCairn cX10_isCairn 1 (some .boolean), .methodLink RX10 72 yX10_within, .static yX10_within, .code yX10_within cX10_within 3 (some .boolean), .methodLink RX10 151 yX10_layAll, .instanceMethod yX10_layAll, .selects RX10 yX10_layAll yX10_layAll, .code yX10_layAll cX10_layAll 4 none, .fieldLink RX10 135 "KneelingStonesModel" "laidAll" "I", .fieldLink RX10 138 "KneelingStonesModel" "week" "I", .methodLink RX10 141 yX10_put, .instanceMethod yX10_put, .selects RX10 yX10_put yX10_put, .code yX10_put cX10_put 3 none, .fieldLink RX10 132 "KneelingStonesModel" "spiltAll" "I", .fieldLink RX10 7 "KneelingStonesModel" "marks" "[I"] ++ wsX100)
def wsX10_take : List Cond := .code yX10_take cX10_take 3 (some .int) :: ([.fieldLink RX10 13 "KneelingStonesModel" "height" "[I", .methodLink RX10 148 yX10_isCairn, .static yX10_isCairn, .initialized RX10, .code yX10_isCairn cX10_isCairn 1 (some .boolean), .methodLink RX10 72 yX10_within, .static yX10_within, .code yX10_within cX10_within 3 (some .boolean), .methodLink RX10 154 yX10_takeAll, .instanceMethod yX10_takeAll, .selects RX10 yX10_takeAll yX10_takeAll, .code yX10_takeAll cX10_takeAll 4 none, .fieldLink RX10 145 "KneelingStonesModel" "takenAll" "I"] ++ wsX100)
def wsX10_height : List Cond := .code yX10_height cX10_height 2 (some .int) :: ([.fieldLink RX10 13 "KneelingStonesModel" "height" "[I", .methodLink RX10 148 yX10_isCairn, .static yX10_isCairn, .initialized RX10, .code yX10_isCairn cX10_isCairn 1 (some .boolean), .methodLink RX10 72 yX10_within, .static yX10_within, .code yX10_within cX10_within 3 (some .boolean)] ++ wsX100)
def wsX10_markOf : List Cond := .code yX10_markOf cX10_markOf 3 (some .int) :: ([.fieldLink RX10 13 "KneelingStonesModel" "height" "[I", .fieldLink RX10 7 "KneelingStonesModel" "marks" "[I"] ++ wsX100)
def wsX10_mark : List Cond := .code yX10_mark cX10_mark 3 (some .int) :: ([.methodLink RX10 148 yX10_isCairn, .static yX10_isCairn, .initialized RX10, .code yX10_isCairn cX10_isCairn 1 (some .boolean), .methodLink RX10 72 yX10_within, .static yX10_within, .code yX10_within cX10_within 3 (some .boolean), .methodLink RX10 157 yX10_markOf, .instanceMethod yX10_markOf, .selects RX10 yX10_markOf yX10_markOf, .code yX10_markOf cX10_markOf 3 (some .int), .fieldLink RX10 13 "KneelingStonesModel" "height" "[I", .fieldLink RX10 7 "KneelingStonesModel" "marks" "[I"] ++ wsX100)
def wsX10_dated : List Cond := .code yX10_dated cX10_dated 5 (some .int) :: ([.fieldLink RX10 13 "KneelingStonesModel" "height" "[I", .fieldLink RX10 7 "KneelingStonesModel" "marks" "[I", .methodLink RX10 148 yX10_isCairn, .static yX10_isCairn, .initialized RX10, .code yX10_isCairn cX10_isCairn 1 (some .boolean), .methodLink RX10 72 yX10_within, .static yX10_within, .code yX10_within cX10_within 3 (some .boolean)] ++ wsX100)
def wsX10_seed : List Cond := .code yX10_seed cX10_seed 3 (some .int) :: ([.fieldLink RX10 16 "KneelingStonesModel" "seedNow" "J"] ++ wsX100)
def wsX10_pebbles : List Cond := .code yX10_pebbles cX10_pebbles 3 (some .int) :: ([.fieldLink RX10 13 "KneelingStonesModel" "height" "[I"] ++ wsX100)
def wsX10_draw : List Cond := .code yX10_draw cX10_draw 1 (some .int) :: ([.constantLong RX10 160 (1103515245), .fieldLink RX10 16 "KneelingStonesModel" "seedNow" "J", .constantLong RX10 162 (12345), .constantLong RX10 164 (2147483647), .constantLong RX10 166 (65536), .constantLong RX10 168 (10)] ++ wsX100)
def wsX10_withMost : List Cond := .code yX10_withMost cX10_withMost 3 (some .int) :: ([.fieldLink RX10 13 "KneelingStonesModel" "height" "[I"] ++ wsX100)
def wsX10_withLeast : List Cond := .code yX10_withLeast cX10_withLeast 3 (some .int) :: ([.fieldLink RX10 13 "KneelingStonesModel" "height" "[I"] ++ wsX100)
def wsX10_cairnBy : List Cond := .code yX10_cairnBy cX10_cairnBy 3 (some .int) :: ([.fieldLink RX10 177 "KneelingStonesModel" "last" "I", .methodLink RX10 170 yX10_withMost, .instanceMethod yX10_withMost, .selects RX10 yX10_withMost yX10_withMost, .initialized RX10, .code yX10_withMost cX10_withMost 3 (some .int), .fieldLink RX10 13 "KneelingStonesModel" "height" "[I", .methodLink RX10 174 yX10_withLeast, .instanceMethod yX10_withLeast, .selects RX10 yX10_withLeast yX10_withLeast, .code yX10_withLeast cX10_withLeast 3 (some .int)] ++ wsX100)
def wsX10_doWish_r1 : List Cond := [Cond.fieldLink RX10 35 "KneelingStonesModel" "wishRule" "[I", Cond.fieldLink RX10 177 "KneelingStonesModel" "last" "I", Cond.methodLink RX10 180 yX10_cairnBy, Cond.instanceMethod yX10_cairnBy, Cond.selects RX10 yX10_cairnBy yX10_cairnBy, Cond.initialized RX10, Cond.code yX10_cairnBy cX10_cairnBy 3 (some .int), Cond.methodLink RX10 170 yX10_withMost, Cond.instanceMethod yX10_withMost, Cond.selects RX10 yX10_withMost yX10_withMost, Cond.code yX10_withMost cX10_withMost 3 (some .int), Cond.fieldLink RX10 13 "KneelingStonesModel" "height" "[I", Cond.methodLink RX10 174 yX10_withLeast, Cond.instanceMethod yX10_withLeast, Cond.selects RX10 yX10_withLeast yX10_withLeast, Cond.code yX10_withLeast cX10_withLeast 3 (some .int), Cond.methodLink RX10 126 yX10_gift, Cond.instanceMethod yX10_gift, Cond.selects RX10 yX10_gift yX10_gift, Cond.code yX10_gift cX10_gift 2 (some .int), Cond.fieldLink RX10 20 "KneelingStonesModel" "kindOf" "[I", Cond.fieldLink RX10 23 "KneelingStonesModel" "numberOf" "[I", Cond.methodLink RX10 151 yX10_layAll, Cond.instanceMethod yX10_layAll]
def wsX10_doWish_r2 : List Cond := [Cond.selects RX10 yX10_layAll yX10_layAll, Cond.code yX10_layAll cX10_layAll 4 none, Cond.fieldLink RX10 135 "KneelingStonesModel" "laidAll" "I", Cond.fieldLink RX10 138 "KneelingStonesModel" "week" "I", Cond.methodLink RX10 141 yX10_put, Cond.instanceMethod yX10_put, Cond.selects RX10 yX10_put yX10_put, Cond.code yX10_put cX10_put 3 none, Cond.fieldLink RX10 132 "KneelingStonesModel" "spiltAll" "I", Cond.fieldLink RX10 7 "KneelingStonesModel" "marks" "[I"]
def wsX10_doWish : List Cond := .code yX10_doWish cX10_doWish 4 none :: ((wsX10_doWish_r1 ++ wsX10_doWish_r2) ++ wsX100)
def wsX10_doSin_r1 : List Cond := [Cond.fieldLink RX10 20 "KneelingStonesModel" "kindOf" "[I", Cond.fieldLink RX10 38 "KneelingStonesModel" "sinRule" "[I", Cond.fieldLink RX10 177 "KneelingStonesModel" "last" "I", Cond.fieldLink RX10 13 "KneelingStonesModel" "height" "[I", Cond.fieldLink RX10 23 "KneelingStonesModel" "numberOf" "[I", Cond.methodLink RX10 170 yX10_withMost, Cond.instanceMethod yX10_withMost, Cond.selects RX10 yX10_withMost yX10_withMost, Cond.initialized RX10, Cond.code yX10_withMost cX10_withMost 3 (some .int), Cond.methodLink RX10 180 yX10_cairnBy, Cond.instanceMethod yX10_cairnBy, Cond.selects RX10 yX10_cairnBy yX10_cairnBy, Cond.code yX10_cairnBy cX10_cairnBy 3 (some .int), Cond.methodLink RX10 174 yX10_withLeast, Cond.instanceMethod yX10_withLeast, Cond.selects RX10 yX10_withLeast yX10_withLeast, Cond.code yX10_withLeast cX10_withLeast 3 (some .int), Cond.methodLink RX10 157 yX10_markOf, Cond.instanceMethod yX10_markOf, Cond.selects RX10 yX10_markOf yX10_markOf, Cond.code yX10_markOf cX10_markOf 3 (some .int), Cond.fieldLink RX10 7 "KneelingStonesModel" "marks" "[I", Cond.methodLink RX10 141 yX10_put]
def wsX10_doSin_r2 : List Cond := [Cond.instanceMethod yX10_put, Cond.selects RX10 yX10_put yX10_put, Cond.code yX10_put cX10_put 3 none, Cond.fieldLink RX10 132 "KneelingStonesModel" "spiltAll" "I", Cond.methodLink RX10 154 yX10_takeAll, Cond.instanceMethod yX10_takeAll, Cond.selects RX10 yX10_takeAll yX10_takeAll, Cond.code yX10_takeAll cX10_takeAll 4 none, Cond.fieldLink RX10 145 "KneelingStonesModel" "takenAll" "I"]
def wsX10_doSin : List Cond := .code yX10_doSin cX10_doSin 5 none :: ((wsX10_doSin_r1 ++ wsX10_doSin_r2) ++ wsX100)
def wsX10_goWeek_r1 : List Cond := [Cond.fieldLink RX10 138 "KneelingStonesModel" "week" "I", Cond.fieldLink RX10 113 "KneelingStonesModel" "parishes" "I", Cond.fieldLink RX10 26 "KneelingStonesModel" "walkersOf" "[I", Cond.fieldLink RX10 29 "KneelingStonesModel" "wishOf" "[I", Cond.fieldLink RX10 32 "KneelingStonesModel" "sinOf" "[I", Cond.fieldLink RX10 41 "KneelingStonesModel" "everyOf" "[I", Cond.fieldLink RX10 13 "KneelingStonesModel" "height" "[I", Cond.methodLink RX10 183 yX10_draw, Cond.instanceMethod yX10_draw, Cond.selects RX10 yX10_draw yX10_draw, Cond.initialized RX10, Cond.code yX10_draw cX10_draw 1 (some .int), Cond.constantLong RX10 160 (1103515245), Cond.fieldLink RX10 16 "KneelingStonesModel" "seedNow" "J", Cond.constantLong RX10 162 (12345), Cond.constantLong RX10 164 (2147483647), Cond.constantLong RX10 166 (65536), Cond.constantLong RX10 168 (10), Cond.methodLink RX10 186 yX10_doWish, Cond.instanceMethod yX10_doWish, Cond.selects RX10 yX10_doWish yX10_doWish, Cond.code yX10_doWish cX10_doWish 4 none, Cond.fieldLink RX10 35 "KneelingStonesModel" "wishRule" "[I", Cond.fieldLink RX10 177 "KneelingStonesModel" "last" "I"]
def wsX10_goWeek_r2 : List Cond := [Cond.methodLink RX10 180 yX10_cairnBy, Cond.instanceMethod yX10_cairnBy, Cond.selects RX10 yX10_cairnBy yX10_cairnBy, Cond.code yX10_cairnBy cX10_cairnBy 3 (some .int), Cond.methodLink RX10 170 yX10_withMost, Cond.instanceMethod yX10_withMost, Cond.selects RX10 yX10_withMost yX10_withMost, Cond.code yX10_withMost cX10_withMost 3 (some .int), Cond.methodLink RX10 174 yX10_withLeast, Cond.instanceMethod yX10_withLeast, Cond.selects RX10 yX10_withLeast yX10_withLeast, Cond.code yX10_withLeast cX10_withLeast 3 (some .int), Cond.methodLink RX10 126 yX10_gift, Cond.instanceMethod yX10_gift, Cond.selects RX10 yX10_gift yX10_gift, Cond.code yX10_gift cX10_gift 2 (some .int), Cond.fieldLink RX10 20 "KneelingStonesModel" "kindOf" "[I", Cond.fieldLink RX10 23 "KneelingStonesModel" "numberOf" "[I", Cond.methodLink RX10 151 yX10_layAll, Cond.instanceMethod yX10_layAll, Cond.selects RX10 yX10_layAll yX10_layAll, Cond.code yX10_layAll cX10_layAll 4 none, Cond.fieldLink RX10 135 "KneelingStonesModel" "laidAll" "I", Cond.methodLink RX10 141 yX10_put]
def wsX10_goWeek_r3 : List Cond := [Cond.instanceMethod yX10_put, Cond.selects RX10 yX10_put yX10_put, Cond.code yX10_put cX10_put 3 none, Cond.fieldLink RX10 132 "KneelingStonesModel" "spiltAll" "I", Cond.fieldLink RX10 7 "KneelingStonesModel" "marks" "[I", Cond.methodLink RX10 189 yX10_doSin, Cond.instanceMethod yX10_doSin, Cond.selects RX10 yX10_doSin yX10_doSin, Cond.code yX10_doSin cX10_doSin 5 none, Cond.fieldLink RX10 38 "KneelingStonesModel" "sinRule" "[I", Cond.methodLink RX10 157 yX10_markOf, Cond.instanceMethod yX10_markOf, Cond.selects RX10 yX10_markOf yX10_markOf, Cond.code yX10_markOf cX10_markOf 3 (some .int), Cond.methodLink RX10 154 yX10_takeAll, Cond.instanceMethod yX10_takeAll, Cond.selects RX10 yX10_takeAll yX10_takeAll, Cond.code yX10_takeAll cX10_takeAll 4 none, Cond.fieldLink RX10 145 "KneelingStonesModel" "takenAll" "I"]
def wsX10_goWeek : List Cond := .code yX10_goWeek cX10_goWeek 4 none :: ((wsX10_goWeek_r1 ++ (wsX10_goWeek_r2 ++ wsX10_goWeek_r3)) ++ wsX100)
def wsX10_weeks_r1 : List Cond := [Cond.fieldLink RX10 138 "KneelingStonesModel" "week" "I", Cond.methodLink RX10 106 yX10_isCustom, Cond.instanceMethod yX10_isCustom, Cond.selects RX10 yX10_isCustom yX10_isCustom, Cond.initialized RX10, Cond.code yX10_isCustom cX10_isCustom 2 (some .boolean), Cond.fieldLink RX10 103 "KneelingStonesModel" "customs" "I", Cond.methodLink RX10 72 yX10_within, Cond.static yX10_within, Cond.code yX10_within cX10_within 3 (some .boolean), Cond.methodLink RX10 192 yX10_goWeek, Cond.instanceMethod yX10_goWeek, Cond.selects RX10 yX10_goWeek yX10_goWeek, Cond.code yX10_goWeek cX10_goWeek 4 none, Cond.fieldLink RX10 113 "KneelingStonesModel" "parishes" "I", Cond.fieldLink RX10 26 "KneelingStonesModel" "walkersOf" "[I", Cond.fieldLink RX10 29 "KneelingStonesModel" "wishOf" "[I", Cond.fieldLink RX10 32 "KneelingStonesModel" "sinOf" "[I", Cond.fieldLink RX10 41 "KneelingStonesModel" "everyOf" "[I", Cond.fieldLink RX10 13 "KneelingStonesModel" "height" "[I", Cond.methodLink RX10 183 yX10_draw, Cond.instanceMethod yX10_draw, Cond.selects RX10 yX10_draw yX10_draw, Cond.code yX10_draw cX10_draw 1 (some .int)]
def wsX10_weeks_r2 : List Cond := [Cond.constantLong RX10 160 (1103515245), Cond.fieldLink RX10 16 "KneelingStonesModel" "seedNow" "J", Cond.constantLong RX10 162 (12345), Cond.constantLong RX10 164 (2147483647), Cond.constantLong RX10 166 (65536), Cond.constantLong RX10 168 (10), Cond.methodLink RX10 186 yX10_doWish, Cond.instanceMethod yX10_doWish, Cond.selects RX10 yX10_doWish yX10_doWish, Cond.code yX10_doWish cX10_doWish 4 none, Cond.fieldLink RX10 35 "KneelingStonesModel" "wishRule" "[I", Cond.fieldLink RX10 177 "KneelingStonesModel" "last" "I", Cond.methodLink RX10 180 yX10_cairnBy, Cond.instanceMethod yX10_cairnBy, Cond.selects RX10 yX10_cairnBy yX10_cairnBy, Cond.code yX10_cairnBy cX10_cairnBy 3 (some .int), Cond.methodLink RX10 170 yX10_withMost, Cond.instanceMethod yX10_withMost, Cond.selects RX10 yX10_withMost yX10_withMost, Cond.code yX10_withMost cX10_withMost 3 (some .int), Cond.methodLink RX10 174 yX10_withLeast, Cond.instanceMethod yX10_withLeast, Cond.selects RX10 yX10_withLeast yX10_withLeast, Cond.code yX10_withLeast cX10_withLeast 3 (some .int)]
def wsX10_weeks_r3 : List Cond := [Cond.methodLink RX10 126 yX10_gift, Cond.instanceMethod yX10_gift, Cond.selects RX10 yX10_gift yX10_gift, Cond.code yX10_gift cX10_gift 2 (some .int), Cond.fieldLink RX10 20 "KneelingStonesModel" "kindOf" "[I", Cond.fieldLink RX10 23 "KneelingStonesModel" "numberOf" "[I", Cond.methodLink RX10 151 yX10_layAll, Cond.instanceMethod yX10_layAll, Cond.selects RX10 yX10_layAll yX10_layAll, Cond.code yX10_layAll cX10_layAll 4 none, Cond.fieldLink RX10 135 "KneelingStonesModel" "laidAll" "I", Cond.methodLink RX10 141 yX10_put, Cond.instanceMethod yX10_put, Cond.selects RX10 yX10_put yX10_put, Cond.code yX10_put cX10_put 3 none, Cond.fieldLink RX10 132 "KneelingStonesModel" "spiltAll" "I", Cond.fieldLink RX10 7 "KneelingStonesModel" "marks" "[I", Cond.methodLink RX10 189 yX10_doSin, Cond.instanceMethod yX10_doSin, Cond.selects RX10 yX10_doSin yX10_doSin, Cond.code yX10_doSin cX10_doSin 5 none, Cond.fieldLink RX10 38 "KneelingStonesModel" "sinRule" "[I", Cond.methodLink RX10 157 yX10_markOf, Cond.instanceMethod yX10_markOf]
def wsX10_weeks_r4 : List Cond := [Cond.selects RX10 yX10_markOf yX10_markOf, Cond.code yX10_markOf cX10_markOf 3 (some .int), Cond.methodLink RX10 154 yX10_takeAll, Cond.instanceMethod yX10_takeAll, Cond.selects RX10 yX10_takeAll yX10_takeAll, Cond.code yX10_takeAll cX10_takeAll 4 none, Cond.fieldLink RX10 145 "KneelingStonesModel" "takenAll" "I", Cond.methodLink RX10 196 yX10_pebbles, Cond.instanceMethod yX10_pebbles, Cond.selects RX10 yX10_pebbles yX10_pebbles, Cond.code yX10_pebbles cX10_pebbles 3 (some .int)]
def wsX10_weeks : List Cond := .code yX10_weeks cX10_weeks 4 (some .int) :: ((wsX10_weeks_r1 ++ (wsX10_weeks_r2 ++ (wsX10_weeks_r3 ++ wsX10_weeks_r4))) ++ wsX100)
def wsX10_save : List Cond := .code yX10_save cX10_save 2 none :: ([.fieldLink RX10 16 "KneelingStonesModel" "seedNow" "J", .fieldLink RX10 199 "KneelingStonesModel" "savedSeed" "J", .fieldLink RX10 51 "KneelingStonesModel" "savedOf" "[I", .fieldLink RX10 7 "KneelingStonesModel" "marks" "[I", .fieldLink RX10 13 "KneelingStonesModel" "height" "[I", .fieldLink RX10 138 "KneelingStonesModel" "week" "I", .fieldLink RX10 177 "KneelingStonesModel" "last" "I", .fieldLink RX10 135 "KneelingStonesModel" "laidAll" "I", .fieldLink RX10 145 "KneelingStonesModel" "takenAll" "I", .fieldLink RX10 132 "KneelingStonesModel" "spiltAll" "I"] ++ wsX100)
def wsX10_back : List Cond := .code yX10_back cX10_back 2 none :: ([.fieldLink RX10 199 "KneelingStonesModel" "savedSeed" "J", .fieldLink RX10 16 "KneelingStonesModel" "seedNow" "J", .fieldLink RX10 7 "KneelingStonesModel" "marks" "[I", .fieldLink RX10 51 "KneelingStonesModel" "savedOf" "[I", .fieldLink RX10 13 "KneelingStonesModel" "height" "[I", .fieldLink RX10 138 "KneelingStonesModel" "week" "I", .fieldLink RX10 177 "KneelingStonesModel" "last" "I", .fieldLink RX10 135 "KneelingStonesModel" "laidAll" "I", .fieldLink RX10 145 "KneelingStonesModel" "takenAll" "I", .fieldLink RX10 132 "KneelingStonesModel" "spiltAll" "I"] ++ wsX100)
def wsX10_wouldOf_r1 : List Cond := [Cond.fieldLink RX10 13 "KneelingStonesModel" "height" "[I", Cond.methodLink RX10 202 yX10_save, Cond.instanceMethod yX10_save, Cond.selects RX10 yX10_save yX10_save, Cond.initialized RX10, Cond.code yX10_save cX10_save 2 none, Cond.fieldLink RX10 16 "KneelingStonesModel" "seedNow" "J", Cond.fieldLink RX10 199 "KneelingStonesModel" "savedSeed" "J", Cond.fieldLink RX10 51 "KneelingStonesModel" "savedOf" "[I", Cond.fieldLink RX10 7 "KneelingStonesModel" "marks" "[I", Cond.fieldLink RX10 138 "KneelingStonesModel" "week" "I", Cond.fieldLink RX10 177 "KneelingStonesModel" "last" "I", Cond.fieldLink RX10 135 "KneelingStonesModel" "laidAll" "I", Cond.fieldLink RX10 145 "KneelingStonesModel" "takenAll" "I", Cond.fieldLink RX10 132 "KneelingStonesModel" "spiltAll" "I", Cond.methodLink RX10 192 yX10_goWeek, Cond.instanceMethod yX10_goWeek, Cond.selects RX10 yX10_goWeek yX10_goWeek, Cond.code yX10_goWeek cX10_goWeek 4 none, Cond.fieldLink RX10 113 "KneelingStonesModel" "parishes" "I", Cond.fieldLink RX10 26 "KneelingStonesModel" "walkersOf" "[I", Cond.fieldLink RX10 29 "KneelingStonesModel" "wishOf" "[I", Cond.fieldLink RX10 32 "KneelingStonesModel" "sinOf" "[I", Cond.fieldLink RX10 41 "KneelingStonesModel" "everyOf" "[I"]
def wsX10_wouldOf_r2 : List Cond := [Cond.methodLink RX10 183 yX10_draw, Cond.instanceMethod yX10_draw, Cond.selects RX10 yX10_draw yX10_draw, Cond.code yX10_draw cX10_draw 1 (some .int), Cond.constantLong RX10 160 (1103515245), Cond.constantLong RX10 162 (12345), Cond.constantLong RX10 164 (2147483647), Cond.constantLong RX10 166 (65536), Cond.constantLong RX10 168 (10), Cond.methodLink RX10 186 yX10_doWish, Cond.instanceMethod yX10_doWish, Cond.selects RX10 yX10_doWish yX10_doWish, Cond.code yX10_doWish cX10_doWish 4 none, Cond.fieldLink RX10 35 "KneelingStonesModel" "wishRule" "[I", Cond.methodLink RX10 180 yX10_cairnBy, Cond.instanceMethod yX10_cairnBy, Cond.selects RX10 yX10_cairnBy yX10_cairnBy, Cond.code yX10_cairnBy cX10_cairnBy 3 (some .int), Cond.methodLink RX10 170 yX10_withMost, Cond.instanceMethod yX10_withMost, Cond.selects RX10 yX10_withMost yX10_withMost, Cond.code yX10_withMost cX10_withMost 3 (some .int), Cond.methodLink RX10 174 yX10_withLeast, Cond.instanceMethod yX10_withLeast]
def wsX10_wouldOf_r3 : List Cond := [Cond.selects RX10 yX10_withLeast yX10_withLeast, Cond.code yX10_withLeast cX10_withLeast 3 (some .int), Cond.methodLink RX10 126 yX10_gift, Cond.instanceMethod yX10_gift, Cond.selects RX10 yX10_gift yX10_gift, Cond.code yX10_gift cX10_gift 2 (some .int), Cond.fieldLink RX10 20 "KneelingStonesModel" "kindOf" "[I", Cond.fieldLink RX10 23 "KneelingStonesModel" "numberOf" "[I", Cond.methodLink RX10 151 yX10_layAll, Cond.instanceMethod yX10_layAll, Cond.selects RX10 yX10_layAll yX10_layAll, Cond.code yX10_layAll cX10_layAll 4 none, Cond.methodLink RX10 141 yX10_put, Cond.instanceMethod yX10_put, Cond.selects RX10 yX10_put yX10_put, Cond.code yX10_put cX10_put 3 none, Cond.methodLink RX10 189 yX10_doSin, Cond.instanceMethod yX10_doSin, Cond.selects RX10 yX10_doSin yX10_doSin, Cond.code yX10_doSin cX10_doSin 5 none, Cond.fieldLink RX10 38 "KneelingStonesModel" "sinRule" "[I", Cond.methodLink RX10 157 yX10_markOf, Cond.instanceMethod yX10_markOf, Cond.selects RX10 yX10_markOf yX10_markOf]
def wsX10_wouldOf_r4 : List Cond := [Cond.code yX10_markOf cX10_markOf 3 (some .int), Cond.methodLink RX10 154 yX10_takeAll, Cond.instanceMethod yX10_takeAll, Cond.selects RX10 yX10_takeAll yX10_takeAll, Cond.code yX10_takeAll cX10_takeAll 4 none, Cond.methodLink RX10 205 yX10_back, Cond.instanceMethod yX10_back, Cond.selects RX10 yX10_back yX10_back, Cond.code yX10_back cX10_back 2 none]
def wsX10_wouldOf : List Cond := .code yX10_wouldOf cX10_wouldOf 5 (some .int) :: ((wsX10_wouldOf_r1 ++ (wsX10_wouldOf_r2 ++ (wsX10_wouldOf_r3 ++ wsX10_wouldOf_r4))) ++ wsX100)
def wsX10_would_r1 : List Cond := [Cond.methodLink RX10 106 yX10_isCustom, Cond.instanceMethod yX10_isCustom, Cond.selects RX10 yX10_isCustom yX10_isCustom, Cond.initialized RX10, Cond.code yX10_isCustom cX10_isCustom 2 (some .boolean), Cond.fieldLink RX10 103 "KneelingStonesModel" "customs" "I", Cond.methodLink RX10 72 yX10_within, Cond.static yX10_within, Cond.code yX10_within cX10_within 3 (some .boolean), Cond.methodLink RX10 148 yX10_isCairn, Cond.static yX10_isCairn, Cond.code yX10_isCairn cX10_isCairn 1 (some .boolean), Cond.methodLink RX10 208 yX10_wouldOf, Cond.instanceMethod yX10_wouldOf, Cond.selects RX10 yX10_wouldOf yX10_wouldOf, Cond.code yX10_wouldOf cX10_wouldOf 5 (some .int), Cond.fieldLink RX10 13 "KneelingStonesModel" "height" "[I", Cond.methodLink RX10 202 yX10_save, Cond.instanceMethod yX10_save, Cond.selects RX10 yX10_save yX10_save, Cond.code yX10_save cX10_save 2 none, Cond.fieldLink RX10 16 "KneelingStonesModel" "seedNow" "J", Cond.fieldLink RX10 199 "KneelingStonesModel" "savedSeed" "J", Cond.fieldLink RX10 51 "KneelingStonesModel" "savedOf" "[I"]
def wsX10_would_r2 : List Cond := [Cond.fieldLink RX10 7 "KneelingStonesModel" "marks" "[I", Cond.fieldLink RX10 138 "KneelingStonesModel" "week" "I", Cond.fieldLink RX10 177 "KneelingStonesModel" "last" "I", Cond.fieldLink RX10 135 "KneelingStonesModel" "laidAll" "I", Cond.fieldLink RX10 145 "KneelingStonesModel" "takenAll" "I", Cond.fieldLink RX10 132 "KneelingStonesModel" "spiltAll" "I", Cond.methodLink RX10 192 yX10_goWeek, Cond.instanceMethod yX10_goWeek, Cond.selects RX10 yX10_goWeek yX10_goWeek, Cond.code yX10_goWeek cX10_goWeek 4 none, Cond.fieldLink RX10 113 "KneelingStonesModel" "parishes" "I", Cond.fieldLink RX10 26 "KneelingStonesModel" "walkersOf" "[I", Cond.fieldLink RX10 29 "KneelingStonesModel" "wishOf" "[I", Cond.fieldLink RX10 32 "KneelingStonesModel" "sinOf" "[I", Cond.fieldLink RX10 41 "KneelingStonesModel" "everyOf" "[I", Cond.methodLink RX10 183 yX10_draw, Cond.instanceMethod yX10_draw, Cond.selects RX10 yX10_draw yX10_draw, Cond.code yX10_draw cX10_draw 1 (some .int), Cond.constantLong RX10 160 (1103515245), Cond.constantLong RX10 162 (12345), Cond.constantLong RX10 164 (2147483647), Cond.constantLong RX10 166 (65536), Cond.constantLong RX10 168 (10)]
def wsX10_would_r3 : List Cond := [Cond.methodLink RX10 186 yX10_doWish, Cond.instanceMethod yX10_doWish, Cond.selects RX10 yX10_doWish yX10_doWish, Cond.code yX10_doWish cX10_doWish 4 none, Cond.fieldLink RX10 35 "KneelingStonesModel" "wishRule" "[I", Cond.methodLink RX10 180 yX10_cairnBy, Cond.instanceMethod yX10_cairnBy, Cond.selects RX10 yX10_cairnBy yX10_cairnBy, Cond.code yX10_cairnBy cX10_cairnBy 3 (some .int), Cond.methodLink RX10 170 yX10_withMost, Cond.instanceMethod yX10_withMost, Cond.selects RX10 yX10_withMost yX10_withMost, Cond.code yX10_withMost cX10_withMost 3 (some .int), Cond.methodLink RX10 174 yX10_withLeast, Cond.instanceMethod yX10_withLeast, Cond.selects RX10 yX10_withLeast yX10_withLeast, Cond.code yX10_withLeast cX10_withLeast 3 (some .int), Cond.methodLink RX10 126 yX10_gift, Cond.instanceMethod yX10_gift, Cond.selects RX10 yX10_gift yX10_gift, Cond.code yX10_gift cX10_gift 2 (some .int), Cond.fieldLink RX10 20 "KneelingStonesModel" "kindOf" "[I", Cond.fieldLink RX10 23 "KneelingStonesModel" "numberOf" "[I", Cond.methodLink RX10 151 yX10_layAll]
def wsX10_would_r4 : List Cond := [Cond.instanceMethod yX10_layAll, Cond.selects RX10 yX10_layAll yX10_layAll, Cond.code yX10_layAll cX10_layAll 4 none, Cond.methodLink RX10 141 yX10_put, Cond.instanceMethod yX10_put, Cond.selects RX10 yX10_put yX10_put, Cond.code yX10_put cX10_put 3 none, Cond.methodLink RX10 189 yX10_doSin, Cond.instanceMethod yX10_doSin, Cond.selects RX10 yX10_doSin yX10_doSin, Cond.code yX10_doSin cX10_doSin 5 none, Cond.fieldLink RX10 38 "KneelingStonesModel" "sinRule" "[I", Cond.methodLink RX10 157 yX10_markOf, Cond.instanceMethod yX10_markOf, Cond.selects RX10 yX10_markOf yX10_markOf, Cond.code yX10_markOf cX10_markOf 3 (some .int), Cond.methodLink RX10 154 yX10_takeAll, Cond.instanceMethod yX10_takeAll, Cond.selects RX10 yX10_takeAll yX10_takeAll, Cond.code yX10_takeAll cX10_takeAll 4 none, Cond.methodLink RX10 205 yX10_back, Cond.instanceMethod yX10_back, Cond.selects RX10 yX10_back yX10_back, Cond.code yX10_back cX10_back 2 none]
def wsX10_would : List Cond := .code yX10_would cX10_would 4 (some .int) :: ((wsX10_would_r1 ++ (wsX10_would_r2 ++ (wsX10_would_r3 ++ wsX10_would_r4))) ++ wsX100)
def wsX10_order : List Cond := .code yX10_order cX10_order 5 (some .int) :: ([.fieldLink RX10 13 "KneelingStonesModel" "height" "[I", .methodLink RX10 148 yX10_isCairn, .static yX10_isCairn, .initialized RX10, .code yX10_isCairn cX10_isCairn 1 (some .boolean), .methodLink RX10 72 yX10_within, .static yX10_within, .code yX10_within cX10_within 3 (some .boolean)] ++ wsX100)
def wsX10_lowest : List Cond := .code yX10_lowest cX10_lowest 11 (some .long) :: ([])
def wsX10_choose : List Cond := .code yX10_choose cX10_choose 5 (some .long) :: ([])
def wsX10_power : List Cond := .code yX10_power cX10_power 6 (some .long) :: ([])
def wsX10_oddsOf : List Cond := .code yX10_oddsOf cX10_oddsOf 12 (some .long) :: ([.fieldLink RX10 26 "KneelingStonesModel" "walkersOf" "[I", .constantLong RX10 168 (10), .fieldLink RX10 29 "KneelingStonesModel" "wishOf" "[I", .fieldLink RX10 32 "KneelingStonesModel" "sinOf" "[I", .methodLink RX10 212 yX10_power, .static yX10_power, .initialized RX10, .code yX10_power cX10_power 6 (some .long), .methodLink RX10 216 yX10_choose, .static yX10_choose, .code yX10_choose cX10_choose 5 (some .long)] ++ wsX100)
def wsX10_whole : List Cond := .code yX10_whole cX10_whole 2 (some .long) :: ([.constantLong RX10 220 (100), .fieldLink RX10 26 "KneelingStonesModel" "walkersOf" "[I", .methodLink RX10 212 yX10_power, .static yX10_power, .initialized RX10, .code yX10_power cX10_power 6 (some .long)] ++ wsX100)
def wsX10_odds_r1 : List Cond := [Cond.constantLong RX10 222 (-101), Cond.fieldLink RX10 26 "KneelingStonesModel" "walkersOf" "[I", Cond.constantLong RX10 224 (-102), Cond.methodLink RX10 123 yX10_isParish, Cond.instanceMethod yX10_isParish, Cond.selects RX10 yX10_isParish yX10_isParish, Cond.initialized RX10, Cond.code yX10_isParish cX10_isParish 2 (some .boolean), Cond.fieldLink RX10 113 "KneelingStonesModel" "parishes" "I", Cond.methodLink RX10 72 yX10_within, Cond.static yX10_within, Cond.code yX10_within cX10_within 3 (some .boolean), Cond.methodLink RX10 226 yX10_oddsOf, Cond.instanceMethod yX10_oddsOf, Cond.selects RX10 yX10_oddsOf yX10_oddsOf, Cond.code yX10_oddsOf cX10_oddsOf 12 (some .long), Cond.constantLong RX10 168 (10), Cond.fieldLink RX10 29 "KneelingStonesModel" "wishOf" "[I", Cond.fieldLink RX10 32 "KneelingStonesModel" "sinOf" "[I", Cond.methodLink RX10 212 yX10_power, Cond.static yX10_power, Cond.code yX10_power cX10_power 6 (some .long), Cond.methodLink RX10 216 yX10_choose, Cond.static yX10_choose]
def wsX10_odds_r2 : List Cond := [Cond.code yX10_choose cX10_choose 5 (some .long), Cond.methodLink RX10 230 yX10_whole, Cond.instanceMethod yX10_whole, Cond.selects RX10 yX10_whole yX10_whole, Cond.code yX10_whole cX10_whole 2 (some .long), Cond.constantLong RX10 220 (100), Cond.methodLink RX10 234 yX10_lowest, Cond.static yX10_lowest, Cond.code yX10_lowest cX10_lowest 11 (some .long)]
def wsX10_odds : List Cond := .code yX10_odds cX10_odds 6 (some .long) :: ((wsX10_odds_r1 ++ wsX10_odds_r2) ++ wsX100)
def wsX10_netOf : List Cond := .code yX10_netOf cX10_netOf 4 (some .int) :: ([.fieldLink RX10 20 "KneelingStonesModel" "kindOf" "[I", .methodLink RX10 126 yX10_gift, .instanceMethod yX10_gift, .selects RX10 yX10_gift yX10_gift, .initialized RX10, .code yX10_gift cX10_gift 2 (some .int), .fieldLink RX10 23 "KneelingStonesModel" "numberOf" "[I"] ++ wsX100)
def wsX10_netOdds_r1 : List Cond := [Cond.fieldLink RX10 26 "KneelingStonesModel" "walkersOf" "[I", Cond.methodLink RX10 238 yX10_netOf, Cond.instanceMethod yX10_netOf, Cond.selects RX10 yX10_netOf yX10_netOf, Cond.initialized RX10, Cond.code yX10_netOf cX10_netOf 4 (some .int), Cond.fieldLink RX10 20 "KneelingStonesModel" "kindOf" "[I", Cond.methodLink RX10 126 yX10_gift, Cond.instanceMethod yX10_gift, Cond.selects RX10 yX10_gift yX10_gift, Cond.code yX10_gift cX10_gift 2 (some .int), Cond.fieldLink RX10 23 "KneelingStonesModel" "numberOf" "[I", Cond.methodLink RX10 226 yX10_oddsOf, Cond.instanceMethod yX10_oddsOf, Cond.selects RX10 yX10_oddsOf yX10_oddsOf, Cond.code yX10_oddsOf cX10_oddsOf 12 (some .long), Cond.constantLong RX10 168 (10), Cond.fieldLink RX10 29 "KneelingStonesModel" "wishOf" "[I", Cond.fieldLink RX10 32 "KneelingStonesModel" "sinOf" "[I", Cond.methodLink RX10 212 yX10_power, Cond.static yX10_power, Cond.code yX10_power cX10_power 6 (some .long), Cond.methodLink RX10 216 yX10_choose, Cond.static yX10_choose]
def wsX10_netOdds_r2 : List Cond := [Cond.code yX10_choose cX10_choose 5 (some .long)]
def wsX10_netOdds : List Cond := .code yX10_netOdds cX10_netOdds 8 (some .long) :: ((wsX10_netOdds_r1 ++ wsX10_netOdds_r2) ++ wsX100)
def wsX10_isNet : List Cond := .code yX10_isNet cX10_isNet 2 (some .boolean) :: ([.methodLink RX10 72 yX10_within, .static yX10_within, .initialized RX10, .code yX10_within cX10_within 3 (some .boolean)])
def wsX10_chance_r1 : List Cond := [Cond.constantLong RX10 222 (-101), Cond.constantLong RX10 224 (-102), Cond.methodLink RX10 123 yX10_isParish, Cond.instanceMethod yX10_isParish, Cond.selects RX10 yX10_isParish yX10_isParish, Cond.initialized RX10, Cond.code yX10_isParish cX10_isParish 2 (some .boolean), Cond.fieldLink RX10 113 "KneelingStonesModel" "parishes" "I", Cond.methodLink RX10 72 yX10_within, Cond.static yX10_within, Cond.code yX10_within cX10_within 3 (some .boolean), Cond.methodLink RX10 241 yX10_isNet, Cond.static yX10_isNet, Cond.code yX10_isNet cX10_isNet 2 (some .boolean), Cond.methodLink RX10 244 yX10_netOdds, Cond.instanceMethod yX10_netOdds, Cond.selects RX10 yX10_netOdds yX10_netOdds, Cond.code yX10_netOdds cX10_netOdds 8 (some .long), Cond.fieldLink RX10 26 "KneelingStonesModel" "walkersOf" "[I", Cond.methodLink RX10 238 yX10_netOf, Cond.instanceMethod yX10_netOf, Cond.selects RX10 yX10_netOf yX10_netOf, Cond.code yX10_netOf cX10_netOf 4 (some .int), Cond.fieldLink RX10 20 "KneelingStonesModel" "kindOf" "[I"]
def wsX10_chance_r2 : List Cond := [Cond.methodLink RX10 126 yX10_gift, Cond.instanceMethod yX10_gift, Cond.selects RX10 yX10_gift yX10_gift, Cond.code yX10_gift cX10_gift 2 (some .int), Cond.fieldLink RX10 23 "KneelingStonesModel" "numberOf" "[I", Cond.methodLink RX10 226 yX10_oddsOf, Cond.instanceMethod yX10_oddsOf, Cond.selects RX10 yX10_oddsOf yX10_oddsOf, Cond.code yX10_oddsOf cX10_oddsOf 12 (some .long), Cond.constantLong RX10 168 (10), Cond.fieldLink RX10 29 "KneelingStonesModel" "wishOf" "[I", Cond.fieldLink RX10 32 "KneelingStonesModel" "sinOf" "[I", Cond.methodLink RX10 212 yX10_power, Cond.static yX10_power, Cond.code yX10_power cX10_power 6 (some .long), Cond.methodLink RX10 216 yX10_choose, Cond.static yX10_choose, Cond.code yX10_choose cX10_choose 5 (some .long), Cond.methodLink RX10 230 yX10_whole, Cond.instanceMethod yX10_whole, Cond.selects RX10 yX10_whole yX10_whole, Cond.code yX10_whole cX10_whole 2 (some .long), Cond.constantLong RX10 220 (100), Cond.methodLink RX10 234 yX10_lowest]
def wsX10_chance_r3 : List Cond := [Cond.static yX10_lowest, Cond.code yX10_lowest cX10_lowest 11 (some .long)]
def wsX10_chance : List Cond := .code yX10_chance cX10_chance 4 (some .long) :: ((wsX10_chance_r1 ++ (wsX10_chance_r2 ++ wsX10_chance_r3)) ++ wsX100)
def wsX10_sinned_r1 : List Cond := [Cond.constantLong RX10 222 (-101), Cond.constantLong RX10 224 (-102), Cond.constantLong RX10 247 (-1), Cond.methodLink RX10 123 yX10_isParish, Cond.instanceMethod yX10_isParish, Cond.selects RX10 yX10_isParish yX10_isParish, Cond.initialized RX10, Cond.code yX10_isParish cX10_isParish 2 (some .boolean), Cond.fieldLink RX10 113 "KneelingStonesModel" "parishes" "I", Cond.methodLink RX10 72 yX10_within, Cond.static yX10_within, Cond.code yX10_within cX10_within 3 (some .boolean), Cond.methodLink RX10 241 yX10_isNet, Cond.static yX10_isNet, Cond.code yX10_isNet cX10_isNet 2 (some .boolean), Cond.methodLink RX10 244 yX10_netOdds, Cond.instanceMethod yX10_netOdds, Cond.selects RX10 yX10_netOdds yX10_netOdds, Cond.code yX10_netOdds cX10_netOdds 8 (some .long), Cond.fieldLink RX10 26 "KneelingStonesModel" "walkersOf" "[I", Cond.methodLink RX10 238 yX10_netOf, Cond.instanceMethod yX10_netOf, Cond.selects RX10 yX10_netOf yX10_netOf, Cond.code yX10_netOf cX10_netOf 4 (some .int)]
def wsX10_sinned_r2 : List Cond := [Cond.fieldLink RX10 20 "KneelingStonesModel" "kindOf" "[I", Cond.methodLink RX10 126 yX10_gift, Cond.instanceMethod yX10_gift, Cond.selects RX10 yX10_gift yX10_gift, Cond.code yX10_gift cX10_gift 2 (some .int), Cond.fieldLink RX10 23 "KneelingStonesModel" "numberOf" "[I", Cond.methodLink RX10 226 yX10_oddsOf, Cond.instanceMethod yX10_oddsOf, Cond.selects RX10 yX10_oddsOf yX10_oddsOf, Cond.code yX10_oddsOf cX10_oddsOf 12 (some .long), Cond.constantLong RX10 168 (10), Cond.fieldLink RX10 29 "KneelingStonesModel" "wishOf" "[I", Cond.fieldLink RX10 32 "KneelingStonesModel" "sinOf" "[I", Cond.methodLink RX10 212 yX10_power, Cond.static yX10_power, Cond.code yX10_power cX10_power 6 (some .long), Cond.methodLink RX10 216 yX10_choose, Cond.static yX10_choose, Cond.code yX10_choose cX10_choose 5 (some .long), Cond.methodLink RX10 234 yX10_lowest, Cond.static yX10_lowest, Cond.code yX10_lowest cX10_lowest 11 (some .long)]
def wsX10_sinned : List Cond := .code yX10_sinned cX10_sinned 6 (some .long) :: ((wsX10_sinned_r1 ++ wsX10_sinned_r2) ++ wsX100)
def wsX10_canBe : List Cond := .code yX10_canBe cX10_canBe 7 (some .boolean) :: ([.fieldLink RX10 26 "KneelingStonesModel" "walkersOf" "[I", .fieldLink RX10 29 "KneelingStonesModel" "wishOf" "[I", .fieldLink RX10 32 "KneelingStonesModel" "sinOf" "[I"] ++ wsX100)
def wsX10_addWay : List Cond := .code yX10_addWay cX10_addWay 7 none :: ([.fieldLink RX10 54 "KneelingStonesModel" "fewest" "[I", .constant RX10 249 (268435456), .fieldLink RX10 57 "KneelingStonesModel" "most" "[I", .fieldLink RX10 60 "KneelingStonesModel" "fewestThen" "[I", .fieldLink RX10 63 "KneelingStonesModel" "mostThen" "[I", .methodLink RX10 72 yX10_within, .static yX10_within, .initialized RX10, .code yX10_within cX10_within 3 (some .boolean)] ++ wsX100)
def wsX10_layNets_r1 : List Cond := [Cond.fieldLink RX10 54 "KneelingStonesModel" "fewest" "[I", Cond.constant RX10 249 (268435456), Cond.fieldLink RX10 57 "KneelingStonesModel" "most" "[I", Cond.fieldLink RX10 113 "KneelingStonesModel" "parishes" "I", Cond.fieldLink RX10 60 "KneelingStonesModel" "fewestThen" "[I", Cond.fieldLink RX10 63 "KneelingStonesModel" "mostThen" "[I", Cond.fieldLink RX10 26 "KneelingStonesModel" "walkersOf" "[I", Cond.methodLink RX10 72 yX10_within, Cond.static yX10_within, Cond.initialized RX10, Cond.code yX10_within cX10_within 3 (some .boolean), Cond.methodLink RX10 250 yX10_canBe, Cond.instanceMethod yX10_canBe, Cond.selects RX10 yX10_canBe yX10_canBe, Cond.code yX10_canBe cX10_canBe 7 (some .boolean), Cond.fieldLink RX10 29 "KneelingStonesModel" "wishOf" "[I", Cond.fieldLink RX10 32 "KneelingStonesModel" "sinOf" "[I", Cond.methodLink RX10 238 yX10_netOf, Cond.instanceMethod yX10_netOf, Cond.selects RX10 yX10_netOf yX10_netOf, Cond.code yX10_netOf cX10_netOf 4 (some .int), Cond.fieldLink RX10 20 "KneelingStonesModel" "kindOf" "[I", Cond.methodLink RX10 126 yX10_gift, Cond.instanceMethod yX10_gift]
def wsX10_layNets_r2 : List Cond := [Cond.selects RX10 yX10_gift yX10_gift, Cond.code yX10_gift cX10_gift 2 (some .int), Cond.fieldLink RX10 23 "KneelingStonesModel" "numberOf" "[I", Cond.methodLink RX10 253 yX10_addWay, Cond.instanceMethod yX10_addWay, Cond.selects RX10 yX10_addWay yX10_addWay, Cond.code yX10_addWay cX10_addWay 7 none]
def wsX10_layNets : List Cond := .code yX10_layNets cX10_layNets 8 none :: ((wsX10_layNets_r1 ++ wsX10_layNets_r2) ++ wsX100)
def wsX10_canNet_r1 : List Cond := [Cond.fieldLink RX10 54 "KneelingStonesModel" "fewest" "[I", Cond.constant RX10 249 (268435456), Cond.methodLink RX10 256 yX10_layNets, Cond.instanceMethod yX10_layNets, Cond.selects RX10 yX10_layNets yX10_layNets, Cond.initialized RX10, Cond.code yX10_layNets cX10_layNets 8 none, Cond.fieldLink RX10 57 "KneelingStonesModel" "most" "[I", Cond.fieldLink RX10 113 "KneelingStonesModel" "parishes" "I", Cond.fieldLink RX10 60 "KneelingStonesModel" "fewestThen" "[I", Cond.fieldLink RX10 63 "KneelingStonesModel" "mostThen" "[I", Cond.fieldLink RX10 26 "KneelingStonesModel" "walkersOf" "[I", Cond.methodLink RX10 72 yX10_within, Cond.static yX10_within, Cond.code yX10_within cX10_within 3 (some .boolean), Cond.methodLink RX10 250 yX10_canBe, Cond.instanceMethod yX10_canBe, Cond.selects RX10 yX10_canBe yX10_canBe, Cond.code yX10_canBe cX10_canBe 7 (some .boolean), Cond.fieldLink RX10 29 "KneelingStonesModel" "wishOf" "[I", Cond.fieldLink RX10 32 "KneelingStonesModel" "sinOf" "[I", Cond.methodLink RX10 238 yX10_netOf, Cond.instanceMethod yX10_netOf, Cond.selects RX10 yX10_netOf yX10_netOf]
def wsX10_canNet_r2 : List Cond := [Cond.code yX10_netOf cX10_netOf 4 (some .int), Cond.fieldLink RX10 20 "KneelingStonesModel" "kindOf" "[I", Cond.methodLink RX10 126 yX10_gift, Cond.instanceMethod yX10_gift, Cond.selects RX10 yX10_gift yX10_gift, Cond.code yX10_gift cX10_gift 2 (some .int), Cond.fieldLink RX10 23 "KneelingStonesModel" "numberOf" "[I", Cond.methodLink RX10 253 yX10_addWay, Cond.instanceMethod yX10_addWay, Cond.selects RX10 yX10_addWay yX10_addWay, Cond.code yX10_addWay cX10_addWay 7 none]
def wsX10_canNet : List Cond := .code yX10_canNet cX10_canNet 5 (some .boolean) :: ((wsX10_canNet_r1 ++ wsX10_canNet_r2) ++ wsX100)
def wsX10_boundsOf_r1 : List Cond := [Cond.fieldLink RX10 54 "KneelingStonesModel" "fewest" "[I", Cond.fieldLink RX10 57 "KneelingStonesModel" "most" "[I", Cond.fieldLink RX10 113 "KneelingStonesModel" "parishes" "I", Cond.methodLink RX10 260 yX10_canNet, Cond.instanceMethod yX10_canNet, Cond.selects RX10 yX10_canNet yX10_canNet, Cond.initialized RX10, Cond.code yX10_canNet cX10_canNet 5 (some .boolean), Cond.constant RX10 249 (268435456), Cond.methodLink RX10 256 yX10_layNets, Cond.instanceMethod yX10_layNets, Cond.selects RX10 yX10_layNets yX10_layNets, Cond.code yX10_layNets cX10_layNets 8 none, Cond.fieldLink RX10 60 "KneelingStonesModel" "fewestThen" "[I", Cond.fieldLink RX10 63 "KneelingStonesModel" "mostThen" "[I", Cond.fieldLink RX10 26 "KneelingStonesModel" "walkersOf" "[I", Cond.methodLink RX10 72 yX10_within, Cond.static yX10_within, Cond.code yX10_within cX10_within 3 (some .boolean), Cond.methodLink RX10 250 yX10_canBe, Cond.instanceMethod yX10_canBe, Cond.selects RX10 yX10_canBe yX10_canBe, Cond.code yX10_canBe cX10_canBe 7 (some .boolean), Cond.fieldLink RX10 29 "KneelingStonesModel" "wishOf" "[I"]
def wsX10_boundsOf_r2 : List Cond := [Cond.fieldLink RX10 32 "KneelingStonesModel" "sinOf" "[I", Cond.methodLink RX10 238 yX10_netOf, Cond.instanceMethod yX10_netOf, Cond.selects RX10 yX10_netOf yX10_netOf, Cond.code yX10_netOf cX10_netOf 4 (some .int), Cond.fieldLink RX10 20 "KneelingStonesModel" "kindOf" "[I", Cond.methodLink RX10 126 yX10_gift, Cond.instanceMethod yX10_gift, Cond.selects RX10 yX10_gift yX10_gift, Cond.code yX10_gift cX10_gift 2 (some .int), Cond.fieldLink RX10 23 "KneelingStonesModel" "numberOf" "[I", Cond.methodLink RX10 253 yX10_addWay, Cond.instanceMethod yX10_addWay, Cond.selects RX10 yX10_addWay yX10_addWay, Cond.code yX10_addWay cX10_addWay 7 none]
def wsX10_boundsOf : List Cond := .code yX10_boundsOf cX10_boundsOf 7 (some .int) :: ((wsX10_boundsOf_r1 ++ wsX10_boundsOf_r2) ++ wsX100)
def wsX10_bounds_r1 : List Cond := [Cond.methodLink RX10 72 yX10_within, Cond.static yX10_within, Cond.initialized RX10, Cond.code yX10_within cX10_within 3 (some .boolean), Cond.methodLink RX10 264 yX10_boundsOf, Cond.instanceMethod yX10_boundsOf, Cond.selects RX10 yX10_boundsOf yX10_boundsOf, Cond.code yX10_boundsOf cX10_boundsOf 7 (some .int), Cond.fieldLink RX10 54 "KneelingStonesModel" "fewest" "[I", Cond.fieldLink RX10 57 "KneelingStonesModel" "most" "[I", Cond.fieldLink RX10 113 "KneelingStonesModel" "parishes" "I", Cond.methodLink RX10 260 yX10_canNet, Cond.instanceMethod yX10_canNet, Cond.selects RX10 yX10_canNet yX10_canNet, Cond.code yX10_canNet cX10_canNet 5 (some .boolean), Cond.constant RX10 249 (268435456), Cond.methodLink RX10 256 yX10_layNets, Cond.instanceMethod yX10_layNets, Cond.selects RX10 yX10_layNets yX10_layNets, Cond.code yX10_layNets cX10_layNets 8 none, Cond.fieldLink RX10 60 "KneelingStonesModel" "fewestThen" "[I", Cond.fieldLink RX10 63 "KneelingStonesModel" "mostThen" "[I", Cond.fieldLink RX10 26 "KneelingStonesModel" "walkersOf" "[I", Cond.methodLink RX10 250 yX10_canBe]
def wsX10_bounds_r2 : List Cond := [Cond.instanceMethod yX10_canBe, Cond.selects RX10 yX10_canBe yX10_canBe, Cond.code yX10_canBe cX10_canBe 7 (some .boolean), Cond.fieldLink RX10 29 "KneelingStonesModel" "wishOf" "[I", Cond.fieldLink RX10 32 "KneelingStonesModel" "sinOf" "[I", Cond.methodLink RX10 238 yX10_netOf, Cond.instanceMethod yX10_netOf, Cond.selects RX10 yX10_netOf yX10_netOf, Cond.code yX10_netOf cX10_netOf 4 (some .int), Cond.fieldLink RX10 20 "KneelingStonesModel" "kindOf" "[I", Cond.methodLink RX10 126 yX10_gift, Cond.instanceMethod yX10_gift, Cond.selects RX10 yX10_gift yX10_gift, Cond.code yX10_gift cX10_gift 2 (some .int), Cond.fieldLink RX10 23 "KneelingStonesModel" "numberOf" "[I", Cond.methodLink RX10 253 yX10_addWay, Cond.instanceMethod yX10_addWay, Cond.selects RX10 yX10_addWay yX10_addWay, Cond.code yX10_addWay cX10_addWay 7 none]
def wsX10_bounds : List Cond := .code yX10_bounds cX10_bounds 3 (some .int) :: ((wsX10_bounds_r1 ++ wsX10_bounds_r2) ++ wsX100)
def wsX10_isAlone : List Cond := .code yX10_isAlone cX10_isAlone 4 (some .boolean) :: ([.fieldLink RX10 13 "KneelingStonesModel" "height" "[I"] ++ wsX100)
def wsX10_shows_r1 : List Cond := [Cond.methodLink RX10 106 yX10_isCustom, Cond.instanceMethod yX10_isCustom, Cond.selects RX10 yX10_isCustom yX10_isCustom, Cond.initialized RX10, Cond.code yX10_isCustom cX10_isCustom 2 (some .boolean), Cond.fieldLink RX10 103 "KneelingStonesModel" "customs" "I", Cond.methodLink RX10 72 yX10_within, Cond.static yX10_within, Cond.code yX10_within cX10_within 3 (some .boolean), Cond.methodLink RX10 148 yX10_isCairn, Cond.static yX10_isCairn, Cond.code yX10_isCairn cX10_isCairn 1 (some .boolean), Cond.methodLink RX10 202 yX10_save, Cond.instanceMethod yX10_save, Cond.selects RX10 yX10_save yX10_save, Cond.code yX10_save cX10_save 2 none, Cond.fieldLink RX10 16 "KneelingStonesModel" "seedNow" "J", Cond.fieldLink RX10 199 "KneelingStonesModel" "savedSeed" "J", Cond.fieldLink RX10 51 "KneelingStonesModel" "savedOf" "[I", Cond.fieldLink RX10 7 "KneelingStonesModel" "marks" "[I", Cond.fieldLink RX10 13 "KneelingStonesModel" "height" "[I", Cond.fieldLink RX10 138 "KneelingStonesModel" "week" "I", Cond.fieldLink RX10 177 "KneelingStonesModel" "last" "I", Cond.fieldLink RX10 135 "KneelingStonesModel" "laidAll" "I"]
def wsX10_shows_r2 : List Cond := [Cond.fieldLink RX10 145 "KneelingStonesModel" "takenAll" "I", Cond.fieldLink RX10 132 "KneelingStonesModel" "spiltAll" "I", Cond.methodLink RX10 151 yX10_layAll, Cond.instanceMethod yX10_layAll, Cond.selects RX10 yX10_layAll yX10_layAll, Cond.code yX10_layAll cX10_layAll 4 none, Cond.methodLink RX10 141 yX10_put, Cond.instanceMethod yX10_put, Cond.selects RX10 yX10_put yX10_put, Cond.code yX10_put cX10_put 3 none, Cond.methodLink RX10 267 yX10_isAlone, Cond.instanceMethod yX10_isAlone, Cond.selects RX10 yX10_isAlone yX10_isAlone, Cond.code yX10_isAlone cX10_isAlone 4 (some .boolean), Cond.methodLink RX10 192 yX10_goWeek, Cond.instanceMethod yX10_goWeek, Cond.selects RX10 yX10_goWeek yX10_goWeek, Cond.code yX10_goWeek cX10_goWeek 4 none, Cond.fieldLink RX10 113 "KneelingStonesModel" "parishes" "I", Cond.fieldLink RX10 26 "KneelingStonesModel" "walkersOf" "[I", Cond.fieldLink RX10 29 "KneelingStonesModel" "wishOf" "[I", Cond.fieldLink RX10 32 "KneelingStonesModel" "sinOf" "[I", Cond.fieldLink RX10 41 "KneelingStonesModel" "everyOf" "[I", Cond.methodLink RX10 183 yX10_draw]
def wsX10_shows_r3 : List Cond := [Cond.instanceMethod yX10_draw, Cond.selects RX10 yX10_draw yX10_draw, Cond.code yX10_draw cX10_draw 1 (some .int), Cond.constantLong RX10 160 (1103515245), Cond.constantLong RX10 162 (12345), Cond.constantLong RX10 164 (2147483647), Cond.constantLong RX10 166 (65536), Cond.constantLong RX10 168 (10), Cond.methodLink RX10 186 yX10_doWish, Cond.instanceMethod yX10_doWish, Cond.selects RX10 yX10_doWish yX10_doWish, Cond.code yX10_doWish cX10_doWish 4 none, Cond.fieldLink RX10 35 "KneelingStonesModel" "wishRule" "[I", Cond.methodLink RX10 180 yX10_cairnBy, Cond.instanceMethod yX10_cairnBy, Cond.selects RX10 yX10_cairnBy yX10_cairnBy, Cond.code yX10_cairnBy cX10_cairnBy 3 (some .int), Cond.methodLink RX10 170 yX10_withMost, Cond.instanceMethod yX10_withMost, Cond.selects RX10 yX10_withMost yX10_withMost, Cond.code yX10_withMost cX10_withMost 3 (some .int), Cond.methodLink RX10 174 yX10_withLeast, Cond.instanceMethod yX10_withLeast, Cond.selects RX10 yX10_withLeast yX10_withLeast]
def wsX10_shows_r4 : List Cond := [Cond.code yX10_withLeast cX10_withLeast 3 (some .int), Cond.methodLink RX10 126 yX10_gift, Cond.instanceMethod yX10_gift, Cond.selects RX10 yX10_gift yX10_gift, Cond.code yX10_gift cX10_gift 2 (some .int), Cond.fieldLink RX10 20 "KneelingStonesModel" "kindOf" "[I", Cond.fieldLink RX10 23 "KneelingStonesModel" "numberOf" "[I", Cond.methodLink RX10 189 yX10_doSin, Cond.instanceMethod yX10_doSin, Cond.selects RX10 yX10_doSin yX10_doSin, Cond.code yX10_doSin cX10_doSin 5 none, Cond.fieldLink RX10 38 "KneelingStonesModel" "sinRule" "[I", Cond.methodLink RX10 157 yX10_markOf, Cond.instanceMethod yX10_markOf, Cond.selects RX10 yX10_markOf yX10_markOf, Cond.code yX10_markOf cX10_markOf 3 (some .int), Cond.methodLink RX10 154 yX10_takeAll, Cond.instanceMethod yX10_takeAll, Cond.selects RX10 yX10_takeAll yX10_takeAll, Cond.code yX10_takeAll cX10_takeAll 4 none, Cond.methodLink RX10 205 yX10_back, Cond.instanceMethod yX10_back, Cond.selects RX10 yX10_back yX10_back, Cond.code yX10_back cX10_back 2 none]
def wsX10_shows : List Cond := .code yX10_shows cX10_shows 5 (some .int) :: ((wsX10_shows_r1 ++ (wsX10_shows_r2 ++ (wsX10_shows_r3 ++ wsX10_shows_r4))) ++ wsX100)
def wsX10_gone_r1 : List Cond := [Cond.fieldLink RX10 13 "KneelingStonesModel" "height" "[I", Cond.methodLink RX10 106 yX10_isCustom, Cond.instanceMethod yX10_isCustom, Cond.selects RX10 yX10_isCustom yX10_isCustom, Cond.initialized RX10, Cond.code yX10_isCustom cX10_isCustom 2 (some .boolean), Cond.fieldLink RX10 103 "KneelingStonesModel" "customs" "I", Cond.methodLink RX10 72 yX10_within, Cond.static yX10_within, Cond.code yX10_within cX10_within 3 (some .boolean), Cond.methodLink RX10 148 yX10_isCairn, Cond.static yX10_isCairn, Cond.code yX10_isCairn cX10_isCairn 1 (some .boolean), Cond.methodLink RX10 202 yX10_save, Cond.instanceMethod yX10_save, Cond.selects RX10 yX10_save yX10_save, Cond.code yX10_save cX10_save 2 none, Cond.fieldLink RX10 16 "KneelingStonesModel" "seedNow" "J", Cond.fieldLink RX10 199 "KneelingStonesModel" "savedSeed" "J", Cond.fieldLink RX10 51 "KneelingStonesModel" "savedOf" "[I", Cond.fieldLink RX10 7 "KneelingStonesModel" "marks" "[I", Cond.fieldLink RX10 138 "KneelingStonesModel" "week" "I", Cond.fieldLink RX10 177 "KneelingStonesModel" "last" "I", Cond.fieldLink RX10 135 "KneelingStonesModel" "laidAll" "I"]
def wsX10_gone_r2 : List Cond := [Cond.fieldLink RX10 145 "KneelingStonesModel" "takenAll" "I", Cond.fieldLink RX10 132 "KneelingStonesModel" "spiltAll" "I", Cond.methodLink RX10 192 yX10_goWeek, Cond.instanceMethod yX10_goWeek, Cond.selects RX10 yX10_goWeek yX10_goWeek, Cond.code yX10_goWeek cX10_goWeek 4 none, Cond.fieldLink RX10 113 "KneelingStonesModel" "parishes" "I", Cond.fieldLink RX10 26 "KneelingStonesModel" "walkersOf" "[I", Cond.fieldLink RX10 29 "KneelingStonesModel" "wishOf" "[I", Cond.fieldLink RX10 32 "KneelingStonesModel" "sinOf" "[I", Cond.fieldLink RX10 41 "KneelingStonesModel" "everyOf" "[I", Cond.methodLink RX10 183 yX10_draw, Cond.instanceMethod yX10_draw, Cond.selects RX10 yX10_draw yX10_draw, Cond.code yX10_draw cX10_draw 1 (some .int), Cond.constantLong RX10 160 (1103515245), Cond.constantLong RX10 162 (12345), Cond.constantLong RX10 164 (2147483647), Cond.constantLong RX10 166 (65536), Cond.constantLong RX10 168 (10), Cond.methodLink RX10 186 yX10_doWish, Cond.instanceMethod yX10_doWish, Cond.selects RX10 yX10_doWish yX10_doWish, Cond.code yX10_doWish cX10_doWish 4 none]
def wsX10_gone_r3 : List Cond := [Cond.fieldLink RX10 35 "KneelingStonesModel" "wishRule" "[I", Cond.methodLink RX10 180 yX10_cairnBy, Cond.instanceMethod yX10_cairnBy, Cond.selects RX10 yX10_cairnBy yX10_cairnBy, Cond.code yX10_cairnBy cX10_cairnBy 3 (some .int), Cond.methodLink RX10 170 yX10_withMost, Cond.instanceMethod yX10_withMost, Cond.selects RX10 yX10_withMost yX10_withMost, Cond.code yX10_withMost cX10_withMost 3 (some .int), Cond.methodLink RX10 174 yX10_withLeast, Cond.instanceMethod yX10_withLeast, Cond.selects RX10 yX10_withLeast yX10_withLeast, Cond.code yX10_withLeast cX10_withLeast 3 (some .int), Cond.methodLink RX10 126 yX10_gift, Cond.instanceMethod yX10_gift, Cond.selects RX10 yX10_gift yX10_gift, Cond.code yX10_gift cX10_gift 2 (some .int), Cond.fieldLink RX10 20 "KneelingStonesModel" "kindOf" "[I", Cond.fieldLink RX10 23 "KneelingStonesModel" "numberOf" "[I", Cond.methodLink RX10 151 yX10_layAll, Cond.instanceMethod yX10_layAll, Cond.selects RX10 yX10_layAll yX10_layAll, Cond.code yX10_layAll cX10_layAll 4 none, Cond.methodLink RX10 141 yX10_put]
def wsX10_gone_r4 : List Cond := [Cond.instanceMethod yX10_put, Cond.selects RX10 yX10_put yX10_put, Cond.code yX10_put cX10_put 3 none, Cond.methodLink RX10 189 yX10_doSin, Cond.instanceMethod yX10_doSin, Cond.selects RX10 yX10_doSin yX10_doSin, Cond.code yX10_doSin cX10_doSin 5 none, Cond.fieldLink RX10 38 "KneelingStonesModel" "sinRule" "[I", Cond.methodLink RX10 157 yX10_markOf, Cond.instanceMethod yX10_markOf, Cond.selects RX10 yX10_markOf yX10_markOf, Cond.code yX10_markOf cX10_markOf 3 (some .int), Cond.methodLink RX10 154 yX10_takeAll, Cond.instanceMethod yX10_takeAll, Cond.selects RX10 yX10_takeAll yX10_takeAll, Cond.code yX10_takeAll cX10_takeAll 4 none, Cond.methodLink RX10 205 yX10_back, Cond.instanceMethod yX10_back, Cond.selects RX10 yX10_back yX10_back, Cond.code yX10_back cX10_back 2 none]
def wsX10_gone : List Cond := .code yX10_gone cX10_gone 4 (some .int) :: ((wsX10_gone_r1 ++ (wsX10_gone_r2 ++ (wsX10_gone_r3 ++ wsX10_gone_r4))) ++ wsX100)
def wsX10_saves_r1 : List Cond := [Cond.fieldLink RX10 13 "KneelingStonesModel" "height" "[I", Cond.methodLink RX10 202 yX10_save, Cond.instanceMethod yX10_save, Cond.selects RX10 yX10_save yX10_save, Cond.initialized RX10, Cond.code yX10_save cX10_save 2 none, Cond.fieldLink RX10 16 "KneelingStonesModel" "seedNow" "J", Cond.fieldLink RX10 199 "KneelingStonesModel" "savedSeed" "J", Cond.fieldLink RX10 51 "KneelingStonesModel" "savedOf" "[I", Cond.fieldLink RX10 7 "KneelingStonesModel" "marks" "[I", Cond.fieldLink RX10 138 "KneelingStonesModel" "week" "I", Cond.fieldLink RX10 177 "KneelingStonesModel" "last" "I", Cond.fieldLink RX10 135 "KneelingStonesModel" "laidAll" "I", Cond.fieldLink RX10 145 "KneelingStonesModel" "takenAll" "I", Cond.fieldLink RX10 132 "KneelingStonesModel" "spiltAll" "I", Cond.methodLink RX10 151 yX10_layAll, Cond.instanceMethod yX10_layAll, Cond.selects RX10 yX10_layAll yX10_layAll, Cond.code yX10_layAll cX10_layAll 4 none, Cond.methodLink RX10 141 yX10_put, Cond.instanceMethod yX10_put, Cond.selects RX10 yX10_put yX10_put, Cond.code yX10_put cX10_put 3 none, Cond.methodLink RX10 192 yX10_goWeek]
def wsX10_saves_r2 : List Cond := [Cond.instanceMethod yX10_goWeek, Cond.selects RX10 yX10_goWeek yX10_goWeek, Cond.code yX10_goWeek cX10_goWeek 4 none, Cond.fieldLink RX10 113 "KneelingStonesModel" "parishes" "I", Cond.fieldLink RX10 26 "KneelingStonesModel" "walkersOf" "[I", Cond.fieldLink RX10 29 "KneelingStonesModel" "wishOf" "[I", Cond.fieldLink RX10 32 "KneelingStonesModel" "sinOf" "[I", Cond.fieldLink RX10 41 "KneelingStonesModel" "everyOf" "[I", Cond.methodLink RX10 183 yX10_draw, Cond.instanceMethod yX10_draw, Cond.selects RX10 yX10_draw yX10_draw, Cond.code yX10_draw cX10_draw 1 (some .int), Cond.constantLong RX10 160 (1103515245), Cond.constantLong RX10 162 (12345), Cond.constantLong RX10 164 (2147483647), Cond.constantLong RX10 166 (65536), Cond.constantLong RX10 168 (10), Cond.methodLink RX10 186 yX10_doWish, Cond.instanceMethod yX10_doWish, Cond.selects RX10 yX10_doWish yX10_doWish, Cond.code yX10_doWish cX10_doWish 4 none, Cond.fieldLink RX10 35 "KneelingStonesModel" "wishRule" "[I", Cond.methodLink RX10 180 yX10_cairnBy, Cond.instanceMethod yX10_cairnBy]
def wsX10_saves_r3 : List Cond := [Cond.selects RX10 yX10_cairnBy yX10_cairnBy, Cond.code yX10_cairnBy cX10_cairnBy 3 (some .int), Cond.methodLink RX10 170 yX10_withMost, Cond.instanceMethod yX10_withMost, Cond.selects RX10 yX10_withMost yX10_withMost, Cond.code yX10_withMost cX10_withMost 3 (some .int), Cond.methodLink RX10 174 yX10_withLeast, Cond.instanceMethod yX10_withLeast, Cond.selects RX10 yX10_withLeast yX10_withLeast, Cond.code yX10_withLeast cX10_withLeast 3 (some .int), Cond.methodLink RX10 126 yX10_gift, Cond.instanceMethod yX10_gift, Cond.selects RX10 yX10_gift yX10_gift, Cond.code yX10_gift cX10_gift 2 (some .int), Cond.fieldLink RX10 20 "KneelingStonesModel" "kindOf" "[I", Cond.fieldLink RX10 23 "KneelingStonesModel" "numberOf" "[I", Cond.methodLink RX10 189 yX10_doSin, Cond.instanceMethod yX10_doSin, Cond.selects RX10 yX10_doSin yX10_doSin, Cond.code yX10_doSin cX10_doSin 5 none, Cond.fieldLink RX10 38 "KneelingStonesModel" "sinRule" "[I", Cond.methodLink RX10 157 yX10_markOf, Cond.instanceMethod yX10_markOf, Cond.selects RX10 yX10_markOf yX10_markOf]
def wsX10_saves_r4 : List Cond := [Cond.code yX10_markOf cX10_markOf 3 (some .int), Cond.methodLink RX10 154 yX10_takeAll, Cond.instanceMethod yX10_takeAll, Cond.selects RX10 yX10_takeAll yX10_takeAll, Cond.code yX10_takeAll cX10_takeAll 4 none, Cond.methodLink RX10 205 yX10_back, Cond.instanceMethod yX10_back, Cond.selects RX10 yX10_back yX10_back, Cond.code yX10_back cX10_back 2 none]
def wsX10_saves : List Cond := .code yX10_saves cX10_saves 7 (some .boolean) :: ((wsX10_saves_r1 ++ (wsX10_saves_r2 ++ (wsX10_saves_r3 ++ wsX10_saves_r4))) ++ wsX100)
def wsX10_saved_r1 : List Cond := [Cond.methodLink RX10 106 yX10_isCustom, Cond.instanceMethod yX10_isCustom, Cond.selects RX10 yX10_isCustom yX10_isCustom, Cond.initialized RX10, Cond.code yX10_isCustom cX10_isCustom 2 (some .boolean), Cond.fieldLink RX10 103 "KneelingStonesModel" "customs" "I", Cond.methodLink RX10 72 yX10_within, Cond.static yX10_within, Cond.code yX10_within cX10_within 3 (some .boolean), Cond.methodLink RX10 148 yX10_isCairn, Cond.static yX10_isCairn, Cond.code yX10_isCairn cX10_isCairn 1 (some .boolean), Cond.methodLink RX10 270 yX10_saves, Cond.instanceMethod yX10_saves, Cond.selects RX10 yX10_saves yX10_saves, Cond.code yX10_saves cX10_saves 7 (some .boolean), Cond.fieldLink RX10 13 "KneelingStonesModel" "height" "[I", Cond.methodLink RX10 202 yX10_save, Cond.instanceMethod yX10_save, Cond.selects RX10 yX10_save yX10_save, Cond.code yX10_save cX10_save 2 none, Cond.fieldLink RX10 16 "KneelingStonesModel" "seedNow" "J", Cond.fieldLink RX10 199 "KneelingStonesModel" "savedSeed" "J", Cond.fieldLink RX10 51 "KneelingStonesModel" "savedOf" "[I"]
def wsX10_saved_r2 : List Cond := [Cond.fieldLink RX10 7 "KneelingStonesModel" "marks" "[I", Cond.fieldLink RX10 138 "KneelingStonesModel" "week" "I", Cond.fieldLink RX10 177 "KneelingStonesModel" "last" "I", Cond.fieldLink RX10 135 "KneelingStonesModel" "laidAll" "I", Cond.fieldLink RX10 145 "KneelingStonesModel" "takenAll" "I", Cond.fieldLink RX10 132 "KneelingStonesModel" "spiltAll" "I", Cond.methodLink RX10 151 yX10_layAll, Cond.instanceMethod yX10_layAll, Cond.selects RX10 yX10_layAll yX10_layAll, Cond.code yX10_layAll cX10_layAll 4 none, Cond.methodLink RX10 141 yX10_put, Cond.instanceMethod yX10_put, Cond.selects RX10 yX10_put yX10_put, Cond.code yX10_put cX10_put 3 none, Cond.methodLink RX10 192 yX10_goWeek, Cond.instanceMethod yX10_goWeek, Cond.selects RX10 yX10_goWeek yX10_goWeek, Cond.code yX10_goWeek cX10_goWeek 4 none, Cond.fieldLink RX10 113 "KneelingStonesModel" "parishes" "I", Cond.fieldLink RX10 26 "KneelingStonesModel" "walkersOf" "[I", Cond.fieldLink RX10 29 "KneelingStonesModel" "wishOf" "[I", Cond.fieldLink RX10 32 "KneelingStonesModel" "sinOf" "[I", Cond.fieldLink RX10 41 "KneelingStonesModel" "everyOf" "[I", Cond.methodLink RX10 183 yX10_draw]
def wsX10_saved_r3 : List Cond := [Cond.instanceMethod yX10_draw, Cond.selects RX10 yX10_draw yX10_draw, Cond.code yX10_draw cX10_draw 1 (some .int), Cond.constantLong RX10 160 (1103515245), Cond.constantLong RX10 162 (12345), Cond.constantLong RX10 164 (2147483647), Cond.constantLong RX10 166 (65536), Cond.constantLong RX10 168 (10), Cond.methodLink RX10 186 yX10_doWish, Cond.instanceMethod yX10_doWish, Cond.selects RX10 yX10_doWish yX10_doWish, Cond.code yX10_doWish cX10_doWish 4 none, Cond.fieldLink RX10 35 "KneelingStonesModel" "wishRule" "[I", Cond.methodLink RX10 180 yX10_cairnBy, Cond.instanceMethod yX10_cairnBy, Cond.selects RX10 yX10_cairnBy yX10_cairnBy, Cond.code yX10_cairnBy cX10_cairnBy 3 (some .int), Cond.methodLink RX10 170 yX10_withMost, Cond.instanceMethod yX10_withMost, Cond.selects RX10 yX10_withMost yX10_withMost, Cond.code yX10_withMost cX10_withMost 3 (some .int), Cond.methodLink RX10 174 yX10_withLeast, Cond.instanceMethod yX10_withLeast, Cond.selects RX10 yX10_withLeast yX10_withLeast]
def wsX10_saved_r4 : List Cond := [Cond.code yX10_withLeast cX10_withLeast 3 (some .int), Cond.methodLink RX10 126 yX10_gift, Cond.instanceMethod yX10_gift, Cond.selects RX10 yX10_gift yX10_gift, Cond.code yX10_gift cX10_gift 2 (some .int), Cond.fieldLink RX10 20 "KneelingStonesModel" "kindOf" "[I", Cond.fieldLink RX10 23 "KneelingStonesModel" "numberOf" "[I", Cond.methodLink RX10 189 yX10_doSin, Cond.instanceMethod yX10_doSin, Cond.selects RX10 yX10_doSin yX10_doSin, Cond.code yX10_doSin cX10_doSin 5 none, Cond.fieldLink RX10 38 "KneelingStonesModel" "sinRule" "[I", Cond.methodLink RX10 157 yX10_markOf, Cond.instanceMethod yX10_markOf, Cond.selects RX10 yX10_markOf yX10_markOf, Cond.code yX10_markOf cX10_markOf 3 (some .int), Cond.methodLink RX10 154 yX10_takeAll, Cond.instanceMethod yX10_takeAll, Cond.selects RX10 yX10_takeAll yX10_takeAll, Cond.code yX10_takeAll cX10_takeAll 4 none, Cond.methodLink RX10 205 yX10_back, Cond.instanceMethod yX10_back, Cond.selects RX10 yX10_back yX10_back, Cond.code yX10_back cX10_back 2 none]
def wsX10_saved : List Cond := .code yX10_saved cX10_saved 5 (some .int) :: ((wsX10_saved_r1 ++ (wsX10_saved_r2 ++ (wsX10_saved_r3 ++ wsX10_saved_r4))) ++ wsX100)
def wsX10_unlike_r1 : List Cond := [Cond.methodLink RX10 106 yX10_isCustom, Cond.instanceMethod yX10_isCustom, Cond.selects RX10 yX10_isCustom yX10_isCustom, Cond.initialized RX10, Cond.code yX10_isCustom cX10_isCustom 2 (some .boolean), Cond.fieldLink RX10 103 "KneelingStonesModel" "customs" "I", Cond.methodLink RX10 72 yX10_within, Cond.static yX10_within, Cond.code yX10_within cX10_within 3 (some .boolean), Cond.methodLink RX10 208 yX10_wouldOf, Cond.instanceMethod yX10_wouldOf, Cond.selects RX10 yX10_wouldOf yX10_wouldOf, Cond.code yX10_wouldOf cX10_wouldOf 5 (some .int), Cond.fieldLink RX10 13 "KneelingStonesModel" "height" "[I", Cond.methodLink RX10 202 yX10_save, Cond.instanceMethod yX10_save, Cond.selects RX10 yX10_save yX10_save, Cond.code yX10_save cX10_save 2 none, Cond.fieldLink RX10 16 "KneelingStonesModel" "seedNow" "J", Cond.fieldLink RX10 199 "KneelingStonesModel" "savedSeed" "J", Cond.fieldLink RX10 51 "KneelingStonesModel" "savedOf" "[I", Cond.fieldLink RX10 7 "KneelingStonesModel" "marks" "[I", Cond.fieldLink RX10 138 "KneelingStonesModel" "week" "I", Cond.fieldLink RX10 177 "KneelingStonesModel" "last" "I"]
def wsX10_unlike_r2 : List Cond := [Cond.fieldLink RX10 135 "KneelingStonesModel" "laidAll" "I", Cond.fieldLink RX10 145 "KneelingStonesModel" "takenAll" "I", Cond.fieldLink RX10 132 "KneelingStonesModel" "spiltAll" "I", Cond.methodLink RX10 192 yX10_goWeek, Cond.instanceMethod yX10_goWeek, Cond.selects RX10 yX10_goWeek yX10_goWeek, Cond.code yX10_goWeek cX10_goWeek 4 none, Cond.fieldLink RX10 113 "KneelingStonesModel" "parishes" "I", Cond.fieldLink RX10 26 "KneelingStonesModel" "walkersOf" "[I", Cond.fieldLink RX10 29 "KneelingStonesModel" "wishOf" "[I", Cond.fieldLink RX10 32 "KneelingStonesModel" "sinOf" "[I", Cond.fieldLink RX10 41 "KneelingStonesModel" "everyOf" "[I", Cond.methodLink RX10 183 yX10_draw, Cond.instanceMethod yX10_draw, Cond.selects RX10 yX10_draw yX10_draw, Cond.code yX10_draw cX10_draw 1 (some .int), Cond.constantLong RX10 160 (1103515245), Cond.constantLong RX10 162 (12345), Cond.constantLong RX10 164 (2147483647), Cond.constantLong RX10 166 (65536), Cond.constantLong RX10 168 (10), Cond.methodLink RX10 186 yX10_doWish, Cond.instanceMethod yX10_doWish, Cond.selects RX10 yX10_doWish yX10_doWish]
def wsX10_unlike_r3 : List Cond := [Cond.code yX10_doWish cX10_doWish 4 none, Cond.fieldLink RX10 35 "KneelingStonesModel" "wishRule" "[I", Cond.methodLink RX10 180 yX10_cairnBy, Cond.instanceMethod yX10_cairnBy, Cond.selects RX10 yX10_cairnBy yX10_cairnBy, Cond.code yX10_cairnBy cX10_cairnBy 3 (some .int), Cond.methodLink RX10 170 yX10_withMost, Cond.instanceMethod yX10_withMost, Cond.selects RX10 yX10_withMost yX10_withMost, Cond.code yX10_withMost cX10_withMost 3 (some .int), Cond.methodLink RX10 174 yX10_withLeast, Cond.instanceMethod yX10_withLeast, Cond.selects RX10 yX10_withLeast yX10_withLeast, Cond.code yX10_withLeast cX10_withLeast 3 (some .int), Cond.methodLink RX10 126 yX10_gift, Cond.instanceMethod yX10_gift, Cond.selects RX10 yX10_gift yX10_gift, Cond.code yX10_gift cX10_gift 2 (some .int), Cond.fieldLink RX10 20 "KneelingStonesModel" "kindOf" "[I", Cond.fieldLink RX10 23 "KneelingStonesModel" "numberOf" "[I", Cond.methodLink RX10 151 yX10_layAll, Cond.instanceMethod yX10_layAll, Cond.selects RX10 yX10_layAll yX10_layAll, Cond.code yX10_layAll cX10_layAll 4 none]
def wsX10_unlike_r4 : List Cond := [Cond.methodLink RX10 141 yX10_put, Cond.instanceMethod yX10_put, Cond.selects RX10 yX10_put yX10_put, Cond.code yX10_put cX10_put 3 none, Cond.methodLink RX10 189 yX10_doSin, Cond.instanceMethod yX10_doSin, Cond.selects RX10 yX10_doSin yX10_doSin, Cond.code yX10_doSin cX10_doSin 5 none, Cond.fieldLink RX10 38 "KneelingStonesModel" "sinRule" "[I", Cond.methodLink RX10 157 yX10_markOf, Cond.instanceMethod yX10_markOf, Cond.selects RX10 yX10_markOf yX10_markOf, Cond.code yX10_markOf cX10_markOf 3 (some .int), Cond.methodLink RX10 154 yX10_takeAll, Cond.instanceMethod yX10_takeAll, Cond.selects RX10 yX10_takeAll yX10_takeAll, Cond.code yX10_takeAll cX10_takeAll 4 none, Cond.methodLink RX10 205 yX10_back, Cond.instanceMethod yX10_back, Cond.selects RX10 yX10_back yX10_back, Cond.code yX10_back cX10_back 2 none]
def wsX10_unlike : List Cond := .code yX10_unlike cX10_unlike 7 (some .int) :: ((wsX10_unlike_r1 ++ (wsX10_unlike_r2 ++ (wsX10_unlike_r3 ++ wsX10_unlike_r4))) ++ wsX100)
def wsX10_lie : List Cond := .code yX10_lie cX10_lie 7 (some .int) :: ([.fieldLink RX10 13 "KneelingStonesModel" "height" "[I", .methodLink RX10 148 yX10_isCairn, .static yX10_isCairn, .initialized RX10, .code yX10_isCairn cX10_isCairn 1 (some .boolean), .methodLink RX10 72 yX10_within, .static yX10_within, .code yX10_within cX10_within 3 (some .boolean), .methodLink RX10 196 yX10_pebbles, .instanceMethod yX10_pebbles, .selects RX10 yX10_pebbles yX10_pebbles, .code yX10_pebbles cX10_pebbles 3 (some .int)] ++ wsX100)
def wsX10_image : List Cond := .code yX10_image cX10_image 2 (some .int) :: ([.fieldLink RX10 273 "KneelingStonesModel" "isKept" "Z", .fieldLink RX10 199 "KneelingStonesModel" "savedSeed" "J", .fieldLink RX10 276 "KneelingStonesModel" "keptSeed" "J", .fieldLink RX10 48 "KneelingStonesModel" "keptOf" "[I", .fieldLink RX10 51 "KneelingStonesModel" "savedOf" "[I", .methodLink RX10 202 yX10_save, .instanceMethod yX10_save, .selects RX10 yX10_save yX10_save, .initialized RX10, .code yX10_save cX10_save 2 none, .fieldLink RX10 16 "KneelingStonesModel" "seedNow" "J", .fieldLink RX10 7 "KneelingStonesModel" "marks" "[I", .fieldLink RX10 13 "KneelingStonesModel" "height" "[I", .fieldLink RX10 138 "KneelingStonesModel" "week" "I", .fieldLink RX10 177 "KneelingStonesModel" "last" "I", .fieldLink RX10 135 "KneelingStonesModel" "laidAll" "I", .fieldLink RX10 145 "KneelingStonesModel" "takenAll" "I", .fieldLink RX10 132 "KneelingStonesModel" "spiltAll" "I", .methodLink RX10 196 yX10_pebbles, .instanceMethod yX10_pebbles, .selects RX10 yX10_pebbles yX10_pebbles, .code yX10_pebbles cX10_pebbles 3 (some .int)] ++ wsX100)
def wsX10_restore : List Cond := .code yX10_restore cX10_restore 2 (some .int) :: ([.fieldLink RX10 273 "KneelingStonesModel" "isKept" "Z", .fieldLink RX10 276 "KneelingStonesModel" "keptSeed" "J", .fieldLink RX10 199 "KneelingStonesModel" "savedSeed" "J", .fieldLink RX10 51 "KneelingStonesModel" "savedOf" "[I", .fieldLink RX10 48 "KneelingStonesModel" "keptOf" "[I", .methodLink RX10 205 yX10_back, .instanceMethod yX10_back, .selects RX10 yX10_back yX10_back, .initialized RX10, .code yX10_back cX10_back 2 none, .fieldLink RX10 16 "KneelingStonesModel" "seedNow" "J", .fieldLink RX10 7 "KneelingStonesModel" "marks" "[I", .fieldLink RX10 13 "KneelingStonesModel" "height" "[I", .fieldLink RX10 138 "KneelingStonesModel" "week" "I", .fieldLink RX10 177 "KneelingStonesModel" "last" "I", .fieldLink RX10 135 "KneelingStonesModel" "laidAll" "I", .fieldLink RX10 145 "KneelingStonesModel" "takenAll" "I", .fieldLink RX10 132 "KneelingStonesModel" "spiltAll" "I", .methodLink RX10 196 yX10_pebbles, .instanceMethod yX10_pebbles, .selects RX10 yX10_pebbles yX10_pebbles, .code yX10_pebbles cX10_pebbles 3 (some .int)] ++ wsX100)
def wsX10_howMany : List Cond := .code yX10_howMany cX10_howMany 2 (some .int) :: ([.fieldLink RX10 113 "KneelingStonesModel" "parishes" "I", .fieldLink RX10 103 "KneelingStonesModel" "customs" "I", .fieldLink RX10 138 "KneelingStonesModel" "week" "I", .fieldLink RX10 16 "KneelingStonesModel" "seedNow" "J", .fieldLink RX10 177 "KneelingStonesModel" "last" "I", .fieldLink RX10 135 "KneelingStonesModel" "laidAll" "I", .fieldLink RX10 145 "KneelingStonesModel" "takenAll" "I", .fieldLink RX10 132 "KneelingStonesModel" "spiltAll" "I", .fieldLink RX10 68 "KneelingStonesModel" "pageLength" "I", .methodLink RX10 196 yX10_pebbles, .instanceMethod yX10_pebbles, .selects RX10 yX10_pebbles yX10_pebbles, .initialized RX10, .code yX10_pebbles cX10_pebbles 3 (some .int), .fieldLink RX10 13 "KneelingStonesModel" "height" "[I"] ++ wsX100)
def wsX10_count : List Cond := .code yX10_count cX10_count 2 (some .int) :: ([.methodLink RX10 279 yX10_howMany, .instanceMethod yX10_howMany, .selects RX10 yX10_howMany yX10_howMany, .initialized RX10, .code yX10_howMany cX10_howMany 2 (some .int), .fieldLink RX10 113 "KneelingStonesModel" "parishes" "I", .fieldLink RX10 103 "KneelingStonesModel" "customs" "I", .fieldLink RX10 138 "KneelingStonesModel" "week" "I", .fieldLink RX10 16 "KneelingStonesModel" "seedNow" "J", .fieldLink RX10 177 "KneelingStonesModel" "last" "I", .fieldLink RX10 135 "KneelingStonesModel" "laidAll" "I", .fieldLink RX10 145 "KneelingStonesModel" "takenAll" "I", .fieldLink RX10 132 "KneelingStonesModel" "spiltAll" "I", .fieldLink RX10 68 "KneelingStonesModel" "pageLength" "I", .methodLink RX10 196 yX10_pebbles, .instanceMethod yX10_pebbles, .selects RX10 yX10_pebbles yX10_pebbles, .code yX10_pebbles cX10_pebbles 3 (some .int), .fieldLink RX10 13 "KneelingStonesModel" "height" "[I"] ++ wsX100)
def wsX10_mix : List Cond := .code yX10_mix cX10_mix 3 none :: ([.constantLong RX10 282 (31), .fieldLink RX10 284 "KneelingStonesModel" "h" "J"] ++ wsX100)
def wsX10_mixCustom_r1 : List Cond := [Cond.methodLink RX10 110 yX10_customNow, Cond.instanceMethod yX10_customNow, Cond.selects RX10 yX10_customNow yX10_customNow, Cond.initialized RX10, Cond.code yX10_customNow cX10_customNow 3 (some .int), Cond.fieldLink RX10 35 "KneelingStonesModel" "wishRule" "[I", Cond.fieldLink RX10 38 "KneelingStonesModel" "sinRule" "[I", Cond.fieldLink RX10 41 "KneelingStonesModel" "everyOf" "[I", Cond.methodLink RX10 287 yX10_mix, Cond.instanceMethod yX10_mix, Cond.selects RX10 yX10_mix yX10_mix, Cond.code yX10_mix cX10_mix 3 none, Cond.constantLong RX10 282 (31), Cond.fieldLink RX10 284 "KneelingStonesModel" "h" "J", Cond.methodLink RX10 208 yX10_wouldOf, Cond.instanceMethod yX10_wouldOf, Cond.selects RX10 yX10_wouldOf yX10_wouldOf, Cond.code yX10_wouldOf cX10_wouldOf 5 (some .int), Cond.fieldLink RX10 13 "KneelingStonesModel" "height" "[I", Cond.methodLink RX10 202 yX10_save, Cond.instanceMethod yX10_save, Cond.selects RX10 yX10_save yX10_save, Cond.code yX10_save cX10_save 2 none, Cond.fieldLink RX10 16 "KneelingStonesModel" "seedNow" "J"]
def wsX10_mixCustom_r2 : List Cond := [Cond.fieldLink RX10 199 "KneelingStonesModel" "savedSeed" "J", Cond.fieldLink RX10 51 "KneelingStonesModel" "savedOf" "[I", Cond.fieldLink RX10 7 "KneelingStonesModel" "marks" "[I", Cond.fieldLink RX10 138 "KneelingStonesModel" "week" "I", Cond.fieldLink RX10 177 "KneelingStonesModel" "last" "I", Cond.fieldLink RX10 135 "KneelingStonesModel" "laidAll" "I", Cond.fieldLink RX10 145 "KneelingStonesModel" "takenAll" "I", Cond.fieldLink RX10 132 "KneelingStonesModel" "spiltAll" "I", Cond.methodLink RX10 192 yX10_goWeek, Cond.instanceMethod yX10_goWeek, Cond.selects RX10 yX10_goWeek yX10_goWeek, Cond.code yX10_goWeek cX10_goWeek 4 none, Cond.fieldLink RX10 113 "KneelingStonesModel" "parishes" "I", Cond.fieldLink RX10 26 "KneelingStonesModel" "walkersOf" "[I", Cond.fieldLink RX10 29 "KneelingStonesModel" "wishOf" "[I", Cond.fieldLink RX10 32 "KneelingStonesModel" "sinOf" "[I", Cond.methodLink RX10 183 yX10_draw, Cond.instanceMethod yX10_draw, Cond.selects RX10 yX10_draw yX10_draw, Cond.code yX10_draw cX10_draw 1 (some .int), Cond.constantLong RX10 160 (1103515245), Cond.constantLong RX10 162 (12345), Cond.constantLong RX10 164 (2147483647), Cond.constantLong RX10 166 (65536)]
def wsX10_mixCustom_r3 : List Cond := [Cond.constantLong RX10 168 (10), Cond.methodLink RX10 186 yX10_doWish, Cond.instanceMethod yX10_doWish, Cond.selects RX10 yX10_doWish yX10_doWish, Cond.code yX10_doWish cX10_doWish 4 none, Cond.methodLink RX10 180 yX10_cairnBy, Cond.instanceMethod yX10_cairnBy, Cond.selects RX10 yX10_cairnBy yX10_cairnBy, Cond.code yX10_cairnBy cX10_cairnBy 3 (some .int), Cond.methodLink RX10 170 yX10_withMost, Cond.instanceMethod yX10_withMost, Cond.selects RX10 yX10_withMost yX10_withMost, Cond.code yX10_withMost cX10_withMost 3 (some .int), Cond.methodLink RX10 174 yX10_withLeast, Cond.instanceMethod yX10_withLeast, Cond.selects RX10 yX10_withLeast yX10_withLeast, Cond.code yX10_withLeast cX10_withLeast 3 (some .int), Cond.methodLink RX10 126 yX10_gift, Cond.instanceMethod yX10_gift, Cond.selects RX10 yX10_gift yX10_gift, Cond.code yX10_gift cX10_gift 2 (some .int), Cond.fieldLink RX10 20 "KneelingStonesModel" "kindOf" "[I", Cond.fieldLink RX10 23 "KneelingStonesModel" "numberOf" "[I", Cond.methodLink RX10 151 yX10_layAll]
def wsX10_mixCustom_r4 : List Cond := [Cond.instanceMethod yX10_layAll, Cond.selects RX10 yX10_layAll yX10_layAll, Cond.code yX10_layAll cX10_layAll 4 none, Cond.methodLink RX10 141 yX10_put, Cond.instanceMethod yX10_put, Cond.selects RX10 yX10_put yX10_put, Cond.code yX10_put cX10_put 3 none, Cond.methodLink RX10 189 yX10_doSin, Cond.instanceMethod yX10_doSin, Cond.selects RX10 yX10_doSin yX10_doSin, Cond.code yX10_doSin cX10_doSin 5 none, Cond.methodLink RX10 157 yX10_markOf, Cond.instanceMethod yX10_markOf, Cond.selects RX10 yX10_markOf yX10_markOf, Cond.code yX10_markOf cX10_markOf 3 (some .int), Cond.methodLink RX10 154 yX10_takeAll, Cond.instanceMethod yX10_takeAll, Cond.selects RX10 yX10_takeAll yX10_takeAll, Cond.code yX10_takeAll cX10_takeAll 4 none, Cond.methodLink RX10 205 yX10_back, Cond.instanceMethod yX10_back, Cond.selects RX10 yX10_back yX10_back, Cond.code yX10_back cX10_back 2 none]
def wsX10_mixCustom : List Cond := .code yX10_mixCustom cX10_mixCustom 3 none :: ((wsX10_mixCustom_r1 ++ (wsX10_mixCustom_r2 ++ (wsX10_mixCustom_r3 ++ wsX10_mixCustom_r4))) ++ wsX100)
def wsX10_digest_r1 : List Cond := [Cond.constantLong RX10 291 (563), Cond.fieldLink RX10 284 "KneelingStonesModel" "h" "J", Cond.fieldLink RX10 13 "KneelingStonesModel" "height" "[I", Cond.fieldLink RX10 113 "KneelingStonesModel" "parishes" "I", Cond.fieldLink RX10 103 "KneelingStonesModel" "customs" "I", Cond.fieldLink RX10 68 "KneelingStonesModel" "pageLength" "I", Cond.fieldLink RX10 44 "KneelingStonesModel" "page" "[B", Cond.methodLink RX10 287 yX10_mix, Cond.instanceMethod yX10_mix, Cond.selects RX10 yX10_mix yX10_mix, Cond.initialized RX10, Cond.code yX10_mix cX10_mix 3 none, Cond.constantLong RX10 282 (31), Cond.methodLink RX10 157 yX10_markOf, Cond.instanceMethod yX10_markOf, Cond.selects RX10 yX10_markOf yX10_markOf, Cond.code yX10_markOf cX10_markOf 3 (some .int), Cond.fieldLink RX10 7 "KneelingStonesModel" "marks" "[I", Cond.methodLink RX10 129 yX10_parishNow, Cond.instanceMethod yX10_parishNow, Cond.selects RX10 yX10_parishNow yX10_parishNow, Cond.code yX10_parishNow cX10_parishNow 3 (some .int), Cond.fieldLink RX10 20 "KneelingStonesModel" "kindOf" "[I", Cond.fieldLink RX10 23 "KneelingStonesModel" "numberOf" "[I"]
def wsX10_digest_r2 : List Cond := [Cond.fieldLink RX10 26 "KneelingStonesModel" "walkersOf" "[I", Cond.fieldLink RX10 29 "KneelingStonesModel" "wishOf" "[I", Cond.fieldLink RX10 32 "KneelingStonesModel" "sinOf" "[I", Cond.methodLink RX10 126 yX10_gift, Cond.instanceMethod yX10_gift, Cond.selects RX10 yX10_gift yX10_gift, Cond.code yX10_gift cX10_gift 2 (some .int), Cond.methodLink RX10 293 yX10_mixCustom, Cond.instanceMethod yX10_mixCustom, Cond.selects RX10 yX10_mixCustom yX10_mixCustom, Cond.code yX10_mixCustom cX10_mixCustom 3 none, Cond.methodLink RX10 110 yX10_customNow, Cond.instanceMethod yX10_customNow, Cond.selects RX10 yX10_customNow yX10_customNow, Cond.code yX10_customNow cX10_customNow 3 (some .int), Cond.fieldLink RX10 35 "KneelingStonesModel" "wishRule" "[I", Cond.fieldLink RX10 38 "KneelingStonesModel" "sinRule" "[I", Cond.fieldLink RX10 41 "KneelingStonesModel" "everyOf" "[I", Cond.methodLink RX10 208 yX10_wouldOf, Cond.instanceMethod yX10_wouldOf, Cond.selects RX10 yX10_wouldOf yX10_wouldOf, Cond.code yX10_wouldOf cX10_wouldOf 5 (some .int), Cond.methodLink RX10 202 yX10_save, Cond.instanceMethod yX10_save]
def wsX10_digest_r3 : List Cond := [Cond.selects RX10 yX10_save yX10_save, Cond.code yX10_save cX10_save 2 none, Cond.fieldLink RX10 16 "KneelingStonesModel" "seedNow" "J", Cond.fieldLink RX10 199 "KneelingStonesModel" "savedSeed" "J", Cond.fieldLink RX10 51 "KneelingStonesModel" "savedOf" "[I", Cond.fieldLink RX10 138 "KneelingStonesModel" "week" "I", Cond.fieldLink RX10 177 "KneelingStonesModel" "last" "I", Cond.fieldLink RX10 135 "KneelingStonesModel" "laidAll" "I", Cond.fieldLink RX10 145 "KneelingStonesModel" "takenAll" "I", Cond.fieldLink RX10 132 "KneelingStonesModel" "spiltAll" "I", Cond.methodLink RX10 192 yX10_goWeek, Cond.instanceMethod yX10_goWeek, Cond.selects RX10 yX10_goWeek yX10_goWeek, Cond.code yX10_goWeek cX10_goWeek 4 none, Cond.methodLink RX10 183 yX10_draw, Cond.instanceMethod yX10_draw, Cond.selects RX10 yX10_draw yX10_draw, Cond.code yX10_draw cX10_draw 1 (some .int), Cond.constantLong RX10 160 (1103515245), Cond.constantLong RX10 162 (12345), Cond.constantLong RX10 164 (2147483647), Cond.constantLong RX10 166 (65536), Cond.constantLong RX10 168 (10), Cond.methodLink RX10 186 yX10_doWish]
def wsX10_digest_r4 : List Cond := [Cond.instanceMethod yX10_doWish, Cond.selects RX10 yX10_doWish yX10_doWish, Cond.code yX10_doWish cX10_doWish 4 none, Cond.methodLink RX10 180 yX10_cairnBy, Cond.instanceMethod yX10_cairnBy, Cond.selects RX10 yX10_cairnBy yX10_cairnBy, Cond.code yX10_cairnBy cX10_cairnBy 3 (some .int), Cond.methodLink RX10 170 yX10_withMost, Cond.instanceMethod yX10_withMost, Cond.selects RX10 yX10_withMost yX10_withMost, Cond.code yX10_withMost cX10_withMost 3 (some .int), Cond.methodLink RX10 174 yX10_withLeast, Cond.instanceMethod yX10_withLeast, Cond.selects RX10 yX10_withLeast yX10_withLeast, Cond.code yX10_withLeast cX10_withLeast 3 (some .int), Cond.methodLink RX10 151 yX10_layAll, Cond.instanceMethod yX10_layAll, Cond.selects RX10 yX10_layAll yX10_layAll, Cond.code yX10_layAll cX10_layAll 4 none, Cond.methodLink RX10 141 yX10_put, Cond.instanceMethod yX10_put, Cond.selects RX10 yX10_put yX10_put, Cond.code yX10_put cX10_put 3 none, Cond.methodLink RX10 189 yX10_doSin]
def wsX10_digest_r5 : List Cond := [Cond.instanceMethod yX10_doSin, Cond.selects RX10 yX10_doSin yX10_doSin, Cond.code yX10_doSin cX10_doSin 5 none, Cond.methodLink RX10 154 yX10_takeAll, Cond.instanceMethod yX10_takeAll, Cond.selects RX10 yX10_takeAll yX10_takeAll, Cond.code yX10_takeAll cX10_takeAll 4 none, Cond.methodLink RX10 205 yX10_back, Cond.instanceMethod yX10_back, Cond.selects RX10 yX10_back yX10_back, Cond.code yX10_back cX10_back 2 none, Cond.methodLink RX10 264 yX10_boundsOf, Cond.instanceMethod yX10_boundsOf, Cond.selects RX10 yX10_boundsOf yX10_boundsOf, Cond.code yX10_boundsOf cX10_boundsOf 7 (some .int), Cond.fieldLink RX10 54 "KneelingStonesModel" "fewest" "[I", Cond.fieldLink RX10 57 "KneelingStonesModel" "most" "[I", Cond.methodLink RX10 260 yX10_canNet, Cond.instanceMethod yX10_canNet, Cond.selects RX10 yX10_canNet yX10_canNet, Cond.code yX10_canNet cX10_canNet 5 (some .boolean), Cond.constant RX10 249 (268435456), Cond.methodLink RX10 256 yX10_layNets, Cond.instanceMethod yX10_layNets]
def wsX10_digest_r6 : List Cond := [Cond.selects RX10 yX10_layNets yX10_layNets, Cond.code yX10_layNets cX10_layNets 8 none, Cond.fieldLink RX10 60 "KneelingStonesModel" "fewestThen" "[I", Cond.fieldLink RX10 63 "KneelingStonesModel" "mostThen" "[I", Cond.methodLink RX10 72 yX10_within, Cond.static yX10_within, Cond.code yX10_within cX10_within 3 (some .boolean), Cond.methodLink RX10 250 yX10_canBe, Cond.instanceMethod yX10_canBe, Cond.selects RX10 yX10_canBe yX10_canBe, Cond.code yX10_canBe cX10_canBe 7 (some .boolean), Cond.methodLink RX10 238 yX10_netOf, Cond.instanceMethod yX10_netOf, Cond.selects RX10 yX10_netOf yX10_netOf, Cond.code yX10_netOf cX10_netOf 4 (some .int), Cond.methodLink RX10 253 yX10_addWay, Cond.instanceMethod yX10_addWay, Cond.selects RX10 yX10_addWay yX10_addWay, Cond.code yX10_addWay cX10_addWay 7 none, Cond.methodLink RX10 279 yX10_howMany, Cond.instanceMethod yX10_howMany, Cond.selects RX10 yX10_howMany yX10_howMany, Cond.code yX10_howMany cX10_howMany 2 (some .int), Cond.methodLink RX10 196 yX10_pebbles]
def wsX10_digest_r7 : List Cond := [Cond.instanceMethod yX10_pebbles, Cond.selects RX10 yX10_pebbles yX10_pebbles, Cond.code yX10_pebbles cX10_pebbles 3 (some .int)]
def wsX10_digest : List Cond := .code yX10_digest cX10_digest 3 (some .long) :: ((wsX10_digest_r1 ++ (wsX10_digest_r2 ++ (wsX10_digest_r3 ++ (wsX10_digest_r4 ++ (wsX10_digest_r5 ++ (wsX10_digest_r6 ++ wsX10_digest_r7)))))) ++ wsX100)
def wsJ9_abs_0f7a4 : List Cond := .code yJ9_abs_0f7a4 cJ9_abs_0f7a4 1 (some .int) :: ([])
def wsJ9_min_7cf53 : List Cond := .code yJ9_min_7cf53 cJ9_min_7cf53 2 (some .int) :: ([])
def wsL_law_r1 : List Cond := [Cond.classLink RL 7 RX9, Cond.instantiable RX9 11, Cond.initialized RX9, Cond.classLink RL 10 RX10, Cond.instantiable RX10 35, Cond.initialized RX10, Cond.constantLong RL 13 (4294967295), Cond.methodLink RL 9 yX9_init, Cond.instanceMethod yX9_init, Cond.code yX9_init cX9_init 1 none, Cond.methodLink RX9 3 objectInit, Cond.instanceMethod objectInit, Cond.code objectInit ⟨#[0xb1]⟩ 1 none, Cond.classLink RX9 9 RX4, Cond.instantiable RX4 2, Cond.initialized RX4, Cond.fieldLink RX9 12 "KneelingStones" "page" "LKneelingStones$Page;", Cond.classLink RX9 16 RX1, Cond.fieldLink RX9 18 "KneelingStones" "customs" "[LKneelingStones$Custom;", Cond.classLink RX9 22 RX5, Cond.fieldLink RX9 24 "KneelingStones" "parishes" "[LKneelingStones$Parish;", Cond.classLink RX9 28 RX2, Cond.instantiable RX2 8, Cond.initialized RX2]
def wsL_law_r2 : List Cond := [Cond.fieldLink RX9 31 "KneelingStones" "now" "LKneelingStones$Moor;", Cond.fieldLink RX9 35 "KneelingStones" "kept" "LKneelingStones$Moor;", Cond.fieldLink RX9 38 "KneelingStones" "dream" "LKneelingStones$Moor;", Cond.arrayClass .int, Cond.fieldLink RX9 41 "KneelingStones" "sizes" "[I", Cond.classLink RX9 45 RX8, Cond.instantiable RX8 2, Cond.initialized RX8, Cond.fieldLink RX9 48 "KneelingStones" "ways" "LKneelingStones$Ways;", Cond.instanceMethod yX4_init, Cond.code yX4_init cX4_init 1 none, Cond.methodLink RX4 3 objectInit, Cond.fieldLink RX4 9 "KneelingStones$Page" "codes" "[I", Cond.instanceMethod yX2_init, Cond.code yX2_init cX2_init 1 none, Cond.methodLink RX2 3 objectInit, Cond.fieldLink RX2 9 "KneelingStones$Moor" "heights" "[I", Cond.fieldLink RX2 15 "KneelingStones$Moor" "marks" "[I", Cond.fieldLink RX2 18 "KneelingStones$Moor" "seed" "I", Cond.instanceMethod yX8_init, Cond.code yX8_init cX8_init 1 none, Cond.methodLink RX8 3 objectInit, Cond.fieldLink RX8 11 "KneelingStones$Ways" "row" "[I", Cond.fieldLink RX8 15 "KneelingStones$Ways" "next" "[I"]
def wsL_law_r3 : List Cond := [Cond.methodLink RL 12 yX10_init, Cond.instanceMethod yX10_init, Cond.code yX10_init cX10_init 1 none, Cond.methodLink RX10 1 objectInit, Cond.fieldLink RX10 7 "KneelingStonesModel" "marks" "[I", Cond.fieldLink RX10 13 "KneelingStonesModel" "height" "[I", Cond.fieldLink RX10 16 "KneelingStonesModel" "seedNow" "J", Cond.fieldLink RX10 20 "KneelingStonesModel" "kindOf" "[I", Cond.fieldLink RX10 23 "KneelingStonesModel" "numberOf" "[I", Cond.fieldLink RX10 26 "KneelingStonesModel" "walkersOf" "[I", Cond.fieldLink RX10 29 "KneelingStonesModel" "wishOf" "[I", Cond.fieldLink RX10 32 "KneelingStonesModel" "sinOf" "[I", Cond.fieldLink RX10 35 "KneelingStonesModel" "wishRule" "[I", Cond.fieldLink RX10 38 "KneelingStonesModel" "sinRule" "[I", Cond.fieldLink RX10 41 "KneelingStonesModel" "everyOf" "[I", Cond.arrayClass .byte, Cond.fieldLink RX10 44 "KneelingStonesModel" "page" "[B", Cond.fieldLink RX10 48 "KneelingStonesModel" "keptOf" "[I", Cond.fieldLink RX10 51 "KneelingStonesModel" "savedOf" "[I", Cond.fieldLink RX10 54 "KneelingStonesModel" "fewest" "[I", Cond.fieldLink RX10 57 "KneelingStonesModel" "most" "[I", Cond.fieldLink RX10 60 "KneelingStonesModel" "fewestThen" "[I", Cond.fieldLink RX10 63 "KneelingStonesModel" "mostThen" "[I", Cond.methodLink RL 15 yX9_letters]
def wsL_law_r4 : List Cond := [Cond.instanceMethod yX9_letters, Cond.selects RX9 yX9_letters yX9_letters, Cond.code yX9_letters cX9_letters 4 (some .int), Cond.fieldLink RX9 56 "KneelingStones$Page" "length" "I", Cond.methodLink RX9 52 yX4_lettersIn, Cond.static yX4_lettersIn, Cond.code yX4_lettersIn cX4_lettersIn 5 (some .int), Cond.methodLink RX4 15 yX4_codeAt, Cond.static yX4_codeAt, Cond.code yX4_codeAt cX4_codeAt 3 (some .int), Cond.constantLong RX4 19 (255), Cond.methodLink RX9 60 yX4_write, Cond.instanceMethod yX4_write, Cond.selects RX4 yX4_write yX4_write, Cond.code yX4_write cX4_write 5 none, Cond.fieldLink RX4 21 "KneelingStones$Page" "length" "I", Cond.methodLink RL 19 yX10_letters, Cond.instanceMethod yX10_letters, Cond.selects RX10 yX10_letters yX10_letters, Cond.code yX10_letters cX10_letters 7 (some .int), Cond.constantLong RX10 66 (255), Cond.fieldLink RX10 68 "KneelingStonesModel" "pageLength" "I", Cond.methodLink RL 20 yX9_blank, Cond.instanceMethod yX9_blank]
def wsL_law_r5 : List Cond := [Cond.selects RX9 yX9_blank yX9_blank, Cond.code yX9_blank cX9_blank 2 (some .int), Cond.methodLink RL 24 yX10_blank, Cond.instanceMethod yX10_blank, Cond.selects RX10 yX10_blank yX10_blank, Cond.code yX10_blank cX10_blank 2 (some .int), Cond.methodLink RL 25 yX9_fault, Cond.instanceMethod yX9_fault, Cond.selects RX9 yX9_fault yX9_fault, Cond.code yX9_fault cX9_fault 1 (some .int), Cond.methodLink RX9 64 yX4_firstWrong, Cond.instanceMethod yX4_firstWrong, Cond.selects RX4 yX4_firstWrong yX4_firstWrong, Cond.code yX4_firstWrong cX4_firstWrong 2 (some .int), Cond.methodLink RX4 25 yX4_codeOf, Cond.instanceMethod yX4_codeOf, Cond.selects RX4 yX4_codeOf yX4_codeOf, Cond.code yX4_codeOf cX4_codeOf 2 (some .int), Cond.methodLink RX4 29 yX4_fits, Cond.static yX4_fits, Cond.code yX4_fits cX4_fits 2 (some .boolean), Cond.methodLink RX4 39 yX4_ruleOf, Cond.static yX4_ruleOf, Cond.code yX4_ruleOf cX4_ruleOf 1 (some .int)]
def wsL_law_r6 : List Cond := [Cond.methodLink RL 28 yX10_fault, Cond.instanceMethod yX10_fault, Cond.selects RX10 yX10_fault yX10_fault, Cond.code yX10_fault cX10_fault 1 (some .int), Cond.fieldLink RX10 93 "KneelingStonesModel" "faultAt" "I", Cond.methodLink RX10 100 yX10_readCustom, Cond.instanceMethod yX10_readCustom, Cond.selects RX10 yX10_readCustom yX10_readCustom, Cond.code yX10_readCustom cX10_readCustom 5 none, Cond.fieldLink RX10 86 "KneelingStonesModel" "newEvery" "I", Cond.fieldLink RX10 96 "KneelingStonesModel" "isWhole" "Z", Cond.methodLink RX10 89 yX10_nextState, Cond.instanceMethod yX10_nextState, Cond.selects RX10 yX10_nextState yX10_nextState, Cond.code yX10_nextState cX10_nextState 3 (some .int), Cond.fieldLink RX10 80 "KneelingStonesModel" "newWish" "I", Cond.fieldLink RX10 83 "KneelingStonesModel" "newSin" "I", Cond.methodLink RX10 76 yX10_ruleBy, Cond.static yX10_ruleBy, Cond.code yX10_ruleBy cX10_ruleBy 1 (some .int), Cond.methodLink RX10 72 yX10_within, Cond.static yX10_within, Cond.code yX10_within cX10_within 3 (some .boolean), Cond.methodLink RL 29 yX9_custom]
def wsL_law_r7 : List Cond := [Cond.instanceMethod yX9_custom, Cond.selects RX9 yX9_custom yX9_custom, Cond.code yX9_custom cX9_custom 1 (some .int), Cond.fieldLink RX9 72 "KneelingStones" "customCount" "I", Cond.methodLink RX9 68 yX4_isCustom, Cond.instanceMethod yX4_isCustom, Cond.selects RX4 yX4_isCustom yX4_isCustom, Cond.code yX4_isCustom cX4_isCustom 1 (some .boolean), Cond.methodLink RX4 33 yX4_firstWrong, Cond.methodLink RX9 75 yX4_asCustom, Cond.instanceMethod yX4_asCustom, Cond.selects RX4 yX4_asCustom yX4_asCustom, Cond.code yX4_asCustom cX4_asCustom 2 (some (.object "KneelingStones$Custom")), Cond.classLink RX4 37 RX1, Cond.instantiable RX1 3, Cond.initialized RX1, Cond.methodLink RX4 42 yX1_init, Cond.instanceMethod yX1_init, Cond.code yX1_init cX1_init 4 none, Cond.methodLink RX1 1 objectInit, Cond.fieldLink RX1 7 "KneelingStones$Custom" "wishRule" "I", Cond.fieldLink RX1 13 "KneelingStones$Custom" "sinRule" "I", Cond.fieldLink RX1 16 "KneelingStones$Custom" "every" "I", Cond.methodLink RL 32 yX10_custom]
def wsL_law_r8 : List Cond := [Cond.instanceMethod yX10_custom, Cond.selects RX10 yX10_custom yX10_custom, Cond.code yX10_custom cX10_custom 1 (some .int), Cond.fieldLink RX10 103 "KneelingStonesModel" "customs" "I", Cond.methodLink RL 33 yX9_customTold, Cond.instanceMethod yX9_customTold, Cond.selects RX9 yX9_customTold yX9_customTold, Cond.code yX9_customTold cX9_customTold 4 (some .int), Cond.methodLink RX9 79 yX9_customAt, Cond.instanceMethod yX9_customAt, Cond.selects RX9 yX9_customAt yX9_customAt, Cond.code yX9_customAt cX9_customAt 2 (some (.object "KneelingStones$Custom")), Cond.methodLink RX9 83 yX1_told, Cond.instanceMethod yX1_told, Cond.selects RX1 yX1_told yX1_told, Cond.code yX1_told cX1_told 2 (some .int), Cond.methodLink RL 37 yX10_customTold, Cond.instanceMethod yX10_customTold, Cond.selects RX10 yX10_customTold yX10_customTold, Cond.code yX10_customTold cX10_customTold 3 (some .int), Cond.methodLink RX10 106 yX10_isCustom, Cond.instanceMethod yX10_isCustom, Cond.selects RX10 yX10_isCustom yX10_isCustom, Cond.code yX10_isCustom cX10_isCustom 2 (some .boolean)]
def wsL_law_r9 : List Cond := [Cond.methodLink RX10 110 yX10_customNow, Cond.instanceMethod yX10_customNow, Cond.selects RX10 yX10_customNow yX10_customNow, Cond.code yX10_customNow cX10_customNow 3 (some .int), Cond.methodLink RL 38 yX9_parish, Cond.instanceMethod yX9_parish, Cond.selects RX9 yX9_parish yX9_parish, Cond.code yX9_parish cX9_parish 7 (some .int), Cond.fieldLink RX9 94 "KneelingStones" "parishCount" "I", Cond.fieldLink RX9 101 "KneelingStones$Parish" "walkers" "I", Cond.fieldLink RX9 104 "KneelingStones$Parish" "wish" "I", Cond.fieldLink RX9 107 "KneelingStones$Parish" "sin" "I", Cond.methodLink RX9 87 yX9_isKindWith, Cond.static yX9_isKindWith, Cond.code yX9_isKindWith cX9_isKindWith 2 (some .boolean), Cond.methodLink RX9 119 yX9_isCairn, Cond.static yX9_isCairn, Cond.code yX9_isCairn cX9_isCairn 1 (some .boolean), Cond.methodLink RX9 91 yX9_mayBe, Cond.static yX9_mayBe, Cond.code yX9_mayBe cX9_mayBe 2 (some .boolean), Cond.methodLink RX9 97 yX9_madeOf, Cond.static yX9_madeOf, Cond.code yX9_madeOf cX9_madeOf 2 (some (.object "KneelingStones$Parish"))]
def wsL_law_r10 : List Cond := [Cond.classLink RX9 254 RX6, Cond.instantiable RX6 4, Cond.initialized RX6, Cond.classLink RX9 259 RX7, Cond.instantiable RX7 4, Cond.initialized RX7, Cond.classLink RX9 262 RX0, Cond.instantiable RX0 4, Cond.initialized RX0, Cond.instantiable RX5 4, Cond.initialized RX5, Cond.methodLink RX9 256 yX6_init, Cond.instanceMethod yX6_init, Cond.code yX6_init cX6_init 2 none, Cond.methodLink RX6 3 yX5_init, Cond.instanceMethod yX5_init, Cond.code yX5_init cX5_init 2 none, Cond.methodLink RX5 3 objectInit, Cond.fieldLink RX5 9 "KneelingStones$Parish" "n" "I", Cond.methodLink RX9 261 yX7_init, Cond.instanceMethod yX7_init, Cond.code yX7_init cX7_init 2 none, Cond.methodLink RX7 3 yX5_init, Cond.methodLink RX9 264 yX0_init]
def wsL_law_r11 : List Cond := [Cond.instanceMethod yX0_init, Cond.code yX0_init cX0_init 2 none, Cond.methodLink RX0 3 yX7_init, Cond.methodLink RX9 265 yX5_init, Cond.methodLink RL 42 yX10_parish, Cond.instanceMethod yX10_parish, Cond.selects RX10 yX10_parish yX10_parish, Cond.code yX10_parish cX10_parish 6 (some .int), Cond.fieldLink RX10 113 "KneelingStonesModel" "parishes" "I", Cond.methodLink RX10 116 yX10_isNumber, Cond.static yX10_isNumber, Cond.code yX10_isNumber cX10_isNumber 2 (some .boolean), Cond.methodLink RX10 120 yX10_isTold, Cond.static yX10_isTold, Cond.code yX10_isTold cX10_isTold 2 (some .boolean), Cond.methodLink RL 43 yX9_as, Cond.instanceMethod yX9_as, Cond.selects RX9 yX9_as yX9_as, Cond.code yX9_as cX9_as 4 (some .int), Cond.methodLink RX9 110 yX9_parishAt, Cond.instanceMethod yX9_parishAt, Cond.selects RX9 yX9_parishAt yX9_parishAt, Cond.code yX9_parishAt cX9_parishAt 2 (some (.object "KneelingStones$Parish")), Cond.methodLink RX9 114 yX9_isOf]
def wsL_law_r12 : List Cond := [Cond.static yX9_isOf, Cond.code yX9_isOf cX9_isOf 2 (some .boolean), Cond.classLink RX9 254 "KneelingStones$Pious", Cond.classLink RX9 259 "KneelingStones$Sly", Cond.classLink RX9 262 "KneelingStones$Boys", Cond.methodLink RL 46 yX10_as, Cond.instanceMethod yX10_as, Cond.selects RX10 yX10_as yX10_as, Cond.code yX10_as cX10_as 4 (some .int), Cond.methodLink RX10 123 yX10_isParish, Cond.instanceMethod yX10_isParish, Cond.selects RX10 yX10_isParish yX10_isParish, Cond.code yX10_isParish cX10_isParish 2 (some .boolean), Cond.methodLink RL 47 yX9_about, Cond.instanceMethod yX9_about, Cond.selects RX9 yX9_about yX9_about, Cond.code yX9_about cX9_about 4 (some .int), Cond.methodLink RX9 118 ⟨"KneelingStones$Parish", "told", "(I)I"⟩, Cond.sameMethod "KneelingStones$Parish" "KneelingStones$Parish" "told" "(I)I", Cond.selects RX0 ⟨"KneelingStones$Parish", "told", "(I)I"⟩ yX5_told, Cond.instanceMethod yX5_told, Cond.code yX5_told cX5_told 2 (some .int), Cond.fieldLink RX5 19 "KneelingStones$Parish" "walkers" "I", Cond.fieldLink RX5 22 "KneelingStones$Parish" "wish" "I"]
def wsL_law_r13 : List Cond := [Cond.fieldLink RX5 25 "KneelingStones$Parish" "sin" "I", Cond.methodLink RX5 15 ⟨"KneelingStones$Parish", "kind", "()I"⟩, Cond.sameMethod "KneelingStones$Parish" "KneelingStones$Parish" "kind" "()I", Cond.instanceMethod ⟨"KneelingStones$Parish", "kind", "()I"⟩, Cond.selects RX0 ⟨"KneelingStones$Parish", "kind", "()I"⟩ yX0_kind, Cond.instanceMethod yX0_kind, Cond.code yX0_kind cX0_kind 1 (some .int), Cond.code yX5_kind cX5_kind 1 (some .int), Cond.methodLink RX5 15 yX5_kind, Cond.instanceMethod yX5_kind, Cond.selects RX5 yX5_kind yX5_kind, Cond.selects RX6 ⟨"KneelingStones$Parish", "kind", "()I"⟩ yX6_kind, Cond.instanceMethod yX6_kind, Cond.code yX6_kind cX6_kind 1 (some .int), Cond.selects RX7 ⟨"KneelingStones$Parish", "kind", "()I"⟩ yX7_kind, Cond.instanceMethod yX7_kind, Cond.code yX7_kind cX7_kind 1 (some .int), Cond.methodLink RX5 28 ⟨"KneelingStones$Parish", "gift", "()I"⟩, Cond.sameMethod "KneelingStones$Parish" "KneelingStones$Parish" "gift" "()I", Cond.selects RX0 ⟨"KneelingStones$Parish", "gift", "()I"⟩ yX5_gift, Cond.instanceMethod yX5_gift, Cond.code yX5_gift cX5_gift 1 (some .int), Cond.methodLink RX5 28 yX5_gift, Cond.selects RX5 yX5_gift yX5_gift]
def wsL_law_r14 : List Cond := [Cond.instanceMethod ⟨"KneelingStones$Parish", "gift", "()I"⟩, Cond.selects RX6 ⟨"KneelingStones$Parish", "gift", "()I"⟩ yX6_gift, Cond.instanceMethod yX6_gift, Cond.code yX6_gift cX6_gift 1 (some .int), Cond.fieldLink RX6 9 "KneelingStones$Pious" "n" "I", Cond.sameField "KneelingStones$Pious" "KneelingStones$Parish" "n" "I", Cond.selects RX7 ⟨"KneelingStones$Parish", "gift", "()I"⟩ yX5_gift, Cond.methodLink RX9 118 yX5_told, Cond.selects RX5 yX5_told yX5_told, Cond.selects RX6 ⟨"KneelingStones$Parish", "told", "(I)I"⟩ yX5_told, Cond.selects RX7 ⟨"KneelingStones$Parish", "told", "(I)I"⟩ yX5_told, Cond.methodLink RL 50 yX10_about, Cond.instanceMethod yX10_about, Cond.selects RX10 yX10_about yX10_about, Cond.code yX10_about cX10_about 3 (some .int), Cond.methodLink RX10 129 yX10_parishNow, Cond.instanceMethod yX10_parishNow, Cond.selects RX10 yX10_parishNow yX10_parishNow, Cond.code yX10_parishNow cX10_parishNow 3 (some .int), Cond.methodLink RX10 126 yX10_gift, Cond.instanceMethod yX10_gift, Cond.selects RX10 yX10_gift yX10_gift, Cond.code yX10_gift cX10_gift 2 (some .int), Cond.methodLink RL 51 yX9_change]
def wsL_law_r15 : List Cond := [Cond.instanceMethod yX9_change, Cond.selects RX9 yX9_change yX9_change, Cond.code yX9_change cX9_change 6 (some .int), Cond.methodLink RL 55 yX10_change, Cond.instanceMethod yX10_change, Cond.selects RX10 yX10_change yX10_change, Cond.code yX10_change cX10_change 5 (some .int), Cond.methodLink RL 56 yX9_lay, Cond.instanceMethod yX9_lay, Cond.selects RX9 yX9_lay yX9_lay, Cond.code yX9_lay cX9_lay 3 (some .int), Cond.fieldLink RX9 127 "KneelingStones$Moor" "heights" "[I", Cond.methodLink RX9 123 yX2_layNew, Cond.instanceMethod yX2_layNew, Cond.selects RX2 yX2_layNew yX2_layNew, Cond.code yX2_layNew cX2_layNew 4 none, Cond.fieldLink RX2 28 "KneelingStones$Moor" "week" "I", Cond.fieldLink RX2 34 "KneelingStones$Moor" "laid" "I", Cond.methodLink RX2 51 yX2_put, Cond.instanceMethod yX2_put, Cond.selects RX2 yX2_put yX2_put, Cond.code yX2_put cX2_put 4 none, Cond.fieldLink RX2 40 "KneelingStones$Moor" "spilt" "I", Cond.methodLink RL 59 yX10_lay]
def wsL_law_r16 : List Cond := [Cond.instanceMethod yX10_lay, Cond.selects RX10 yX10_lay yX10_lay, Cond.code yX10_lay cX10_lay 3 (some .int), Cond.methodLink RX10 148 yX10_isCairn, Cond.static yX10_isCairn, Cond.code yX10_isCairn cX10_isCairn 1 (some .boolean), Cond.methodLink RX10 151 yX10_layAll, Cond.instanceMethod yX10_layAll, Cond.selects RX10 yX10_layAll yX10_layAll, Cond.code yX10_layAll cX10_layAll 4 none, Cond.fieldLink RX10 135 "KneelingStonesModel" "laidAll" "I", Cond.fieldLink RX10 138 "KneelingStonesModel" "week" "I", Cond.methodLink RX10 141 yX10_put, Cond.instanceMethod yX10_put, Cond.selects RX10 yX10_put yX10_put, Cond.code yX10_put cX10_put 3 none, Cond.fieldLink RX10 132 "KneelingStonesModel" "spiltAll" "I", Cond.methodLink RL 60 yX9_take, Cond.instanceMethod yX9_take, Cond.selects RX9 yX9_take yX9_take, Cond.code yX9_take cX9_take 3 (some .int), Cond.methodLink RX9 130 yX2_takeOff, Cond.instanceMethod yX2_takeOff, Cond.selects RX2 yX2_takeOff yX2_takeOff]
def wsL_law_r17 : List Cond := [Cond.code yX2_takeOff cX2_takeOff 4 none, Cond.methodLink RX2 55 Lib.Math.min.name, Cond.static Lib.Math.min.name, Cond.initialized "java/lang/Math", Cond.code Lib.Math.min.name Lib.Math.min.code 2 (some .int), Cond.fieldLink RX2 37 "KneelingStones$Moor" "taken" "I", Cond.methodLink RL 63 yX10_take, Cond.instanceMethod yX10_take, Cond.selects RX10 yX10_take yX10_take, Cond.code yX10_take cX10_take 3 (some .int), Cond.methodLink RX10 154 yX10_takeAll, Cond.instanceMethod yX10_takeAll, Cond.selects RX10 yX10_takeAll yX10_takeAll, Cond.code yX10_takeAll cX10_takeAll 4 none, Cond.fieldLink RX10 145 "KneelingStonesModel" "takenAll" "I", Cond.methodLink RL 64 yX9_height, Cond.instanceMethod yX9_height, Cond.selects RX9 yX9_height yX9_height, Cond.code yX9_height cX9_height 2 (some .int), Cond.methodLink RL 68 yX10_height, Cond.instanceMethod yX10_height, Cond.selects RX10 yX10_height yX10_height, Cond.code yX10_height cX10_height 2 (some .int), Cond.methodLink RL 69 yX9_mark]
def wsL_law_r18 : List Cond := [Cond.instanceMethod yX9_mark, Cond.selects RX9 yX9_mark yX9_mark, Cond.code yX9_mark cX9_mark 3 (some .int), Cond.methodLink RX9 133 yX2_markAt, Cond.instanceMethod yX2_markAt, Cond.selects RX2 yX2_markAt yX2_markAt, Cond.code yX2_markAt cX2_markAt 4 (some .int), Cond.methodLink RL 72 yX10_mark, Cond.instanceMethod yX10_mark, Cond.selects RX10 yX10_mark yX10_mark, Cond.code yX10_mark cX10_mark 3 (some .int), Cond.methodLink RX10 157 yX10_markOf, Cond.instanceMethod yX10_markOf, Cond.selects RX10 yX10_markOf yX10_markOf, Cond.code yX10_markOf cX10_markOf 3 (some .int), Cond.methodLink RL 73 yX9_dated, Cond.instanceMethod yX9_dated, Cond.selects RX9 yX9_dated yX9_dated, Cond.code yX9_dated cX9_dated 5 (some .int), Cond.methodLink RL 76 yX10_dated, Cond.instanceMethod yX10_dated, Cond.selects RX10 yX10_dated yX10_dated, Cond.code yX10_dated cX10_dated 5 (some .int), Cond.methodLink RL 77 yX9_seed]
def wsL_law_r19 : List Cond := [Cond.instanceMethod yX9_seed, Cond.selects RX9 yX9_seed yX9_seed, Cond.code yX9_seed cX9_seed 3 (some .int), Cond.fieldLink RX9 137 "KneelingStones$Moor" "seed" "I", Cond.methodLink RL 80 yX10_seed, Cond.instanceMethod yX10_seed, Cond.selects RX10 yX10_seed yX10_seed, Cond.code yX10_seed cX10_seed 3 (some .int), Cond.methodLink RL 81 yX9_weeks, Cond.instanceMethod yX9_weeks, Cond.selects RX9 yX9_weeks yX9_weeks, Cond.code yX9_weeks cX9_weeks 5 (some .int), Cond.fieldLink RX9 140 "KneelingStones$Moor" "week" "I", Cond.methodLink RX9 143 yX2_goOneWeek, Cond.instanceMethod yX2_goOneWeek, Cond.selects RX2 yX2_goOneWeek yX2_goOneWeek, Cond.code yX2_goOneWeek cX2_goOneWeek 6 none, Cond.fieldLink RX2 60 "KneelingStones$Parish" "walkers" "I", Cond.methodLink RX2 65 yX2_walk, Cond.instanceMethod yX2_walk, Cond.selects RX2 yX2_walk yX2_walk, Cond.code yX2_walk cX2_walk 5 none, Cond.fieldLink RX2 81 "KneelingStones$Parish" "wish" "I", Cond.fieldLink RX2 84 "KneelingStones$Custom" "wishRule" "I"]
def wsL_law_r20 : List Cond := [Cond.fieldLink RX2 31 "KneelingStones$Moor" "last" "I", Cond.fieldLink RX2 96 "KneelingStones$Parish" "sin" "I", Cond.fieldLink RX2 106 "KneelingStones$Custom" "sinRule" "I", Cond.methodLink RX2 77 yX2_draw, Cond.instanceMethod yX2_draw, Cond.selects RX2 yX2_draw yX2_draw, Cond.code yX2_draw cX2_draw 1 (some .int), Cond.constantLong RX2 124 (1103515245), Cond.constantLong RX2 126 (12345), Cond.constantLong RX2 128 (2147483647), Cond.methodLink RX2 87 yX2_cairnBy, Cond.instanceMethod yX2_cairnBy, Cond.selects RX2 yX2_cairnBy yX2_cairnBy, Cond.code yX2_cairnBy cX2_cairnBy 3 (some .int), Cond.methodLink RX2 103 yX2_most, Cond.instanceMethod yX2_most, Cond.selects RX2 yX2_most yX2_most, Cond.code yX2_most cX2_most 3 (some .int), Cond.methodLink RX2 121 yX2_fewest, Cond.instanceMethod yX2_fewest, Cond.selects RX2 yX2_fewest yX2_fewest, Cond.code yX2_fewest cX2_fewest 3 (some .int), Cond.methodLink RX2 90 ⟨"KneelingStones$Parish", "gift", "()I"⟩, Cond.methodLink RX2 90 yX5_gift]
def wsL_law_r21 : List Cond := [Cond.methodLink RX2 93 yX2_layNew, Cond.methodLink RX2 99 ⟨"KneelingStones$Parish", "sinsAtMost", "()Z"⟩, Cond.sameMethod "KneelingStones$Parish" "KneelingStones$Parish" "sinsAtMost" "()Z", Cond.instanceMethod ⟨"KneelingStones$Parish", "sinsAtMost", "()Z"⟩, Cond.selects RX0 ⟨"KneelingStones$Parish", "sinsAtMost", "()Z"⟩ yX0_sinsAtMost, Cond.instanceMethod yX0_sinsAtMost, Cond.code yX0_sinsAtMost cX0_sinsAtMost 1 (some .boolean), Cond.code yX5_sinsAtMost cX5_sinsAtMost 1 (some .boolean), Cond.methodLink RX2 99 yX5_sinsAtMost, Cond.instanceMethod yX5_sinsAtMost, Cond.selects RX5 yX5_sinsAtMost yX5_sinsAtMost, Cond.selects RX6 ⟨"KneelingStones$Parish", "sinsAtMost", "()Z"⟩ yX5_sinsAtMost, Cond.selects RX7 ⟨"KneelingStones$Parish", "sinsAtMost", "()Z"⟩ yX5_sinsAtMost, Cond.methodLink RX2 109 ⟨"KneelingStones$Parish", "hidesOn", "()I"⟩, Cond.sameMethod "KneelingStones$Parish" "KneelingStones$Parish" "hidesOn" "()I", Cond.instanceMethod ⟨"KneelingStones$Parish", "hidesOn", "()I"⟩, Cond.selects RX0 ⟨"KneelingStones$Parish", "hidesOn", "()I"⟩ yX7_hidesOn, Cond.instanceMethod yX7_hidesOn, Cond.code yX7_hidesOn cX7_hidesOn 1 (some .int), Cond.fieldLink RX7 9 "KneelingStones$Sly" "n" "I", Cond.sameField "KneelingStones$Sly" "KneelingStones$Parish" "n" "I", Cond.code yX5_hidesOn cX5_hidesOn 1 (some .int), Cond.methodLink RX2 109 yX5_hidesOn, Cond.instanceMethod yX5_hidesOn]
def wsL_law_r22 : List Cond := [Cond.selects RX5 yX5_hidesOn yX5_hidesOn, Cond.selects RX6 ⟨"KneelingStones$Parish", "hidesOn", "()I"⟩ yX5_hidesOn, Cond.selects RX7 ⟨"KneelingStones$Parish", "hidesOn", "()I"⟩ yX7_hidesOn, Cond.methodLink RX2 112 yX2_steal, Cond.instanceMethod yX2_steal, Cond.selects RX2 yX2_steal yX2_steal, Cond.code yX2_steal cX2_steal 4 none, Cond.methodLink RX2 115 yX2_takeOff, Cond.methodLink RX2 118 yX2_markAt, Cond.methodLink RX2 69 yX1_floodsIn, Cond.instanceMethod yX1_floodsIn, Cond.selects RX1 yX1_floodsIn yX1_floodsIn, Cond.code yX1_floodsIn cX1_floodsIn 2 (some .boolean), Cond.methodLink RX2 74 yX2_flood, Cond.instanceMethod yX2_flood, Cond.selects RX2 yX2_flood yX2_flood, Cond.code yX2_flood cX2_flood 2 none, Cond.methodLink RX9 147 yX2_pebbles, Cond.instanceMethod yX2_pebbles, Cond.selects RX2 yX2_pebbles yX2_pebbles, Cond.code yX2_pebbles cX2_pebbles 3 (some .int), Cond.methodLink RL 84 yX10_weeks, Cond.instanceMethod yX10_weeks, Cond.selects RX10 yX10_weeks yX10_weeks]
def wsL_law_r23 : List Cond := [Cond.code yX10_weeks cX10_weeks 4 (some .int), Cond.methodLink RX10 192 yX10_goWeek, Cond.instanceMethod yX10_goWeek, Cond.selects RX10 yX10_goWeek yX10_goWeek, Cond.code yX10_goWeek cX10_goWeek 4 none, Cond.methodLink RX10 183 yX10_draw, Cond.instanceMethod yX10_draw, Cond.selects RX10 yX10_draw yX10_draw, Cond.code yX10_draw cX10_draw 1 (some .int), Cond.constantLong RX10 160 (1103515245), Cond.constantLong RX10 162 (12345), Cond.constantLong RX10 164 (2147483647), Cond.constantLong RX10 166 (65536), Cond.constantLong RX10 168 (10), Cond.methodLink RX10 186 yX10_doWish, Cond.instanceMethod yX10_doWish, Cond.selects RX10 yX10_doWish yX10_doWish, Cond.code yX10_doWish cX10_doWish 4 none, Cond.fieldLink RX10 177 "KneelingStonesModel" "last" "I", Cond.methodLink RX10 180 yX10_cairnBy, Cond.instanceMethod yX10_cairnBy, Cond.selects RX10 yX10_cairnBy yX10_cairnBy, Cond.code yX10_cairnBy cX10_cairnBy 3 (some .int), Cond.methodLink RX10 170 yX10_withMost]
def wsL_law_r24 : List Cond := [Cond.instanceMethod yX10_withMost, Cond.selects RX10 yX10_withMost yX10_withMost, Cond.code yX10_withMost cX10_withMost 3 (some .int), Cond.methodLink RX10 174 yX10_withLeast, Cond.instanceMethod yX10_withLeast, Cond.selects RX10 yX10_withLeast yX10_withLeast, Cond.code yX10_withLeast cX10_withLeast 3 (some .int), Cond.methodLink RX10 189 yX10_doSin, Cond.instanceMethod yX10_doSin, Cond.selects RX10 yX10_doSin yX10_doSin, Cond.code yX10_doSin cX10_doSin 5 none, Cond.methodLink RX10 196 yX10_pebbles, Cond.instanceMethod yX10_pebbles, Cond.selects RX10 yX10_pebbles yX10_pebbles, Cond.code yX10_pebbles cX10_pebbles 3 (some .int), Cond.methodLink RL 85 yX9_would, Cond.instanceMethod yX9_would, Cond.selects RX9 yX9_would yX9_would, Cond.code yX9_would cX9_would 5 (some .int), Cond.methodLink RX9 150 yX9_dreamOf, Cond.instanceMethod yX9_dreamOf, Cond.selects RX9 yX9_dreamOf yX9_dreamOf, Cond.code yX9_dreamOf cX9_dreamOf 4 none, Cond.methodLink RX9 196 yX2_become]
def wsL_law_r25 : List Cond := [Cond.instanceMethod yX2_become, Cond.selects RX2 yX2_become yX2_become, Cond.code yX2_become cX2_become 2 none, Cond.methodLink RX2 22 arraycopyName, Cond.native arraycopyName, Cond.static arraycopyName, Cond.initialized "java/lang/System", Cond.methodLink RL 88 yX10_would, Cond.instanceMethod yX10_would, Cond.selects RX10 yX10_would yX10_would, Cond.code yX10_would cX10_would 4 (some .int), Cond.methodLink RX10 208 yX10_wouldOf, Cond.instanceMethod yX10_wouldOf, Cond.selects RX10 yX10_wouldOf yX10_wouldOf, Cond.code yX10_wouldOf cX10_wouldOf 5 (some .int), Cond.methodLink RX10 202 yX10_save, Cond.instanceMethod yX10_save, Cond.selects RX10 yX10_save yX10_save, Cond.code yX10_save cX10_save 2 none, Cond.fieldLink RX10 199 "KneelingStonesModel" "savedSeed" "J", Cond.methodLink RX10 205 yX10_back, Cond.instanceMethod yX10_back, Cond.selects RX10 yX10_back yX10_back, Cond.code yX10_back cX10_back 2 none]
def wsL_law_r26 : List Cond := [Cond.methodLink RL 89 yX9_order, Cond.instanceMethod yX9_order, Cond.selects RX9 yX9_order yX9_order, Cond.code yX9_order cX9_order 3 (some .int), Cond.methodLink RX9 154 yX2_aheadOf, Cond.instanceMethod yX2_aheadOf, Cond.selects RX2 yX2_aheadOf yX2_aheadOf, Cond.code yX2_aheadOf cX2_aheadOf 4 (some .int), Cond.methodLink RL 92 yX10_order, Cond.instanceMethod yX10_order, Cond.selects RX10 yX10_order yX10_order, Cond.code yX10_order cX10_order 5 (some .int), Cond.methodLink RL 93 yX9_odds, Cond.instanceMethod yX9_odds, Cond.selects RX9 yX9_odds yX9_odds, Cond.code yX9_odds cX9_odds 6 (some .long), Cond.constantLong RX9 157 (-101), Cond.constantLong RX9 159 (-102), Cond.methodLink RX9 161 yX3_of, Cond.static yX3_of, Cond.initialized RX3, Cond.code yX3_of cX3_of 5 (some .long), Cond.fieldLink RX3 9 "KneelingStones$Parish" "walkers" "I", Cond.fieldLink RX3 21 "KneelingStones$Parish" "wish" "I"]
def wsL_law_r27 : List Cond := [Cond.fieldLink RX3 27 "KneelingStones$Parish" "sin" "I", Cond.methodLink RX3 24 yX3_choices, Cond.static yX3_choices, Cond.code yX3_choices cX3_choices 5 (some .long), Cond.methodLink RX3 15 yX3_power, Cond.static yX3_power, Cond.code yX3_power cX3_power 5 (some .long), Cond.methodLink RX9 167 yX3_whole, Cond.static yX3_whole, Cond.code yX3_whole cX3_whole 1 (some .long), Cond.methodLink RX9 171 yX9_inLowest, Cond.static yX9_inLowest, Cond.code yX9_inLowest cX9_inLowest 7 (some .long), Cond.methodLink RX9 266 yX9_commonDivisor, Cond.static yX9_commonDivisor, Cond.code yX9_commonDivisor cX9_commonDivisor 11 (some .long), Cond.methodLink RL 97 yX10_odds, Cond.instanceMethod yX10_odds, Cond.selects RX10 yX10_odds yX10_odds, Cond.code yX10_odds cX10_odds 6 (some .long), Cond.constantLong RX10 222 (-101), Cond.constantLong RX10 224 (-102), Cond.methodLink RX10 226 yX10_oddsOf, Cond.instanceMethod yX10_oddsOf]
def wsL_law_r28 : List Cond := [Cond.selects RX10 yX10_oddsOf yX10_oddsOf, Cond.code yX10_oddsOf cX10_oddsOf 12 (some .long), Cond.methodLink RX10 212 yX10_power, Cond.static yX10_power, Cond.code yX10_power cX10_power 6 (some .long), Cond.methodLink RX10 216 yX10_choose, Cond.static yX10_choose, Cond.code yX10_choose cX10_choose 5 (some .long), Cond.methodLink RX10 230 yX10_whole, Cond.instanceMethod yX10_whole, Cond.selects RX10 yX10_whole yX10_whole, Cond.code yX10_whole cX10_whole 2 (some .long), Cond.constantLong RX10 220 (100), Cond.methodLink RX10 234 yX10_lowest, Cond.static yX10_lowest, Cond.code yX10_lowest cX10_lowest 11 (some .long), Cond.methodLink RL 98 yX9_chance, Cond.instanceMethod yX9_chance, Cond.selects RX9 yX9_chance yX9_chance, Cond.code yX9_chance cX9_chance 5 (some .long), Cond.methodLink RX9 175 yX9_isNetOfOne, Cond.static yX9_isNetOfOne, Cond.code yX9_isNetOfOne cX9_isNetOfOne 1 (some .boolean), Cond.methodLink RX9 178 yX3_ofNet]
def wsL_law_r29 : List Cond := [Cond.static yX3_ofNet, Cond.code yX3_ofNet cX3_ofNet 7 (some .long), Cond.methodLink RX3 30 ⟨"KneelingStones$Parish", "gift", "()I"⟩, Cond.methodLink RX3 30 yX5_gift, Cond.methodLink RX3 34 ⟨"KneelingStones$Parish", "loss", "()I"⟩, Cond.sameMethod "KneelingStones$Parish" "KneelingStones$Parish" "loss" "()I", Cond.instanceMethod ⟨"KneelingStones$Parish", "loss", "()I"⟩, Cond.selects RX0 ⟨"KneelingStones$Parish", "loss", "()I"⟩ yX7_loss, Cond.instanceMethod yX7_loss, Cond.code yX7_loss cX7_loss 1 (some .int), Cond.code yX5_loss cX5_loss 1 (some .int), Cond.methodLink RX3 34 yX5_loss, Cond.instanceMethod yX5_loss, Cond.selects RX5 yX5_loss yX5_loss, Cond.selects RX6 ⟨"KneelingStones$Parish", "loss", "()I"⟩ yX5_loss, Cond.selects RX7 ⟨"KneelingStones$Parish", "loss", "()I"⟩ yX7_loss, Cond.methodLink RX3 37 yX3_of, Cond.methodLink RL 102 yX10_chance, Cond.instanceMethod yX10_chance, Cond.selects RX10 yX10_chance yX10_chance, Cond.code yX10_chance cX10_chance 4 (some .long), Cond.methodLink RX10 241 yX10_isNet, Cond.static yX10_isNet, Cond.code yX10_isNet cX10_isNet 2 (some .boolean)]
def wsL_law_r30 : List Cond := [Cond.methodLink RX10 244 yX10_netOdds, Cond.instanceMethod yX10_netOdds, Cond.selects RX10 yX10_netOdds yX10_netOdds, Cond.code yX10_netOdds cX10_netOdds 8 (some .long), Cond.methodLink RX10 238 yX10_netOf, Cond.instanceMethod yX10_netOf, Cond.selects RX10 yX10_netOf yX10_netOf, Cond.code yX10_netOf cX10_netOf 4 (some .int), Cond.methodLink RL 103 yX9_sinned, Cond.instanceMethod yX9_sinned, Cond.selects RX9 yX9_sinned yX9_sinned, Cond.code yX9_sinned cX9_sinned 7 (some .long), Cond.constantLong RX9 181 (-1), Cond.methodLink RL 106 yX10_sinned, Cond.instanceMethod yX10_sinned, Cond.selects RX10 yX10_sinned yX10_sinned, Cond.code yX10_sinned cX10_sinned 6 (some .long), Cond.constantLong RX10 247 (-1), Cond.methodLink RL 107 yX9_bounds, Cond.instanceMethod yX9_bounds, Cond.selects RX9 yX9_bounds yX9_bounds, Cond.code yX9_bounds cX9_bounds 3 (some .int), Cond.methodLink RX9 183 yX8_fewestSins, Cond.instanceMethod yX8_fewestSins]
def wsL_law_r31 : List Cond := [Cond.selects RX8 yX8_fewestSins yX8_fewestSins, Cond.code yX8_fewestSins cX8_fewestSins 4 (some .int), Cond.methodLink RX8 18 yX8_leastCost, Cond.instanceMethod yX8_leastCost, Cond.selects RX8 yX8_leastCost yX8_leastCost, Cond.code yX8_leastCost cX8_leastCost 4 (some .int), Cond.methodLink RX8 29 yX8_start, Cond.instanceMethod yX8_start, Cond.selects RX8 yX8_start yX8_start, Cond.code yX8_start cX8_start 1 none, Cond.methodLink RX8 58 yJ7_fill_53178, Cond.static yJ7_fill_53178, Cond.initialized RJ7, Cond.code yJ7_fill_53178 cJ7_fill_53178 4 none, Cond.methodLink RX8 32 yX8_addAllBut, Cond.instanceMethod yX8_addAllBut, Cond.selects RX8 yX8_addAllBut yX8_addAllBut, Cond.code yX8_addAllBut cX8_addAllBut 7 none, Cond.fieldLink RX8 40 "KneelingStones$Parish" "walkers" "I", Cond.methodLink RX8 46 yX8_addWalker, Cond.instanceMethod yX8_addWalker, Cond.selects RX8 yX8_addWalker yX8_addWalker, Cond.code yX8_addWalker cX8_addWalker 7 none, Cond.methodLink RX8 50 ⟨"KneelingStones$Parish", "canSin", "()Z"⟩]
def wsL_law_r32 : List Cond := [Cond.sameMethod "KneelingStones$Parish" "KneelingStones$Parish" "canSin" "()Z", Cond.selects RX0 ⟨"KneelingStones$Parish", "canSin", "()Z"⟩ yX5_canSin, Cond.instanceMethod yX5_canSin, Cond.code yX5_canSin cX5_canSin 1 (some .boolean), Cond.methodLink RX8 50 yX5_canSin, Cond.selects RX5 yX5_canSin yX5_canSin, Cond.selects RX6 ⟨"KneelingStones$Parish", "canSin", "()Z"⟩ yX5_canSin, Cond.selects RX7 ⟨"KneelingStones$Parish", "canSin", "()Z"⟩ yX5_canSin, Cond.methodLink RX8 64 ⟨"KneelingStones$Parish", "canWish", "()Z"⟩, Cond.sameMethod "KneelingStones$Parish" "KneelingStones$Parish" "canWish" "()Z", Cond.selects RX0 ⟨"KneelingStones$Parish", "canWish", "()Z"⟩ yX5_canWish, Cond.instanceMethod yX5_canWish, Cond.code yX5_canWish cX5_canWish 1 (some .boolean), Cond.methodLink RX8 64 yX5_canWish, Cond.selects RX5 yX5_canWish yX5_canWish, Cond.selects RX6 ⟨"KneelingStones$Parish", "canWish", "()Z"⟩ yX5_canWish, Cond.selects RX7 ⟨"KneelingStones$Parish", "canWish", "()Z"⟩ yX5_canWish, Cond.methodLink RX8 67 ⟨"KneelingStones$Parish", "gift", "()I"⟩, Cond.methodLink RX8 67 yX5_gift, Cond.methodLink RX8 70 yX8_offer, Cond.instanceMethod yX8_offer, Cond.selects RX8 yX8_offer yX8_offer, Cond.code yX8_offer cX8_offer 3 none, Cond.methodLink RX8 54 ⟨"KneelingStones$Parish", "loss", "()I"⟩]
def wsL_law_r33 : List Cond := [Cond.methodLink RX8 54 yX5_loss, Cond.methodLink RX8 74 ⟨"KneelingStones$Parish", "canRest", "()Z"⟩, Cond.sameMethod "KneelingStones$Parish" "KneelingStones$Parish" "canRest" "()Z", Cond.selects RX0 ⟨"KneelingStones$Parish", "canRest", "()Z"⟩ yX5_canRest, Cond.instanceMethod yX5_canRest, Cond.code yX5_canRest cX5_canRest 1 (some .boolean), Cond.methodLink RX8 74 yX5_canRest, Cond.selects RX5 yX5_canRest yX5_canRest, Cond.selects RX6 ⟨"KneelingStones$Parish", "canRest", "()Z"⟩ yX5_canRest, Cond.selects RX7 ⟨"KneelingStones$Parish", "canRest", "()Z"⟩ yX5_canRest, Cond.methodLink RX8 36 yX8_costOf, Cond.instanceMethod yX8_costOf, Cond.selects RX8 yX8_costOf yX8_costOf, Cond.code yX8_costOf cX8_costOf 3 (some .int), Cond.methodLink RX9 187 yX8_mostSins, Cond.instanceMethod yX8_mostSins, Cond.selects RX8 yX8_mostSins yX8_mostSins, Cond.code yX8_mostSins cX8_mostSins 4 (some .int), Cond.methodLink RX9 190 yX8_whoMust, Cond.instanceMethod yX8_whoMust, Cond.selects RX8 yX8_whoMust yX8_whoMust, Cond.code yX8_whoMust cX8_whoMust 5 (some .int), Cond.methodLink RX8 22 yX8_canBeWithout, Cond.instanceMethod yX8_canBeWithout]
def wsL_law_r34 : List Cond := [Cond.selects RX8 yX8_canBeWithout yX8_canBeWithout, Cond.code yX8_canBeWithout cX8_canBeWithout 6 (some .boolean), Cond.methodLink RX9 193 yX8_whoMay, Cond.instanceMethod yX8_whoMay, Cond.selects RX8 yX8_whoMay yX8_whoMay, Cond.code yX8_whoMay cX8_whoMay 5 (some .int), Cond.methodLink RX8 26 yX8_canBeWith, Cond.instanceMethod yX8_canBeWith, Cond.selects RX8 yX8_canBeWith yX8_canBeWith, Cond.code yX8_canBeWith cX8_canBeWith 6 (some .boolean), Cond.methodLink RL 110 yX10_bounds, Cond.instanceMethod yX10_bounds, Cond.selects RX10 yX10_bounds yX10_bounds, Cond.code yX10_bounds cX10_bounds 3 (some .int), Cond.methodLink RX10 264 yX10_boundsOf, Cond.instanceMethod yX10_boundsOf, Cond.selects RX10 yX10_boundsOf yX10_boundsOf, Cond.code yX10_boundsOf cX10_boundsOf 7 (some .int), Cond.methodLink RX10 260 yX10_canNet, Cond.instanceMethod yX10_canNet, Cond.selects RX10 yX10_canNet yX10_canNet, Cond.code yX10_canNet cX10_canNet 5 (some .boolean), Cond.constant RX10 249 (268435456), Cond.methodLink RX10 256 yX10_layNets]
def wsL_law_r35 : List Cond := [Cond.instanceMethod yX10_layNets, Cond.selects RX10 yX10_layNets yX10_layNets, Cond.code yX10_layNets cX10_layNets 8 none, Cond.methodLink RX10 250 yX10_canBe, Cond.instanceMethod yX10_canBe, Cond.selects RX10 yX10_canBe yX10_canBe, Cond.code yX10_canBe cX10_canBe 7 (some .boolean), Cond.methodLink RX10 253 yX10_addWay, Cond.instanceMethod yX10_addWay, Cond.selects RX10 yX10_addWay yX10_addWay, Cond.code yX10_addWay cX10_addWay 7 none, Cond.methodLink RL 111 yX9_shows, Cond.instanceMethod yX9_shows, Cond.selects RX9 yX9_shows yX9_shows, Cond.code yX9_shows cX9_shows 6 (some .int), Cond.methodLink RX9 200 yX2_hasMostAlone, Cond.instanceMethod yX2_hasMostAlone, Cond.selects RX2 yX2_hasMostAlone yX2_hasMostAlone, Cond.code yX2_hasMostAlone cX2_hasMostAlone 2 (some .boolean), Cond.methodLink RX2 47 yX2_surplusOver, Cond.instanceMethod yX2_surplusOver, Cond.selects RX2 yX2_surplusOver yX2_surplusOver, Cond.code yX2_surplusOver cX2_surplusOver 5 (some .int), Cond.methodLink RL 114 yX10_shows]
def wsL_law_r36 : List Cond := [Cond.instanceMethod yX10_shows, Cond.selects RX10 yX10_shows yX10_shows, Cond.code yX10_shows cX10_shows 5 (some .int), Cond.methodLink RX10 267 yX10_isAlone, Cond.instanceMethod yX10_isAlone, Cond.selects RX10 yX10_isAlone yX10_isAlone, Cond.code yX10_isAlone cX10_isAlone 4 (some .boolean), Cond.methodLink RL 115 yX9_gone, Cond.instanceMethod yX9_gone, Cond.selects RX9 yX9_gone yX9_gone, Cond.code yX9_gone cX9_gone 5 (some .int), Cond.methodLink RX9 203 yX9_dreamTillEmpty, Cond.instanceMethod yX9_dreamTillEmpty, Cond.selects RX9 yX9_dreamTillEmpty yX9_dreamTillEmpty, Cond.code yX9_dreamTillEmpty cX9_dreamTillEmpty 5 (some .int), Cond.methodLink RL 118 yX10_gone, Cond.instanceMethod yX10_gone, Cond.selects RX10 yX10_gone yX10_gone, Cond.code yX10_gone cX10_gone 4 (some .int), Cond.methodLink RL 119 yX9_saved, Cond.instanceMethod yX9_saved, Cond.selects RX9 yX9_saved yX9_saved, Cond.code yX9_saved cX9_saved 7 (some .int), Cond.methodLink RL 122 yX10_saved]
def wsL_law_r37 : List Cond := [Cond.instanceMethod yX10_saved, Cond.selects RX10 yX10_saved yX10_saved, Cond.code yX10_saved cX10_saved 5 (some .int), Cond.methodLink RX10 270 yX10_saves, Cond.instanceMethod yX10_saves, Cond.selects RX10 yX10_saves yX10_saves, Cond.code yX10_saves cX10_saves 7 (some .boolean), Cond.methodLink RL 123 yX9_unlike, Cond.instanceMethod yX9_unlike, Cond.selects RX9 yX9_unlike yX9_unlike, Cond.code yX9_unlike cX9_unlike 8 (some .int), Cond.methodLink RX9 207 Lib.Math.abs.name, Cond.static Lib.Math.abs.name, Cond.code Lib.Math.abs.name Lib.Math.abs.code 1 (some .int), Cond.methodLink RL 126 yX10_unlike, Cond.instanceMethod yX10_unlike, Cond.selects RX10 yX10_unlike yX10_unlike, Cond.code yX10_unlike cX10_unlike 7 (some .int), Cond.methodLink RL 127 yX9_lie, Cond.instanceMethod yX9_lie, Cond.selects RX9 yX9_lie yX9_lie, Cond.code yX9_lie cX9_lie 5 (some .int), Cond.methodLink RX9 212 yX2_surplusOver, Cond.methodLink RL 130 yX10_lie]
def wsL_law_r38 : List Cond := [Cond.instanceMethod yX10_lie, Cond.selects RX10 yX10_lie yX10_lie, Cond.code yX10_lie cX10_lie 7 (some .int), Cond.methodLink RL 131 yX9_image, Cond.instanceMethod yX9_image, Cond.selects RX9 yX9_image yX9_image, Cond.code yX9_image cX9_image 1 (some .int), Cond.fieldLink RX9 215 "KneelingStones" "isKept" "Z", Cond.methodLink RL 134 yX10_image, Cond.instanceMethod yX10_image, Cond.selects RX10 yX10_image yX10_image, Cond.code yX10_image cX10_image 2 (some .int), Cond.fieldLink RX10 273 "KneelingStonesModel" "isKept" "Z", Cond.fieldLink RX10 276 "KneelingStonesModel" "keptSeed" "J", Cond.methodLink RL 135 yX9_restore, Cond.instanceMethod yX9_restore, Cond.selects RX9 yX9_restore yX9_restore, Cond.code yX9_restore cX9_restore 1 (some .int), Cond.methodLink RL 138 yX10_restore, Cond.instanceMethod yX10_restore, Cond.selects RX10 yX10_restore yX10_restore, Cond.code yX10_restore cX10_restore 2 (some .int), Cond.methodLink RL 139 yX9_count, Cond.instanceMethod yX9_count]
def wsL_law_r39 : List Cond := [Cond.selects RX9 yX9_count yX9_count, Cond.code yX9_count cX9_count 2 (some .int), Cond.fieldLink RX9 219 "KneelingStones$Moor" "last" "I", Cond.fieldLink RX9 222 "KneelingStones$Moor" "laid" "I", Cond.fieldLink RX9 225 "KneelingStones$Moor" "taken" "I", Cond.fieldLink RX9 228 "KneelingStones$Moor" "spilt" "I", Cond.methodLink RL 142 yX10_count, Cond.instanceMethod yX10_count, Cond.selects RX10 yX10_count yX10_count, Cond.code yX10_count cX10_count 2 (some .int), Cond.methodLink RX10 279 yX10_howMany, Cond.instanceMethod yX10_howMany, Cond.selects RX10 yX10_howMany yX10_howMany, Cond.code yX10_howMany cX10_howMany 2 (some .int), Cond.methodLink RL 143 yX9_digest, Cond.instanceMethod yX9_digest, Cond.selects RX9 yX9_digest yX9_digest, Cond.code yX9_digest cX9_digest 4 (some .long), Cond.constantLong RX9 231 (563), Cond.constantLong RX9 243 (31), Cond.fieldLink RX9 248 "KneelingStones$Page" "codes" "[I", Cond.methodLink RX9 233 yX9_withCairns, Cond.instanceMethod yX9_withCairns, Cond.selects RX9 yX9_withCairns yX9_withCairns]
def wsL_law_r40 : List Cond := [Cond.code yX9_withCairns cX9_withCairns 7 (some .long), Cond.methodLink RX9 237 yX9_withParishes, Cond.instanceMethod yX9_withParishes, Cond.selects RX9 yX9_withParishes yX9_withParishes, Cond.code yX9_withParishes cX9_withParishes 8 (some .long), Cond.methodLink RX9 240 yX9_withCustoms, Cond.instanceMethod yX9_withCustoms, Cond.selects RX9 yX9_withCustoms yX9_withCustoms, Cond.code yX9_withCustoms cX9_withCustoms 8 (some .long), Cond.methodLink RX9 245 yX9_bounds, Cond.methodLink RX9 251 yX9_count, Cond.methodLink RL 147 yX10_digest, Cond.instanceMethod yX10_digest, Cond.selects RX10 yX10_digest yX10_digest, Cond.code yX10_digest cX10_digest 3 (some .long), Cond.constantLong RX10 291 (563), Cond.fieldLink RX10 284 "KneelingStonesModel" "h" "J", Cond.methodLink RX10 287 yX10_mix, Cond.instanceMethod yX10_mix, Cond.selects RX10 yX10_mix yX10_mix, Cond.code yX10_mix cX10_mix 3 none, Cond.constantLong RX10 282 (31), Cond.methodLink RX10 293 yX10_mixCustom, Cond.instanceMethod yX10_mixCustom]
def wsL_law_r41 : List Cond := [Cond.selects RX10 yX10_mixCustom yX10_mixCustom, Cond.code yX10_mixCustom cX10_mixCustom 3 none]
def wsL_law : List Cond := (wsL_law_r1 ++ (wsL_law_r2 ++ (wsL_law_r3 ++ (wsL_law_r4 ++ (wsL_law_r5 ++ (wsL_law_r6 ++ (wsL_law_r7 ++ (wsL_law_r8 ++ (wsL_law_r9 ++ (wsL_law_r10 ++ (wsL_law_r11 ++ (wsL_law_r12 ++ (wsL_law_r13 ++ (wsL_law_r14 ++ (wsL_law_r15 ++ (wsL_law_r16 ++ (wsL_law_r17 ++ (wsL_law_r18 ++ (wsL_law_r19 ++ (wsL_law_r20 ++ (wsL_law_r21 ++ (wsL_law_r22 ++ (wsL_law_r23 ++ (wsL_law_r24 ++ (wsL_law_r25 ++ (wsL_law_r26 ++ (wsL_law_r27 ++ (wsL_law_r28 ++ (wsL_law_r29 ++ (wsL_law_r30 ++ (wsL_law_r31 ++ (wsL_law_r32 ++ (wsL_law_r33 ++ (wsL_law_r34 ++ (wsL_law_r35 ++ (wsL_law_r36 ++ (wsL_law_r37 ++ (wsL_law_r38 ++ (wsL_law_r39 ++ (wsL_law_r40 ++ wsL_law_r41)))))))))))))))))))))))))))))))))))))))) ++ wsX90 ++ wsX100 ++ wsX40 ++ wsX20 ++ wsX80 ++ wsX10 ++ wsX00 ++ wsX50 ++ wsX60 ++ wsX70 ++ ([] : List Cond)
end
section
theorem dL_law_274 : decode cL_law 274 = .ok (.iaload, 1) := by decide +kernel
theorem dL_law_275 : decode cL_law 275 = .ok (.invokevirtual 33, 3) := by decide +kernel
theorem dL_law_278 : decode cL_law 278 = .ok (.aload_n 2, 1) := by decide +kernel
theorem dL_law_279 : decode cL_law 279 = .ok (.aload_n 0, 1) := by decide +kernel
theorem dL_law_280 : decode cL_law 280 = .ok (.iload_n 3, 1) := by decide +kernel
theorem dL_law_281 : decode cL_law 281 = .ok (.iconst 1, 1) := by decide +kernel
theorem dL_law_282 : decode cL_law 282 = .ok (.iadd, 1) := by decide +kernel
theorem dL_law_283 : decode cL_law 283 = .ok (.iaload, 1) := by decide +kernel
theorem dL_law_284 : decode cL_law 284 = .ok (.aload_n 0, 1) := by decide +kernel
theorem dL_law_285 : decode cL_law 285 = .ok (.iload_n 3, 1) := by decide +kernel
theorem dL_law_286 : decode cL_law 286 = .ok (.iconst 2, 1) := by decide +kernel
theorem dL_law_287 : decode cL_law 287 = .ok (.iadd, 1) := by decide +kernel
theorem dL_law_288 : decode cL_law 288 = .ok (.iaload, 1) := by decide +kernel
theorem dL_law_289 : decode cL_law 289 = .ok (.invokevirtual 37, 3) := by decide +kernel
theorem dL_law_292 : decode cL_law 292 = .ok (.if_icmp .eq 877, 3) := by decide +kernel
theorem dL_law_295 : decode cL_law 295 = .ok (.iconst 0, 1) := by decide +kernel
theorem dL_law_296 : decode cL_law 296 = .ok (.ireturn, 1) := by decide +kernel
theorem dL_law_297 : decode cL_law 297 = .ok (.aload_n 1, 1) := by decide +kernel
theorem dL_law_298 : decode cL_law 298 = .ok (.aload_n 0, 1) := by decide +kernel
theorem dL_law_299 : decode cL_law 299 = .ok (.iload_n 3, 1) := by decide +kernel
theorem dL_law_300 : decode cL_law 300 = .ok (.iconst 1, 1) := by decide +kernel
theorem dL_law_301 : decode cL_law 301 = .ok (.iadd, 1) := by decide +kernel
theorem dL_law_302 : decode cL_law 302 = .ok (.iaload, 1) := by decide +kernel
theorem dL_law_303 : decode cL_law 303 = .ok (.aload_n 0, 1) := by decide +kernel
theorem dL_law_304 : decode cL_law 304 = .ok (.iload_n 3, 1) := by decide +kernel
theorem dL_law_305 : decode cL_law 305 = .ok (.iconst 2, 1) := by decide +kernel
theorem dL_law_306 : decode cL_law 306 = .ok (.iadd, 1) := by decide +kernel
theorem dL_law_307 : decode cL_law 307 = .ok (.iaload, 1) := by decide +kernel
theorem dL_law_308 : decode cL_law 308 = .ok (.aload_n 0, 1) := by decide +kernel
theorem dL_law_309 : decode cL_law 309 = .ok (.iload_n 3, 1) := by decide +kernel
theorem dL_law_310 : decode cL_law 310 = .ok (.iconst 3, 1) := by decide +kernel
theorem dL_law_311 : decode cL_law 311 = .ok (.iadd, 1) := by decide +kernel
theorem dL_law_312 : decode cL_law 312 = .ok (.iaload, 1) := by decide +kernel
theorem dL_law_313 : decode cL_law 313 = .ok (.aload_n 0, 1) := by decide +kernel
theorem dL_law_314 : decode cL_law 314 = .ok (.iload_n 3, 1) := by decide +kernel
theorem dL_law_315 : decode cL_law 315 = .ok (.iconst 4, 1) := by decide +kernel
theorem dL_law_316 : decode cL_law 316 = .ok (.iadd, 1) := by decide +kernel
theorem dL_law_317 : decode cL_law 317 = .ok (.iaload, 1) := by decide +kernel
theorem dL_law_318 : decode cL_law 318 = .ok (.aload_n 0, 1) := by decide +kernel
theorem dL_law_319 : decode cL_law 319 = .ok (.iload_n 3, 1) := by decide +kernel
theorem dL_law_320 : decode cL_law 320 = .ok (.iconst 5, 1) := by decide +kernel
theorem dL_law_321 : decode cL_law 321 = .ok (.iadd, 1) := by decide +kernel
theorem dL_law_322 : decode cL_law 322 = .ok (.iaload, 1) := by decide +kernel
theorem dL_law_323 : decode cL_law 323 = .ok (.invokevirtual 38, 3) := by decide +kernel
theorem dL_law_326 : decode cL_law 326 = .ok (.aload_n 2, 1) := by decide +kernel
theorem dL_law_327 : decode cL_law 327 = .ok (.aload_n 0, 1) := by decide +kernel
theorem dL_law_328 : decode cL_law 328 = .ok (.iload_n 3, 1) := by decide +kernel
theorem dL_law_329 : decode cL_law 329 = .ok (.iconst 1, 1) := by decide +kernel
theorem dL_law_330 : decode cL_law 330 = .ok (.iadd, 1) := by decide +kernel
theorem dL_law_331 : decode cL_law 331 = .ok (.iaload, 1) := by decide +kernel
theorem dL_law_332 : decode cL_law 332 = .ok (.aload_n 0, 1) := by decide +kernel
theorem dL_law_333 : decode cL_law 333 = .ok (.iload_n 3, 1) := by decide +kernel
theorem dL_law_334 : decode cL_law 334 = .ok (.iconst 2, 1) := by decide +kernel
theorem dL_law_335 : decode cL_law 335 = .ok (.iadd, 1) := by decide +kernel
theorem dL_law_336 : decode cL_law 336 = .ok (.iaload, 1) := by decide +kernel
theorem dL_law_337 : decode cL_law 337 = .ok (.aload_n 0, 1) := by decide +kernel
theorem dL_law_338 : decode cL_law 338 = .ok (.iload_n 3, 1) := by decide +kernel
theorem dL_law_339 : decode cL_law 339 = .ok (.iconst 3, 1) := by decide +kernel
theorem dL_law_340 : decode cL_law 340 = .ok (.iadd, 1) := by decide +kernel
theorem dL_law_341 : decode cL_law 341 = .ok (.iaload, 1) := by decide +kernel
theorem dL_law_342 : decode cL_law 342 = .ok (.aload_n 0, 1) := by decide +kernel
theorem dL_law_343 : decode cL_law 343 = .ok (.iload_n 3, 1) := by decide +kernel
theorem dL_law_344 : decode cL_law 344 = .ok (.iconst 4, 1) := by decide +kernel
theorem dL_law_345 : decode cL_law 345 = .ok (.iadd, 1) := by decide +kernel
theorem dL_law_346 : decode cL_law 346 = .ok (.iaload, 1) := by decide +kernel
theorem dL_law_347 : decode cL_law 347 = .ok (.aload_n 0, 1) := by decide +kernel
theorem dL_law_348 : decode cL_law 348 = .ok (.iload_n 3, 1) := by decide +kernel
theorem dL_law_349 : decode cL_law 349 = .ok (.iconst 5, 1) := by decide +kernel
theorem dL_law_350 : decode cL_law 350 = .ok (.iadd, 1) := by decide +kernel
theorem dL_law_351 : decode cL_law 351 = .ok (.iaload, 1) := by decide +kernel
theorem dL_law_352 : decode cL_law 352 = .ok (.invokevirtual 42, 3) := by decide +kernel
theorem dL_law_355 : decode cL_law 355 = .ok (.if_icmp .eq 814, 3) := by decide +kernel
theorem dL_law_358 : decode cL_law 358 = .ok (.iconst 0, 1) := by decide +kernel
theorem dL_law_359 : decode cL_law 359 = .ok (.ireturn, 1) := by decide +kernel
theorem dL_law_360 : decode cL_law 360 = .ok (.aload_n 1, 1) := by decide +kernel
theorem dL_law_361 : decode cL_law 361 = .ok (.aload_n 0, 1) := by decide +kernel
theorem dL_law_362 : decode cL_law 362 = .ok (.iload_n 3, 1) := by decide +kernel
theorem dL_law_363 : decode cL_law 363 = .ok (.iconst 1, 1) := by decide +kernel
theorem dL_law_364 : decode cL_law 364 = .ok (.iadd, 1) := by decide +kernel
theorem dL_law_365 : decode cL_law 365 = .ok (.iaload, 1) := by decide +kernel
theorem dL_law_366 : decode cL_law 366 = .ok (.aload_n 0, 1) := by decide +kernel
theorem dL_law_367 : decode cL_law 367 = .ok (.iload_n 3, 1) := by decide +kernel
theorem dL_law_368 : decode cL_law 368 = .ok (.iconst 2, 1) := by decide +kernel
theorem dL_law_369 : decode cL_law 369 = .ok (.iadd, 1) := by decide +kernel
theorem dL_law_370 : decode cL_law 370 = .ok (.iaload, 1) := by decide +kernel
theorem dL_law_371 : decode cL_law 371 = .ok (.invokevirtual 43, 3) := by decide +kernel
theorem dL_law_374 : decode cL_law 374 = .ok (.aload_n 2, 1) := by decide +kernel
theorem dL_law_375 : decode cL_law 375 = .ok (.aload_n 0, 1) := by decide +kernel
theorem dL_law_376 : decode cL_law 376 = .ok (.iload_n 3, 1) := by decide +kernel
theorem dL_law_377 : decode cL_law 377 = .ok (.iconst 1, 1) := by decide +kernel
theorem dL_law_378 : decode cL_law 378 = .ok (.iadd, 1) := by decide +kernel
theorem dL_law_379 : decode cL_law 379 = .ok (.iaload, 1) := by decide +kernel
theorem dL_law_380 : decode cL_law 380 = .ok (.aload_n 0, 1) := by decide +kernel
theorem dL_law_381 : decode cL_law 381 = .ok (.iload_n 3, 1) := by decide +kernel
theorem dL_law_382 : decode cL_law 382 = .ok (.iconst 2, 1) := by decide +kernel
theorem dL_law_383 : decode cL_law 383 = .ok (.iadd, 1) := by decide +kernel
theorem dL_law_384 : decode cL_law 384 = .ok (.iaload, 1) := by decide +kernel
theorem dL_law_385 : decode cL_law 385 = .ok (.invokevirtual 46, 3) := by decide +kernel
theorem dL_law_388 : decode cL_law 388 = .ok (.if_icmp .eq 781, 3) := by decide +kernel
theorem dL_law_391 : decode cL_law 391 = .ok (.iconst 0, 1) := by decide +kernel
theorem dL_law_392 : decode cL_law 392 = .ok (.ireturn, 1) := by decide +kernel
theorem dL_law_393 : decode cL_law 393 = .ok (.aload_n 1, 1) := by decide +kernel
theorem dL_law_394 : decode cL_law 394 = .ok (.aload_n 0, 1) := by decide +kernel
theorem dL_law_395 : decode cL_law 395 = .ok (.iload_n 3, 1) := by decide +kernel
theorem dL_law_396 : decode cL_law 396 = .ok (.iconst 1, 1) := by decide +kernel
theorem dL_law_397 : decode cL_law 397 = .ok (.iadd, 1) := by decide +kernel
theorem dL_law_398 : decode cL_law 398 = .ok (.iaload, 1) := by decide +kernel
theorem dL_law_399 : decode cL_law 399 = .ok (.aload_n 0, 1) := by decide +kernel
theorem dL_law_400 : decode cL_law 400 = .ok (.iload_n 3, 1) := by decide +kernel
theorem dL_law_401 : decode cL_law 401 = .ok (.iconst 2, 1) := by decide +kernel
theorem dL_law_402 : decode cL_law 402 = .ok (.iadd, 1) := by decide +kernel
theorem dL_law_403 : decode cL_law 403 = .ok (.iaload, 1) := by decide +kernel
theorem dL_law_404 : decode cL_law 404 = .ok (.invokevirtual 47, 3) := by decide +kernel
theorem dL_law_407 : decode cL_law 407 = .ok (.aload_n 2, 1) := by decide +kernel
theorem dL_law_408 : decode cL_law 408 = .ok (.aload_n 0, 1) := by decide +kernel
theorem dL_law_409 : decode cL_law 409 = .ok (.iload_n 3, 1) := by decide +kernel
theorem dL_law_410 : decode cL_law 410 = .ok (.iconst 1, 1) := by decide +kernel
theorem dL_law_411 : decode cL_law 411 = .ok (.iadd, 1) := by decide +kernel
theorem dL_law_412 : decode cL_law 412 = .ok (.iaload, 1) := by decide +kernel
theorem dL_law_413 : decode cL_law 413 = .ok (.aload_n 0, 1) := by decide +kernel
theorem dL_law_414 : decode cL_law 414 = .ok (.iload_n 3, 1) := by decide +kernel
theorem dL_law_415 : decode cL_law 415 = .ok (.iconst 2, 1) := by decide +kernel
theorem dL_law_416 : decode cL_law 416 = .ok (.iadd, 1) := by decide +kernel
theorem dL_law_417 : decode cL_law 417 = .ok (.iaload, 1) := by decide +kernel
theorem dL_law_418 : decode cL_law 418 = .ok (.invokevirtual 50, 3) := by decide +kernel
theorem dL_law_421 : decode cL_law 421 = .ok (.if_icmp .eq 748, 3) := by decide +kernel
theorem dL_law_424 : decode cL_law 424 = .ok (.iconst 0, 1) := by decide +kernel
theorem dL_law_425 : decode cL_law 425 = .ok (.ireturn, 1) := by decide +kernel
theorem dL_law_426 : decode cL_law 426 = .ok (.aload_n 1, 1) := by decide +kernel
theorem dL_law_427 : decode cL_law 427 = .ok (.aload_n 0, 1) := by decide +kernel
theorem dL_law_428 : decode cL_law 428 = .ok (.iload_n 3, 1) := by decide +kernel
theorem dL_law_429 : decode cL_law 429 = .ok (.iconst 1, 1) := by decide +kernel
theorem dL_law_430 : decode cL_law 430 = .ok (.iadd, 1) := by decide +kernel
theorem dL_law_431 : decode cL_law 431 = .ok (.iaload, 1) := by decide +kernel
theorem dL_law_432 : decode cL_law 432 = .ok (.aload_n 0, 1) := by decide +kernel
theorem dL_law_433 : decode cL_law 433 = .ok (.iload_n 3, 1) := by decide +kernel
theorem dL_law_434 : decode cL_law 434 = .ok (.iconst 2, 1) := by decide +kernel
theorem dL_law_435 : decode cL_law 435 = .ok (.iadd, 1) := by decide +kernel
theorem dL_law_436 : decode cL_law 436 = .ok (.iaload, 1) := by decide +kernel
theorem dL_law_437 : decode cL_law 437 = .ok (.aload_n 0, 1) := by decide +kernel
theorem dL_law_438 : decode cL_law 438 = .ok (.iload_n 3, 1) := by decide +kernel
theorem dL_law_439 : decode cL_law 439 = .ok (.iconst 3, 1) := by decide +kernel
theorem dL_law_440 : decode cL_law 440 = .ok (.iadd, 1) := by decide +kernel
theorem dL_law_441 : decode cL_law 441 = .ok (.iaload, 1) := by decide +kernel
theorem dL_law_442 : decode cL_law 442 = .ok (.invokevirtual 51, 3) := by decide +kernel
theorem dL_law_445 : decode cL_law 445 = .ok (.aload_n 2, 1) := by decide +kernel
theorem dL_law_446 : decode cL_law 446 = .ok (.aload_n 0, 1) := by decide +kernel
theorem dL_law_447 : decode cL_law 447 = .ok (.iload_n 3, 1) := by decide +kernel
theorem dL_law_448 : decode cL_law 448 = .ok (.iconst 1, 1) := by decide +kernel
theorem dL_law_449 : decode cL_law 449 = .ok (.iadd, 1) := by decide +kernel
theorem dL_law_450 : decode cL_law 450 = .ok (.iaload, 1) := by decide +kernel
theorem dL_law_451 : decode cL_law 451 = .ok (.aload_n 0, 1) := by decide +kernel
theorem dL_law_452 : decode cL_law 452 = .ok (.iload_n 3, 1) := by decide +kernel
theorem dL_law_453 : decode cL_law 453 = .ok (.iconst 2, 1) := by decide +kernel
theorem dL_law_454 : decode cL_law 454 = .ok (.iadd, 1) := by decide +kernel
theorem dL_law_455 : decode cL_law 455 = .ok (.iaload, 1) := by decide +kernel
theorem dL_law_456 : decode cL_law 456 = .ok (.aload_n 0, 1) := by decide +kernel
theorem dL_law_457 : decode cL_law 457 = .ok (.iload_n 3, 1) := by decide +kernel
theorem dL_law_458 : decode cL_law 458 = .ok (.iconst 3, 1) := by decide +kernel
theorem dL_law_459 : decode cL_law 459 = .ok (.iadd, 1) := by decide +kernel
theorem dL_law_460 : decode cL_law 460 = .ok (.iaload, 1) := by decide +kernel
theorem dL_law_461 : decode cL_law 461 = .ok (.invokevirtual 55, 3) := by decide +kernel
theorem dL_law_464 : decode cL_law 464 = .ok (.if_icmp .eq 705, 3) := by decide +kernel
theorem dL_law_467 : decode cL_law 467 = .ok (.iconst 0, 1) := by decide +kernel
theorem dL_law_468 : decode cL_law 468 = .ok (.ireturn, 1) := by decide +kernel
theorem dL_law_469 : decode cL_law 469 = .ok (.aload_n 1, 1) := by decide +kernel
theorem dL_law_470 : decode cL_law 470 = .ok (.aload_n 0, 1) := by decide +kernel
theorem dL_law_471 : decode cL_law 471 = .ok (.iload_n 3, 1) := by decide +kernel
theorem dL_law_472 : decode cL_law 472 = .ok (.iconst 1, 1) := by decide +kernel
theorem dL_law_473 : decode cL_law 473 = .ok (.iadd, 1) := by decide +kernel
theorem dL_law_474 : decode cL_law 474 = .ok (.iaload, 1) := by decide +kernel
theorem dL_law_475 : decode cL_law 475 = .ok (.aload_n 0, 1) := by decide +kernel
theorem dL_law_476 : decode cL_law 476 = .ok (.iload_n 3, 1) := by decide +kernel
theorem dL_law_477 : decode cL_law 477 = .ok (.iconst 2, 1) := by decide +kernel
theorem dL_law_478 : decode cL_law 478 = .ok (.iadd, 1) := by decide +kernel
theorem dL_law_479 : decode cL_law 479 = .ok (.iaload, 1) := by decide +kernel
theorem dL_law_480 : decode cL_law 480 = .ok (.invokevirtual 56, 3) := by decide +kernel
theorem dL_law_483 : decode cL_law 483 = .ok (.aload_n 2, 1) := by decide +kernel
theorem dL_law_484 : decode cL_law 484 = .ok (.aload_n 0, 1) := by decide +kernel
theorem dL_law_485 : decode cL_law 485 = .ok (.iload_n 3, 1) := by decide +kernel
theorem dL_law_486 : decode cL_law 486 = .ok (.iconst 1, 1) := by decide +kernel
theorem dL_law_487 : decode cL_law 487 = .ok (.iadd, 1) := by decide +kernel
theorem dL_law_488 : decode cL_law 488 = .ok (.iaload, 1) := by decide +kernel
theorem dL_law_489 : decode cL_law 489 = .ok (.aload_n 0, 1) := by decide +kernel
theorem dL_law_490 : decode cL_law 490 = .ok (.iload_n 3, 1) := by decide +kernel
theorem dL_law_491 : decode cL_law 491 = .ok (.iconst 2, 1) := by decide +kernel
theorem dL_law_492 : decode cL_law 492 = .ok (.iadd, 1) := by decide +kernel
theorem dL_law_493 : decode cL_law 493 = .ok (.iaload, 1) := by decide +kernel
theorem dL_law_494 : decode cL_law 494 = .ok (.invokevirtual 59, 3) := by decide +kernel
theorem dL_law_497 : decode cL_law 497 = .ok (.if_icmp .eq 672, 3) := by decide +kernel
theorem dL_law_500 : decode cL_law 500 = .ok (.iconst 0, 1) := by decide +kernel
theorem dL_law_501 : decode cL_law 501 = .ok (.ireturn, 1) := by decide +kernel
theorem dL_law_502 : decode cL_law 502 = .ok (.aload_n 1, 1) := by decide +kernel
theorem dL_law_503 : decode cL_law 503 = .ok (.aload_n 0, 1) := by decide +kernel
theorem dL_law_504 : decode cL_law 504 = .ok (.iload_n 3, 1) := by decide +kernel
theorem dL_law_505 : decode cL_law 505 = .ok (.iconst 1, 1) := by decide +kernel
theorem dL_law_506 : decode cL_law 506 = .ok (.iadd, 1) := by decide +kernel
theorem dL_law_507 : decode cL_law 507 = .ok (.iaload, 1) := by decide +kernel
theorem dL_law_508 : decode cL_law 508 = .ok (.aload_n 0, 1) := by decide +kernel
theorem dL_law_509 : decode cL_law 509 = .ok (.iload_n 3, 1) := by decide +kernel
theorem dL_law_510 : decode cL_law 510 = .ok (.iconst 2, 1) := by decide +kernel
theorem dL_law_511 : decode cL_law 511 = .ok (.iadd, 1) := by decide +kernel
theorem dL_law_512 : decode cL_law 512 = .ok (.iaload, 1) := by decide +kernel
theorem dL_law_513 : decode cL_law 513 = .ok (.invokevirtual 60, 3) := by decide +kernel
theorem dL_law_516 : decode cL_law 516 = .ok (.aload_n 2, 1) := by decide +kernel
theorem dL_law_517 : decode cL_law 517 = .ok (.aload_n 0, 1) := by decide +kernel
theorem dL_law_518 : decode cL_law 518 = .ok (.iload_n 3, 1) := by decide +kernel
theorem dL_law_519 : decode cL_law 519 = .ok (.iconst 1, 1) := by decide +kernel
theorem dL_law_520 : decode cL_law 520 = .ok (.iadd, 1) := by decide +kernel
theorem dL_law_521 : decode cL_law 521 = .ok (.iaload, 1) := by decide +kernel
theorem dL_law_522 : decode cL_law 522 = .ok (.aload_n 0, 1) := by decide +kernel
theorem dL_law_523 : decode cL_law 523 = .ok (.iload_n 3, 1) := by decide +kernel
theorem dL_law_524 : decode cL_law 524 = .ok (.iconst 2, 1) := by decide +kernel
theorem dL_law_525 : decode cL_law 525 = .ok (.iadd, 1) := by decide +kernel
theorem dL_law_526 : decode cL_law 526 = .ok (.iaload, 1) := by decide +kernel
theorem dL_law_527 : decode cL_law 527 = .ok (.invokevirtual 63, 3) := by decide +kernel
theorem dL_law_530 : decode cL_law 530 = .ok (.if_icmp .eq 639, 3) := by decide +kernel
theorem dL_law_533 : decode cL_law 533 = .ok (.iconst 0, 1) := by decide +kernel
theorem dL_law_534 : decode cL_law 534 = .ok (.ireturn, 1) := by decide +kernel
theorem dL_law_535 : decode cL_law 535 = .ok (.aload_n 1, 1) := by decide +kernel
theorem dL_law_536 : decode cL_law 536 = .ok (.aload_n 0, 1) := by decide +kernel
theorem dL_law_537 : decode cL_law 537 = .ok (.iload_n 3, 1) := by decide +kernel
theorem dL_law_538 : decode cL_law 538 = .ok (.iconst 1, 1) := by decide +kernel
theorem dL_law_539 : decode cL_law 539 = .ok (.iadd, 1) := by decide +kernel
theorem dL_law_540 : decode cL_law 540 = .ok (.iaload, 1) := by decide +kernel
theorem dL_law_541 : decode cL_law 541 = .ok (.invokevirtual 64, 3) := by decide +kernel
theorem dL_law_544 : decode cL_law 544 = .ok (.aload_n 2, 1) := by decide +kernel
theorem dL_law_545 : decode cL_law 545 = .ok (.aload_n 0, 1) := by decide +kernel
theorem dL_law_546 : decode cL_law 546 = .ok (.iload_n 3, 1) := by decide +kernel
theorem dL_law_547 : decode cL_law 547 = .ok (.iconst 1, 1) := by decide +kernel
theorem dL_law_548 : decode cL_law 548 = .ok (.iadd, 1) := by decide +kernel
theorem dL_law_549 : decode cL_law 549 = .ok (.iaload, 1) := by decide +kernel
theorem dL_law_550 : decode cL_law 550 = .ok (.invokevirtual 68, 3) := by decide +kernel
theorem dL_law_553 : decode cL_law 553 = .ok (.if_icmp .eq 616, 3) := by decide +kernel
theorem dL_law_556 : decode cL_law 556 = .ok (.iconst 0, 1) := by decide +kernel
theorem dL_law_557 : decode cL_law 557 = .ok (.ireturn, 1) := by decide +kernel
theorem dL_law_558 : decode cL_law 558 = .ok (.aload_n 1, 1) := by decide +kernel
theorem dL_law_559 : decode cL_law 559 = .ok (.aload_n 0, 1) := by decide +kernel
theorem dL_law_560 : decode cL_law 560 = .ok (.iload_n 3, 1) := by decide +kernel
theorem dL_law_561 : decode cL_law 561 = .ok (.iconst 1, 1) := by decide +kernel
theorem dL_law_562 : decode cL_law 562 = .ok (.iadd, 1) := by decide +kernel
theorem dL_law_563 : decode cL_law 563 = .ok (.iaload, 1) := by decide +kernel
theorem dL_law_564 : decode cL_law 564 = .ok (.aload_n 0, 1) := by decide +kernel
theorem dL_law_565 : decode cL_law 565 = .ok (.iload_n 3, 1) := by decide +kernel
theorem dL_law_566 : decode cL_law 566 = .ok (.iconst 2, 1) := by decide +kernel
theorem dL_law_567 : decode cL_law 567 = .ok (.iadd, 1) := by decide +kernel
theorem dL_law_568 : decode cL_law 568 = .ok (.iaload, 1) := by decide +kernel
theorem dL_law_569 : decode cL_law 569 = .ok (.invokevirtual 69, 3) := by decide +kernel
theorem dL_law_572 : decode cL_law 572 = .ok (.aload_n 2, 1) := by decide +kernel
theorem dL_law_573 : decode cL_law 573 = .ok (.aload_n 0, 1) := by decide +kernel
theorem dL_law_574 : decode cL_law 574 = .ok (.iload_n 3, 1) := by decide +kernel
theorem dL_law_575 : decode cL_law 575 = .ok (.iconst 1, 1) := by decide +kernel
theorem dL_law_576 : decode cL_law 576 = .ok (.iadd, 1) := by decide +kernel
theorem dL_law_577 : decode cL_law 577 = .ok (.iaload, 1) := by decide +kernel
theorem dL_law_578 : decode cL_law 578 = .ok (.aload_n 0, 1) := by decide +kernel
theorem dL_law_579 : decode cL_law 579 = .ok (.iload_n 3, 1) := by decide +kernel
theorem dL_law_580 : decode cL_law 580 = .ok (.iconst 2, 1) := by decide +kernel
theorem dL_law_581 : decode cL_law 581 = .ok (.iadd, 1) := by decide +kernel
theorem dL_law_582 : decode cL_law 582 = .ok (.iaload, 1) := by decide +kernel
theorem dL_law_583 : decode cL_law 583 = .ok (.invokevirtual 72, 3) := by decide +kernel
theorem dL_law_586 : decode cL_law 586 = .ok (.if_icmp .eq 583, 3) := by decide +kernel
theorem dL_law_589 : decode cL_law 589 = .ok (.iconst 0, 1) := by decide +kernel
theorem dL_law_590 : decode cL_law 590 = .ok (.ireturn, 1) := by decide +kernel
theorem dL_law_591 : decode cL_law 591 = .ok (.aload_n 1, 1) := by decide +kernel
theorem dL_law_592 : decode cL_law 592 = .ok (.aload_n 0, 1) := by decide +kernel
theorem dL_law_593 : decode cL_law 593 = .ok (.iload_n 3, 1) := by decide +kernel
theorem dL_law_594 : decode cL_law 594 = .ok (.iconst 1, 1) := by decide +kernel
theorem dL_law_595 : decode cL_law 595 = .ok (.iadd, 1) := by decide +kernel
theorem dL_law_596 : decode cL_law 596 = .ok (.iaload, 1) := by decide +kernel
theorem dL_law_597 : decode cL_law 597 = .ok (.aload_n 0, 1) := by decide +kernel
theorem dL_law_598 : decode cL_law 598 = .ok (.iload_n 3, 1) := by decide +kernel
theorem dL_law_599 : decode cL_law 599 = .ok (.iconst 2, 1) := by decide +kernel
theorem dL_law_600 : decode cL_law 600 = .ok (.iadd, 1) := by decide +kernel
theorem dL_law_601 : decode cL_law 601 = .ok (.iaload, 1) := by decide +kernel
theorem dL_law_602 : decode cL_law 602 = .ok (.invokevirtual 73, 3) := by decide +kernel
theorem dL_law_605 : decode cL_law 605 = .ok (.aload_n 2, 1) := by decide +kernel
theorem dL_law_606 : decode cL_law 606 = .ok (.aload_n 0, 1) := by decide +kernel
theorem dL_law_607 : decode cL_law 607 = .ok (.iload_n 3, 1) := by decide +kernel
theorem dL_law_608 : decode cL_law 608 = .ok (.iconst 1, 1) := by decide +kernel
theorem dL_law_609 : decode cL_law 609 = .ok (.iadd, 1) := by decide +kernel
theorem dL_law_610 : decode cL_law 610 = .ok (.iaload, 1) := by decide +kernel
theorem dL_law_611 : decode cL_law 611 = .ok (.aload_n 0, 1) := by decide +kernel
theorem dL_law_612 : decode cL_law 612 = .ok (.iload_n 3, 1) := by decide +kernel
theorem dL_law_613 : decode cL_law 613 = .ok (.iconst 2, 1) := by decide +kernel
theorem dL_law_614 : decode cL_law 614 = .ok (.iadd, 1) := by decide +kernel
theorem dL_law_615 : decode cL_law 615 = .ok (.iaload, 1) := by decide +kernel
theorem dL_law_616 : decode cL_law 616 = .ok (.invokevirtual 76, 3) := by decide +kernel
theorem dL_law_619 : decode cL_law 619 = .ok (.if_icmp .eq 550, 3) := by decide +kernel
theorem dL_law_622 : decode cL_law 622 = .ok (.iconst 0, 1) := by decide +kernel
theorem dL_law_623 : decode cL_law 623 = .ok (.ireturn, 1) := by decide +kernel
theorem dL_law_624 : decode cL_law 624 = .ok (.aload_n 1, 1) := by decide +kernel
theorem dL_law_625 : decode cL_law 625 = .ok (.aload_n 0, 1) := by decide +kernel
theorem dL_law_626 : decode cL_law 626 = .ok (.iload_n 3, 1) := by decide +kernel
theorem dL_law_627 : decode cL_law 627 = .ok (.iconst 1, 1) := by decide +kernel
theorem dL_law_628 : decode cL_law 628 = .ok (.iadd, 1) := by decide +kernel
theorem dL_law_629 : decode cL_law 629 = .ok (.iaload, 1) := by decide +kernel
theorem dL_law_630 : decode cL_law 630 = .ok (.invokevirtual 77, 3) := by decide +kernel
theorem dL_law_633 : decode cL_law 633 = .ok (.aload_n 2, 1) := by decide +kernel
theorem dL_law_634 : decode cL_law 634 = .ok (.aload_n 0, 1) := by decide +kernel
theorem dL_law_635 : decode cL_law 635 = .ok (.iload_n 3, 1) := by decide +kernel
theorem dL_law_636 : decode cL_law 636 = .ok (.iconst 1, 1) := by decide +kernel
theorem dL_law_637 : decode cL_law 637 = .ok (.iadd, 1) := by decide +kernel
theorem dL_law_638 : decode cL_law 638 = .ok (.iaload, 1) := by decide +kernel
theorem dL_law_639 : decode cL_law 639 = .ok (.invokevirtual 80, 3) := by decide +kernel
theorem dL_law_642 : decode cL_law 642 = .ok (.if_icmp .eq 527, 3) := by decide +kernel
theorem dL_law_645 : decode cL_law 645 = .ok (.iconst 0, 1) := by decide +kernel
theorem dL_law_646 : decode cL_law 646 = .ok (.ireturn, 1) := by decide +kernel
theorem dL_law_647 : decode cL_law 647 = .ok (.aload_n 1, 1) := by decide +kernel
theorem dL_law_648 : decode cL_law 648 = .ok (.aload_n 0, 1) := by decide +kernel
theorem dL_law_649 : decode cL_law 649 = .ok (.iload_n 3, 1) := by decide +kernel
theorem dL_law_650 : decode cL_law 650 = .ok (.iconst 1, 1) := by decide +kernel
theorem dL_law_651 : decode cL_law 651 = .ok (.iadd, 1) := by decide +kernel
theorem dL_law_652 : decode cL_law 652 = .ok (.iaload, 1) := by decide +kernel
theorem dL_law_653 : decode cL_law 653 = .ok (.aload_n 0, 1) := by decide +kernel
theorem dL_law_654 : decode cL_law 654 = .ok (.iload_n 3, 1) := by decide +kernel
theorem dL_law_655 : decode cL_law 655 = .ok (.iconst 2, 1) := by decide +kernel
theorem dL_law_656 : decode cL_law 656 = .ok (.iadd, 1) := by decide +kernel
theorem dL_law_657 : decode cL_law 657 = .ok (.iaload, 1) := by decide +kernel
theorem dL_law_658 : decode cL_law 658 = .ok (.invokevirtual 81, 3) := by decide +kernel
theorem dL_law_661 : decode cL_law 661 = .ok (.aload_n 2, 1) := by decide +kernel
theorem dL_law_662 : decode cL_law 662 = .ok (.aload_n 0, 1) := by decide +kernel
theorem dL_law_663 : decode cL_law 663 = .ok (.iload_n 3, 1) := by decide +kernel
theorem dL_law_664 : decode cL_law 664 = .ok (.iconst 1, 1) := by decide +kernel
theorem dL_law_665 : decode cL_law 665 = .ok (.iadd, 1) := by decide +kernel
theorem dL_law_666 : decode cL_law 666 = .ok (.iaload, 1) := by decide +kernel
theorem dL_law_667 : decode cL_law 667 = .ok (.aload_n 0, 1) := by decide +kernel
theorem dL_law_668 : decode cL_law 668 = .ok (.iload_n 3, 1) := by decide +kernel
theorem dL_law_669 : decode cL_law 669 = .ok (.iconst 2, 1) := by decide +kernel
theorem dL_law_670 : decode cL_law 670 = .ok (.iadd, 1) := by decide +kernel
theorem dL_law_671 : decode cL_law 671 = .ok (.iaload, 1) := by decide +kernel
theorem dL_law_672 : decode cL_law 672 = .ok (.invokevirtual 84, 3) := by decide +kernel
theorem dL_law_675 : decode cL_law 675 = .ok (.if_icmp .eq 494, 3) := by decide +kernel
theorem dL_law_678 : decode cL_law 678 = .ok (.iconst 0, 1) := by decide +kernel
theorem dL_law_679 : decode cL_law 679 = .ok (.ireturn, 1) := by decide +kernel
theorem dL_law_680 : decode cL_law 680 = .ok (.aload_n 1, 1) := by decide +kernel
theorem dL_law_681 : decode cL_law 681 = .ok (.aload_n 0, 1) := by decide +kernel
theorem dL_law_682 : decode cL_law 682 = .ok (.iload_n 3, 1) := by decide +kernel
theorem dL_law_683 : decode cL_law 683 = .ok (.iconst 1, 1) := by decide +kernel
theorem dL_law_684 : decode cL_law 684 = .ok (.iadd, 1) := by decide +kernel
theorem dL_law_685 : decode cL_law 685 = .ok (.iaload, 1) := by decide +kernel
theorem dL_law_686 : decode cL_law 686 = .ok (.aload_n 0, 1) := by decide +kernel
theorem dL_law_687 : decode cL_law 687 = .ok (.iload_n 3, 1) := by decide +kernel
theorem dL_law_688 : decode cL_law 688 = .ok (.iconst 2, 1) := by decide +kernel
theorem dL_law_689 : decode cL_law 689 = .ok (.iadd, 1) := by decide +kernel
theorem dL_law_690 : decode cL_law 690 = .ok (.iaload, 1) := by decide +kernel
theorem dL_law_691 : decode cL_law 691 = .ok (.aload_n 0, 1) := by decide +kernel
theorem dL_law_692 : decode cL_law 692 = .ok (.iload_n 3, 1) := by decide +kernel
theorem dL_law_693 : decode cL_law 693 = .ok (.iconst 3, 1) := by decide +kernel
theorem dL_law_694 : decode cL_law 694 = .ok (.iadd, 1) := by decide +kernel
theorem dL_law_695 : decode cL_law 695 = .ok (.iaload, 1) := by decide +kernel
theorem dL_law_696 : decode cL_law 696 = .ok (.invokevirtual 85, 3) := by decide +kernel
theorem dL_law_699 : decode cL_law 699 = .ok (.aload_n 2, 1) := by decide +kernel
theorem dL_law_700 : decode cL_law 700 = .ok (.aload_n 0, 1) := by decide +kernel
theorem dL_law_701 : decode cL_law 701 = .ok (.iload_n 3, 1) := by decide +kernel
theorem dL_law_702 : decode cL_law 702 = .ok (.iconst 1, 1) := by decide +kernel
theorem dL_law_703 : decode cL_law 703 = .ok (.iadd, 1) := by decide +kernel
theorem dL_law_704 : decode cL_law 704 = .ok (.iaload, 1) := by decide +kernel
theorem dL_law_705 : decode cL_law 705 = .ok (.aload_n 0, 1) := by decide +kernel
theorem dL_law_706 : decode cL_law 706 = .ok (.iload_n 3, 1) := by decide +kernel
theorem dL_law_707 : decode cL_law 707 = .ok (.iconst 2, 1) := by decide +kernel
theorem dL_law_708 : decode cL_law 708 = .ok (.iadd, 1) := by decide +kernel
theorem dL_law_709 : decode cL_law 709 = .ok (.iaload, 1) := by decide +kernel
theorem dL_law_710 : decode cL_law 710 = .ok (.aload_n 0, 1) := by decide +kernel
theorem dL_law_711 : decode cL_law 711 = .ok (.iload_n 3, 1) := by decide +kernel
theorem dL_law_712 : decode cL_law 712 = .ok (.iconst 3, 1) := by decide +kernel
theorem dL_law_713 : decode cL_law 713 = .ok (.iadd, 1) := by decide +kernel
theorem dL_law_714 : decode cL_law 714 = .ok (.iaload, 1) := by decide +kernel
theorem dL_law_715 : decode cL_law 715 = .ok (.invokevirtual 88, 3) := by decide +kernel
theorem dL_law_718 : decode cL_law 718 = .ok (.if_icmp .eq 451, 3) := by decide +kernel
theorem dL_law_721 : decode cL_law 721 = .ok (.iconst 0, 1) := by decide +kernel
theorem dL_law_722 : decode cL_law 722 = .ok (.ireturn, 1) := by decide +kernel
theorem dL_law_723 : decode cL_law 723 = .ok (.aload_n 1, 1) := by decide +kernel
theorem dL_law_724 : decode cL_law 724 = .ok (.aload_n 0, 1) := by decide +kernel
theorem dL_law_725 : decode cL_law 725 = .ok (.iload_n 3, 1) := by decide +kernel
theorem dL_law_726 : decode cL_law 726 = .ok (.iconst 1, 1) := by decide +kernel
theorem dL_law_727 : decode cL_law 727 = .ok (.iadd, 1) := by decide +kernel
theorem dL_law_728 : decode cL_law 728 = .ok (.iaload, 1) := by decide +kernel
theorem dL_law_729 : decode cL_law 729 = .ok (.invokevirtual 89, 3) := by decide +kernel
theorem dL_law_732 : decode cL_law 732 = .ok (.aload_n 2, 1) := by decide +kernel
theorem dL_law_733 : decode cL_law 733 = .ok (.aload_n 0, 1) := by decide +kernel
theorem dL_law_734 : decode cL_law 734 = .ok (.iload_n 3, 1) := by decide +kernel
theorem dL_law_735 : decode cL_law 735 = .ok (.iconst 1, 1) := by decide +kernel
theorem dL_law_736 : decode cL_law 736 = .ok (.iadd, 1) := by decide +kernel
theorem dL_law_737 : decode cL_law 737 = .ok (.iaload, 1) := by decide +kernel
theorem dL_law_738 : decode cL_law 738 = .ok (.invokevirtual 92, 3) := by decide +kernel
theorem dL_law_741 : decode cL_law 741 = .ok (.if_icmp .eq 428, 3) := by decide +kernel
theorem dL_law_744 : decode cL_law 744 = .ok (.iconst 0, 1) := by decide +kernel
theorem dL_law_745 : decode cL_law 745 = .ok (.ireturn, 1) := by decide +kernel
theorem dL_law_746 : decode cL_law 746 = .ok (.aload_n 1, 1) := by decide +kernel
theorem dL_law_747 : decode cL_law 747 = .ok (.aload_n 0, 1) := by decide +kernel
theorem dL_law_748 : decode cL_law 748 = .ok (.iload_n 3, 1) := by decide +kernel
theorem dL_law_749 : decode cL_law 749 = .ok (.iconst 1, 1) := by decide +kernel
theorem dL_law_750 : decode cL_law 750 = .ok (.iadd, 1) := by decide +kernel
theorem dL_law_751 : decode cL_law 751 = .ok (.iaload, 1) := by decide +kernel
theorem dL_law_752 : decode cL_law 752 = .ok (.aload_n 0, 1) := by decide +kernel
theorem dL_law_753 : decode cL_law 753 = .ok (.iload_n 3, 1) := by decide +kernel
theorem dL_law_754 : decode cL_law 754 = .ok (.iconst 2, 1) := by decide +kernel
theorem dL_law_755 : decode cL_law 755 = .ok (.iadd, 1) := by decide +kernel
theorem dL_law_756 : decode cL_law 756 = .ok (.iaload, 1) := by decide +kernel
theorem dL_law_757 : decode cL_law 757 = .ok (.aload_n 0, 1) := by decide +kernel
theorem dL_law_758 : decode cL_law 758 = .ok (.iload_n 3, 1) := by decide +kernel
theorem dL_law_759 : decode cL_law 759 = .ok (.iconst 3, 1) := by decide +kernel
theorem dL_law_760 : decode cL_law 760 = .ok (.iadd, 1) := by decide +kernel
theorem dL_law_761 : decode cL_law 761 = .ok (.iaload, 1) := by decide +kernel
theorem dL_law_762 : decode cL_law 762 = .ok (.aload_n 0, 1) := by decide +kernel
theorem dL_law_763 : decode cL_law 763 = .ok (.iload_n 3, 1) := by decide +kernel
theorem dL_law_764 : decode cL_law 764 = .ok (.iconst 4, 1) := by decide +kernel
theorem dL_law_765 : decode cL_law 765 = .ok (.iadd, 1) := by decide +kernel
theorem dL_law_766 : decode cL_law 766 = .ok (.iaload, 1) := by decide +kernel
theorem dL_law_767 : decode cL_law 767 = .ok (.invokevirtual 93, 3) := by decide +kernel
theorem dL_law_770 : decode cL_law 770 = .ok (.aload_n 2, 1) := by decide +kernel
theorem dL_law_771 : decode cL_law 771 = .ok (.aload_n 0, 1) := by decide +kernel
theorem dL_law_772 : decode cL_law 772 = .ok (.iload_n 3, 1) := by decide +kernel
theorem dL_law_773 : decode cL_law 773 = .ok (.iconst 1, 1) := by decide +kernel
theorem dL_law_774 : decode cL_law 774 = .ok (.iadd, 1) := by decide +kernel
theorem dL_law_775 : decode cL_law 775 = .ok (.iaload, 1) := by decide +kernel
theorem dL_law_776 : decode cL_law 776 = .ok (.aload_n 0, 1) := by decide +kernel
theorem dL_law_777 : decode cL_law 777 = .ok (.iload_n 3, 1) := by decide +kernel
theorem dL_law_778 : decode cL_law 778 = .ok (.iconst 2, 1) := by decide +kernel
theorem dL_law_779 : decode cL_law 779 = .ok (.iadd, 1) := by decide +kernel
theorem dL_law_780 : decode cL_law 780 = .ok (.iaload, 1) := by decide +kernel
theorem dL_law_781 : decode cL_law 781 = .ok (.aload_n 0, 1) := by decide +kernel
theorem dL_law_782 : decode cL_law 782 = .ok (.iload_n 3, 1) := by decide +kernel
theorem dL_law_783 : decode cL_law 783 = .ok (.iconst 3, 1) := by decide +kernel
theorem dL_law_784 : decode cL_law 784 = .ok (.iadd, 1) := by decide +kernel
theorem dL_law_785 : decode cL_law 785 = .ok (.iaload, 1) := by decide +kernel
theorem dL_law_786 : decode cL_law 786 = .ok (.aload_n 0, 1) := by decide +kernel
theorem dL_law_787 : decode cL_law 787 = .ok (.iload_n 3, 1) := by decide +kernel
theorem dL_law_788 : decode cL_law 788 = .ok (.iconst 4, 1) := by decide +kernel
theorem dL_law_789 : decode cL_law 789 = .ok (.iadd, 1) := by decide +kernel
theorem dL_law_790 : decode cL_law 790 = .ok (.iaload, 1) := by decide +kernel
theorem dL_law_791 : decode cL_law 791 = .ok (.invokevirtual 97, 3) := by decide +kernel
theorem dL_law_794 : decode cL_law 794 = .ok (.lcmp, 1) := by decide +kernel
theorem dL_law_795 : decode cL_law 795 = .ok (.ifCond .eq 374, 3) := by decide +kernel
theorem dL_law_798 : decode cL_law 798 = .ok (.iconst 0, 1) := by decide +kernel
theorem dL_law_799 : decode cL_law 799 = .ok (.ireturn, 1) := by decide +kernel
theorem dL_law_800 : decode cL_law 800 = .ok (.aload_n 1, 1) := by decide +kernel
theorem dL_law_801 : decode cL_law 801 = .ok (.aload_n 0, 1) := by decide +kernel
theorem dL_law_802 : decode cL_law 802 = .ok (.iload_n 3, 1) := by decide +kernel
theorem dL_law_803 : decode cL_law 803 = .ok (.iconst 1, 1) := by decide +kernel
theorem dL_law_804 : decode cL_law 804 = .ok (.iadd, 1) := by decide +kernel
theorem dL_law_805 : decode cL_law 805 = .ok (.iaload, 1) := by decide +kernel
theorem dL_law_806 : decode cL_law 806 = .ok (.aload_n 0, 1) := by decide +kernel
theorem dL_law_807 : decode cL_law 807 = .ok (.iload_n 3, 1) := by decide +kernel
theorem dL_law_808 : decode cL_law 808 = .ok (.iconst 2, 1) := by decide +kernel
theorem dL_law_809 : decode cL_law 809 = .ok (.iadd, 1) := by decide +kernel
theorem dL_law_810 : decode cL_law 810 = .ok (.iaload, 1) := by decide +kernel
theorem dL_law_811 : decode cL_law 811 = .ok (.aload_n 0, 1) := by decide +kernel
theorem dL_law_812 : decode cL_law 812 = .ok (.iload_n 3, 1) := by decide +kernel
theorem dL_law_813 : decode cL_law 813 = .ok (.iconst 3, 1) := by decide +kernel
theorem dL_law_814 : decode cL_law 814 = .ok (.iadd, 1) := by decide +kernel
theorem dL_law_815 : decode cL_law 815 = .ok (.iaload, 1) := by decide +kernel
theorem dL_law_816 : decode cL_law 816 = .ok (.invokevirtual 98, 3) := by decide +kernel
theorem dL_law_819 : decode cL_law 819 = .ok (.aload_n 2, 1) := by decide +kernel
theorem dL_law_820 : decode cL_law 820 = .ok (.aload_n 0, 1) := by decide +kernel
theorem dL_law_821 : decode cL_law 821 = .ok (.iload_n 3, 1) := by decide +kernel
theorem dL_law_822 : decode cL_law 822 = .ok (.iconst 1, 1) := by decide +kernel
theorem dL_law_823 : decode cL_law 823 = .ok (.iadd, 1) := by decide +kernel
theorem dL_law_824 : decode cL_law 824 = .ok (.iaload, 1) := by decide +kernel
theorem dL_law_825 : decode cL_law 825 = .ok (.aload_n 0, 1) := by decide +kernel
theorem dL_law_826 : decode cL_law 826 = .ok (.iload_n 3, 1) := by decide +kernel
theorem dL_law_827 : decode cL_law 827 = .ok (.iconst 2, 1) := by decide +kernel
theorem dL_law_828 : decode cL_law 828 = .ok (.iadd, 1) := by decide +kernel
theorem dL_law_829 : decode cL_law 829 = .ok (.iaload, 1) := by decide +kernel
theorem dL_law_830 : decode cL_law 830 = .ok (.aload_n 0, 1) := by decide +kernel
theorem dL_law_831 : decode cL_law 831 = .ok (.iload_n 3, 1) := by decide +kernel
theorem dL_law_832 : decode cL_law 832 = .ok (.iconst 3, 1) := by decide +kernel
theorem dL_law_833 : decode cL_law 833 = .ok (.iadd, 1) := by decide +kernel
theorem dL_law_834 : decode cL_law 834 = .ok (.iaload, 1) := by decide +kernel
theorem dL_law_835 : decode cL_law 835 = .ok (.invokevirtual 102, 3) := by decide +kernel
theorem dL_law_838 : decode cL_law 838 = .ok (.lcmp, 1) := by decide +kernel
theorem dL_law_839 : decode cL_law 839 = .ok (.ifCond .eq 330, 3) := by decide +kernel
theorem dL_law_842 : decode cL_law 842 = .ok (.iconst 0, 1) := by decide +kernel
theorem dL_law_843 : decode cL_law 843 = .ok (.ireturn, 1) := by decide +kernel
theorem dL_law_844 : decode cL_law 844 = .ok (.aload_n 1, 1) := by decide +kernel
theorem dL_law_845 : decode cL_law 845 = .ok (.aload_n 0, 1) := by decide +kernel
theorem dL_law_846 : decode cL_law 846 = .ok (.iload_n 3, 1) := by decide +kernel
theorem dL_law_847 : decode cL_law 847 = .ok (.iconst 1, 1) := by decide +kernel
theorem dL_law_848 : decode cL_law 848 = .ok (.iadd, 1) := by decide +kernel
theorem dL_law_849 : decode cL_law 849 = .ok (.iaload, 1) := by decide +kernel
theorem dL_law_850 : decode cL_law 850 = .ok (.aload_n 0, 1) := by decide +kernel
theorem dL_law_851 : decode cL_law 851 = .ok (.iload_n 3, 1) := by decide +kernel
theorem dL_law_852 : decode cL_law 852 = .ok (.iconst 2, 1) := by decide +kernel
theorem dL_law_853 : decode cL_law 853 = .ok (.iadd, 1) := by decide +kernel
theorem dL_law_854 : decode cL_law 854 = .ok (.iaload, 1) := by decide +kernel
theorem dL_law_855 : decode cL_law 855 = .ok (.aload_n 0, 1) := by decide +kernel
theorem dL_law_856 : decode cL_law 856 = .ok (.iload_n 3, 1) := by decide +kernel
theorem dL_law_857 : decode cL_law 857 = .ok (.iconst 3, 1) := by decide +kernel
theorem dL_law_858 : decode cL_law 858 = .ok (.iadd, 1) := by decide +kernel
theorem dL_law_859 : decode cL_law 859 = .ok (.iaload, 1) := by decide +kernel
theorem dL_law_860 : decode cL_law 860 = .ok (.invokevirtual 103, 3) := by decide +kernel
theorem dL_law_863 : decode cL_law 863 = .ok (.aload_n 2, 1) := by decide +kernel
theorem dL_law_864 : decode cL_law 864 = .ok (.aload_n 0, 1) := by decide +kernel
theorem dL_law_865 : decode cL_law 865 = .ok (.iload_n 3, 1) := by decide +kernel
theorem dL_law_866 : decode cL_law 866 = .ok (.iconst 1, 1) := by decide +kernel
theorem dL_law_867 : decode cL_law 867 = .ok (.iadd, 1) := by decide +kernel
theorem dL_law_868 : decode cL_law 868 = .ok (.iaload, 1) := by decide +kernel
theorem dL_law_869 : decode cL_law 869 = .ok (.aload_n 0, 1) := by decide +kernel
theorem dL_law_870 : decode cL_law 870 = .ok (.iload_n 3, 1) := by decide +kernel
theorem dL_law_871 : decode cL_law 871 = .ok (.iconst 2, 1) := by decide +kernel
theorem dL_law_872 : decode cL_law 872 = .ok (.iadd, 1) := by decide +kernel
theorem dL_law_873 : decode cL_law 873 = .ok (.iaload, 1) := by decide +kernel
theorem dL_law_874 : decode cL_law 874 = .ok (.aload_n 0, 1) := by decide +kernel
theorem dL_law_875 : decode cL_law 875 = .ok (.iload_n 3, 1) := by decide +kernel
theorem dL_law_876 : decode cL_law 876 = .ok (.iconst 3, 1) := by decide +kernel
theorem dL_law_877 : decode cL_law 877 = .ok (.iadd, 1) := by decide +kernel
theorem dL_law_878 : decode cL_law 878 = .ok (.iaload, 1) := by decide +kernel
theorem dL_law_879 : decode cL_law 879 = .ok (.invokevirtual 106, 3) := by decide +kernel
theorem dL_law_882 : decode cL_law 882 = .ok (.lcmp, 1) := by decide +kernel
theorem dL_law_883 : decode cL_law 883 = .ok (.ifCond .eq 286, 3) := by decide +kernel
theorem dL_law_886 : decode cL_law 886 = .ok (.iconst 0, 1) := by decide +kernel
theorem dL_law_887 : decode cL_law 887 = .ok (.ireturn, 1) := by decide +kernel
theorem dL_law_888 : decode cL_law 888 = .ok (.aload_n 1, 1) := by decide +kernel
theorem dL_law_889 : decode cL_law 889 = .ok (.aload_n 0, 1) := by decide +kernel
theorem dL_law_890 : decode cL_law 890 = .ok (.iload_n 3, 1) := by decide +kernel
theorem dL_law_891 : decode cL_law 891 = .ok (.iconst 1, 1) := by decide +kernel
theorem dL_law_892 : decode cL_law 892 = .ok (.iadd, 1) := by decide +kernel
theorem dL_law_893 : decode cL_law 893 = .ok (.iaload, 1) := by decide +kernel
theorem dL_law_894 : decode cL_law 894 = .ok (.aload_n 0, 1) := by decide +kernel
theorem dL_law_895 : decode cL_law 895 = .ok (.iload_n 3, 1) := by decide +kernel
theorem dL_law_896 : decode cL_law 896 = .ok (.iconst 2, 1) := by decide +kernel
theorem dL_law_897 : decode cL_law 897 = .ok (.iadd, 1) := by decide +kernel
theorem dL_law_898 : decode cL_law 898 = .ok (.iaload, 1) := by decide +kernel
theorem dL_law_899 : decode cL_law 899 = .ok (.invokevirtual 107, 3) := by decide +kernel
theorem dL_law_902 : decode cL_law 902 = .ok (.aload_n 2, 1) := by decide +kernel
theorem dL_law_903 : decode cL_law 903 = .ok (.aload_n 0, 1) := by decide +kernel
theorem dL_law_904 : decode cL_law 904 = .ok (.iload_n 3, 1) := by decide +kernel
theorem dL_law_905 : decode cL_law 905 = .ok (.iconst 1, 1) := by decide +kernel
theorem dL_law_906 : decode cL_law 906 = .ok (.iadd, 1) := by decide +kernel
theorem dL_law_907 : decode cL_law 907 = .ok (.iaload, 1) := by decide +kernel
theorem dL_law_908 : decode cL_law 908 = .ok (.aload_n 0, 1) := by decide +kernel
theorem dL_law_909 : decode cL_law 909 = .ok (.iload_n 3, 1) := by decide +kernel
theorem dL_law_910 : decode cL_law 910 = .ok (.iconst 2, 1) := by decide +kernel
theorem dL_law_911 : decode cL_law 911 = .ok (.iadd, 1) := by decide +kernel
theorem dL_law_912 : decode cL_law 912 = .ok (.iaload, 1) := by decide +kernel
theorem dL_law_913 : decode cL_law 913 = .ok (.invokevirtual 110, 3) := by decide +kernel
theorem dL_law_916 : decode cL_law 916 = .ok (.if_icmp .eq 253, 3) := by decide +kernel
theorem dL_law_919 : decode cL_law 919 = .ok (.iconst 0, 1) := by decide +kernel
theorem dL_law_920 : decode cL_law 920 = .ok (.ireturn, 1) := by decide +kernel
theorem dL_law_921 : decode cL_law 921 = .ok (.aload_n 1, 1) := by decide +kernel
theorem dL_law_922 : decode cL_law 922 = .ok (.aload_n 0, 1) := by decide +kernel
theorem dL_law_923 : decode cL_law 923 = .ok (.iload_n 3, 1) := by decide +kernel
theorem dL_law_924 : decode cL_law 924 = .ok (.iconst 1, 1) := by decide +kernel
theorem dL_law_925 : decode cL_law 925 = .ok (.iadd, 1) := by decide +kernel
theorem dL_law_926 : decode cL_law 926 = .ok (.iaload, 1) := by decide +kernel
theorem dL_law_927 : decode cL_law 927 = .ok (.aload_n 0, 1) := by decide +kernel
theorem dL_law_928 : decode cL_law 928 = .ok (.iload_n 3, 1) := by decide +kernel
theorem dL_law_929 : decode cL_law 929 = .ok (.iconst 2, 1) := by decide +kernel
theorem dL_law_930 : decode cL_law 930 = .ok (.iadd, 1) := by decide +kernel
theorem dL_law_931 : decode cL_law 931 = .ok (.iaload, 1) := by decide +kernel
theorem dL_law_932 : decode cL_law 932 = .ok (.aload_n 0, 1) := by decide +kernel
theorem dL_law_933 : decode cL_law 933 = .ok (.iload_n 3, 1) := by decide +kernel
theorem dL_law_934 : decode cL_law 934 = .ok (.iconst 3, 1) := by decide +kernel
theorem dL_law_935 : decode cL_law 935 = .ok (.iadd, 1) := by decide +kernel
theorem dL_law_936 : decode cL_law 936 = .ok (.iaload, 1) := by decide +kernel
theorem dL_law_937 : decode cL_law 937 = .ok (.invokevirtual 111, 3) := by decide +kernel
theorem dL_law_940 : decode cL_law 940 = .ok (.aload_n 2, 1) := by decide +kernel
theorem dL_law_941 : decode cL_law 941 = .ok (.aload_n 0, 1) := by decide +kernel
theorem dL_law_942 : decode cL_law 942 = .ok (.iload_n 3, 1) := by decide +kernel
theorem dL_law_943 : decode cL_law 943 = .ok (.iconst 1, 1) := by decide +kernel
theorem dL_law_944 : decode cL_law 944 = .ok (.iadd, 1) := by decide +kernel
theorem dL_law_945 : decode cL_law 945 = .ok (.iaload, 1) := by decide +kernel
theorem dL_law_946 : decode cL_law 946 = .ok (.aload_n 0, 1) := by decide +kernel
theorem dL_law_947 : decode cL_law 947 = .ok (.iload_n 3, 1) := by decide +kernel
theorem dL_law_948 : decode cL_law 948 = .ok (.iconst 2, 1) := by decide +kernel
theorem dL_law_949 : decode cL_law 949 = .ok (.iadd, 1) := by decide +kernel
theorem dL_law_950 : decode cL_law 950 = .ok (.iaload, 1) := by decide +kernel
theorem dL_law_951 : decode cL_law 951 = .ok (.aload_n 0, 1) := by decide +kernel
theorem dL_law_952 : decode cL_law 952 = .ok (.iload_n 3, 1) := by decide +kernel
theorem dL_law_953 : decode cL_law 953 = .ok (.iconst 3, 1) := by decide +kernel
theorem dL_law_954 : decode cL_law 954 = .ok (.iadd, 1) := by decide +kernel
theorem dL_law_955 : decode cL_law 955 = .ok (.iaload, 1) := by decide +kernel
theorem dL_law_956 : decode cL_law 956 = .ok (.invokevirtual 114, 3) := by decide +kernel
theorem dL_law_959 : decode cL_law 959 = .ok (.if_icmp .eq 210, 3) := by decide +kernel
theorem dL_law_962 : decode cL_law 962 = .ok (.iconst 0, 1) := by decide +kernel
theorem dL_law_963 : decode cL_law 963 = .ok (.ireturn, 1) := by decide +kernel
theorem dL_law_964 : decode cL_law 964 = .ok (.aload_n 1, 1) := by decide +kernel
theorem dL_law_965 : decode cL_law 965 = .ok (.aload_n 0, 1) := by decide +kernel
theorem dL_law_966 : decode cL_law 966 = .ok (.iload_n 3, 1) := by decide +kernel
theorem dL_law_967 : decode cL_law 967 = .ok (.iconst 1, 1) := by decide +kernel
theorem dL_law_968 : decode cL_law 968 = .ok (.iadd, 1) := by decide +kernel
theorem dL_law_969 : decode cL_law 969 = .ok (.iaload, 1) := by decide +kernel
theorem dL_law_970 : decode cL_law 970 = .ok (.aload_n 0, 1) := by decide +kernel
theorem dL_law_971 : decode cL_law 971 = .ok (.iload_n 3, 1) := by decide +kernel
theorem dL_law_972 : decode cL_law 972 = .ok (.iconst 2, 1) := by decide +kernel
theorem dL_law_973 : decode cL_law 973 = .ok (.iadd, 1) := by decide +kernel
theorem dL_law_974 : decode cL_law 974 = .ok (.iaload, 1) := by decide +kernel
theorem dL_law_975 : decode cL_law 975 = .ok (.invokevirtual 115, 3) := by decide +kernel
theorem dL_law_978 : decode cL_law 978 = .ok (.aload_n 2, 1) := by decide +kernel
theorem dL_law_979 : decode cL_law 979 = .ok (.aload_n 0, 1) := by decide +kernel
theorem dL_law_980 : decode cL_law 980 = .ok (.iload_n 3, 1) := by decide +kernel
theorem dL_law_981 : decode cL_law 981 = .ok (.iconst 1, 1) := by decide +kernel
theorem dL_law_982 : decode cL_law 982 = .ok (.iadd, 1) := by decide +kernel
theorem dL_law_983 : decode cL_law 983 = .ok (.iaload, 1) := by decide +kernel
theorem dL_law_984 : decode cL_law 984 = .ok (.aload_n 0, 1) := by decide +kernel
theorem dL_law_985 : decode cL_law 985 = .ok (.iload_n 3, 1) := by decide +kernel
theorem dL_law_986 : decode cL_law 986 = .ok (.iconst 2, 1) := by decide +kernel
theorem dL_law_987 : decode cL_law 987 = .ok (.iadd, 1) := by decide +kernel
theorem dL_law_988 : decode cL_law 988 = .ok (.iaload, 1) := by decide +kernel
theorem dL_law_989 : decode cL_law 989 = .ok (.invokevirtual 118, 3) := by decide +kernel
theorem dL_law_992 : decode cL_law 992 = .ok (.if_icmp .eq 177, 3) := by decide +kernel
theorem dL_law_995 : decode cL_law 995 = .ok (.iconst 0, 1) := by decide +kernel
theorem dL_law_996 : decode cL_law 996 = .ok (.ireturn, 1) := by decide +kernel
theorem dL_law_997 : decode cL_law 997 = .ok (.aload_n 1, 1) := by decide +kernel
theorem dL_law_998 : decode cL_law 998 = .ok (.aload_n 0, 1) := by decide +kernel
theorem dL_law_999 : decode cL_law 999 = .ok (.iload_n 3, 1) := by decide +kernel
theorem dL_law_1000 : decode cL_law 1000 = .ok (.iconst 1, 1) := by decide +kernel
theorem dL_law_1001 : decode cL_law 1001 = .ok (.iadd, 1) := by decide +kernel
theorem dL_law_1002 : decode cL_law 1002 = .ok (.iaload, 1) := by decide +kernel
theorem dL_law_1003 : decode cL_law 1003 = .ok (.aload_n 0, 1) := by decide +kernel
theorem dL_law_1004 : decode cL_law 1004 = .ok (.iload_n 3, 1) := by decide +kernel
theorem dL_law_1005 : decode cL_law 1005 = .ok (.iconst 2, 1) := by decide +kernel
theorem dL_law_1006 : decode cL_law 1006 = .ok (.iadd, 1) := by decide +kernel
theorem dL_law_1007 : decode cL_law 1007 = .ok (.iaload, 1) := by decide +kernel
theorem dL_law_1008 : decode cL_law 1008 = .ok (.aload_n 0, 1) := by decide +kernel
theorem dL_law_1009 : decode cL_law 1009 = .ok (.iload_n 3, 1) := by decide +kernel
theorem dL_law_1010 : decode cL_law 1010 = .ok (.iconst 3, 1) := by decide +kernel
theorem dL_law_1011 : decode cL_law 1011 = .ok (.iadd, 1) := by decide +kernel
theorem dL_law_1012 : decode cL_law 1012 = .ok (.iaload, 1) := by decide +kernel
theorem dL_law_1013 : decode cL_law 1013 = .ok (.invokevirtual 119, 3) := by decide +kernel
theorem dL_law_1016 : decode cL_law 1016 = .ok (.aload_n 2, 1) := by decide +kernel
theorem dL_law_1017 : decode cL_law 1017 = .ok (.aload_n 0, 1) := by decide +kernel
theorem dL_law_1018 : decode cL_law 1018 = .ok (.iload_n 3, 1) := by decide +kernel
theorem dL_law_1019 : decode cL_law 1019 = .ok (.iconst 1, 1) := by decide +kernel
theorem dL_law_1020 : decode cL_law 1020 = .ok (.iadd, 1) := by decide +kernel
theorem dL_law_1021 : decode cL_law 1021 = .ok (.iaload, 1) := by decide +kernel
theorem dL_law_1022 : decode cL_law 1022 = .ok (.aload_n 0, 1) := by decide +kernel
theorem dL_law_1023 : decode cL_law 1023 = .ok (.iload_n 3, 1) := by decide +kernel
theorem dL_law_1024 : decode cL_law 1024 = .ok (.iconst 2, 1) := by decide +kernel
theorem dL_law_1025 : decode cL_law 1025 = .ok (.iadd, 1) := by decide +kernel
theorem dL_law_1026 : decode cL_law 1026 = .ok (.iaload, 1) := by decide +kernel
theorem dL_law_1027 : decode cL_law 1027 = .ok (.aload_n 0, 1) := by decide +kernel
theorem dL_law_1028 : decode cL_law 1028 = .ok (.iload_n 3, 1) := by decide +kernel
theorem dL_law_1029 : decode cL_law 1029 = .ok (.iconst 3, 1) := by decide +kernel
theorem dL_law_1030 : decode cL_law 1030 = .ok (.iadd, 1) := by decide +kernel
theorem dL_law_1031 : decode cL_law 1031 = .ok (.iaload, 1) := by decide +kernel
theorem dL_law_1032 : decode cL_law 1032 = .ok (.invokevirtual 122, 3) := by decide +kernel
theorem dL_law_1035 : decode cL_law 1035 = .ok (.if_icmp .eq 134, 3) := by decide +kernel
theorem dL_law_1038 : decode cL_law 1038 = .ok (.iconst 0, 1) := by decide +kernel
theorem dL_law_1039 : decode cL_law 1039 = .ok (.ireturn, 1) := by decide +kernel
theorem dL_law_1040 : decode cL_law 1040 = .ok (.aload_n 1, 1) := by decide +kernel
theorem dL_law_1041 : decode cL_law 1041 = .ok (.aload_n 0, 1) := by decide +kernel
theorem dL_law_1042 : decode cL_law 1042 = .ok (.iload_n 3, 1) := by decide +kernel
theorem dL_law_1043 : decode cL_law 1043 = .ok (.iconst 1, 1) := by decide +kernel
theorem dL_law_1044 : decode cL_law 1044 = .ok (.iadd, 1) := by decide +kernel
theorem dL_law_1045 : decode cL_law 1045 = .ok (.iaload, 1) := by decide +kernel
theorem dL_law_1046 : decode cL_law 1046 = .ok (.aload_n 0, 1) := by decide +kernel
theorem dL_law_1047 : decode cL_law 1047 = .ok (.iload_n 3, 1) := by decide +kernel
theorem dL_law_1048 : decode cL_law 1048 = .ok (.iconst 2, 1) := by decide +kernel
theorem dL_law_1049 : decode cL_law 1049 = .ok (.iadd, 1) := by decide +kernel
theorem dL_law_1050 : decode cL_law 1050 = .ok (.iaload, 1) := by decide +kernel
theorem dL_law_1051 : decode cL_law 1051 = .ok (.aload_n 0, 1) := by decide +kernel
theorem dL_law_1052 : decode cL_law 1052 = .ok (.iload_n 3, 1) := by decide +kernel
theorem dL_law_1053 : decode cL_law 1053 = .ok (.iconst 3, 1) := by decide +kernel
theorem dL_law_1054 : decode cL_law 1054 = .ok (.iadd, 1) := by decide +kernel
theorem dL_law_1055 : decode cL_law 1055 = .ok (.iaload, 1) := by decide +kernel
theorem dL_law_1056 : decode cL_law 1056 = .ok (.invokevirtual 123, 3) := by decide +kernel
theorem dL_law_1059 : decode cL_law 1059 = .ok (.aload_n 2, 1) := by decide +kernel
theorem dL_law_1060 : decode cL_law 1060 = .ok (.aload_n 0, 1) := by decide +kernel
theorem dL_law_1061 : decode cL_law 1061 = .ok (.iload_n 3, 1) := by decide +kernel
theorem dL_law_1062 : decode cL_law 1062 = .ok (.iconst 1, 1) := by decide +kernel
theorem dL_law_1063 : decode cL_law 1063 = .ok (.iadd, 1) := by decide +kernel
theorem dL_law_1064 : decode cL_law 1064 = .ok (.iaload, 1) := by decide +kernel
theorem dL_law_1065 : decode cL_law 1065 = .ok (.aload_n 0, 1) := by decide +kernel
theorem dL_law_1066 : decode cL_law 1066 = .ok (.iload_n 3, 1) := by decide +kernel
theorem dL_law_1067 : decode cL_law 1067 = .ok (.iconst 2, 1) := by decide +kernel
theorem dL_law_1068 : decode cL_law 1068 = .ok (.iadd, 1) := by decide +kernel
theorem dL_law_1069 : decode cL_law 1069 = .ok (.iaload, 1) := by decide +kernel
theorem dL_law_1070 : decode cL_law 1070 = .ok (.aload_n 0, 1) := by decide +kernel
theorem dL_law_1071 : decode cL_law 1071 = .ok (.iload_n 3, 1) := by decide +kernel
theorem dL_law_1072 : decode cL_law 1072 = .ok (.iconst 3, 1) := by decide +kernel
theorem dL_law_1073 : decode cL_law 1073 = .ok (.iadd, 1) := by decide +kernel
theorem dL_law_1074 : decode cL_law 1074 = .ok (.iaload, 1) := by decide +kernel
theorem dL_law_1075 : decode cL_law 1075 = .ok (.invokevirtual 126, 3) := by decide +kernel
theorem dL_law_1078 : decode cL_law 1078 = .ok (.if_icmp .eq 91, 3) := by decide +kernel
theorem dL_law_1081 : decode cL_law 1081 = .ok (.iconst 0, 1) := by decide +kernel
theorem dL_law_1082 : decode cL_law 1082 = .ok (.ireturn, 1) := by decide +kernel
theorem dL_law_1083 : decode cL_law 1083 = .ok (.aload_n 1, 1) := by decide +kernel
theorem dL_law_1084 : decode cL_law 1084 = .ok (.aload_n 0, 1) := by decide +kernel
theorem dL_law_1085 : decode cL_law 1085 = .ok (.iload_n 3, 1) := by decide +kernel
theorem dL_law_1086 : decode cL_law 1086 = .ok (.iconst 1, 1) := by decide +kernel
theorem dL_law_1087 : decode cL_law 1087 = .ok (.iadd, 1) := by decide +kernel
theorem dL_law_1088 : decode cL_law 1088 = .ok (.iaload, 1) := by decide +kernel
theorem dL_law_1089 : decode cL_law 1089 = .ok (.invokevirtual 127, 3) := by decide +kernel
theorem dL_law_1092 : decode cL_law 1092 = .ok (.aload_n 2, 1) := by decide +kernel
theorem dL_law_1093 : decode cL_law 1093 = .ok (.aload_n 0, 1) := by decide +kernel
theorem dL_law_1094 : decode cL_law 1094 = .ok (.iload_n 3, 1) := by decide +kernel
theorem dL_law_1095 : decode cL_law 1095 = .ok (.iconst 1, 1) := by decide +kernel
theorem dL_law_1096 : decode cL_law 1096 = .ok (.iadd, 1) := by decide +kernel
theorem dL_law_1097 : decode cL_law 1097 = .ok (.iaload, 1) := by decide +kernel
theorem dL_law_1098 : decode cL_law 1098 = .ok (.invokevirtual 130, 3) := by decide +kernel
theorem dL_law_1101 : decode cL_law 1101 = .ok (.if_icmp .eq 68, 3) := by decide +kernel
theorem dL_law_1104 : decode cL_law 1104 = .ok (.iconst 0, 1) := by decide +kernel
theorem dL_law_1105 : decode cL_law 1105 = .ok (.ireturn, 1) := by decide +kernel
theorem dL_law_1106 : decode cL_law 1106 = .ok (.aload_n 1, 1) := by decide +kernel
theorem dL_law_1107 : decode cL_law 1107 = .ok (.invokevirtual 131, 3) := by decide +kernel
theorem dL_law_1110 : decode cL_law 1110 = .ok (.aload_n 2, 1) := by decide +kernel
theorem dL_law_1111 : decode cL_law 1111 = .ok (.invokevirtual 134, 3) := by decide +kernel
theorem dL_law_1114 : decode cL_law 1114 = .ok (.if_icmp .eq 55, 3) := by decide +kernel
theorem dL_law_1117 : decode cL_law 1117 = .ok (.iconst 0, 1) := by decide +kernel
theorem dL_law_1118 : decode cL_law 1118 = .ok (.ireturn, 1) := by decide +kernel
theorem dL_law_1119 : decode cL_law 1119 = .ok (.aload_n 1, 1) := by decide +kernel
theorem dL_law_1120 : decode cL_law 1120 = .ok (.invokevirtual 135, 3) := by decide +kernel
theorem dL_law_1123 : decode cL_law 1123 = .ok (.aload_n 2, 1) := by decide +kernel
theorem dL_law_1124 : decode cL_law 1124 = .ok (.invokevirtual 138, 3) := by decide +kernel
theorem dL_law_1127 : decode cL_law 1127 = .ok (.if_icmp .eq 42, 3) := by decide +kernel
theorem dL_law_1130 : decode cL_law 1130 = .ok (.iconst 0, 1) := by decide +kernel
theorem dL_law_1131 : decode cL_law 1131 = .ok (.ireturn, 1) := by decide +kernel
theorem dL_law_1132 : decode cL_law 1132 = .ok (.aload_n 1, 1) := by decide +kernel
theorem dL_law_1133 : decode cL_law 1133 = .ok (.aload_n 0, 1) := by decide +kernel
theorem dL_law_1134 : decode cL_law 1134 = .ok (.iload_n 3, 1) := by decide +kernel
theorem dL_law_1135 : decode cL_law 1135 = .ok (.iconst 1, 1) := by decide +kernel
theorem dL_law_1136 : decode cL_law 1136 = .ok (.iadd, 1) := by decide +kernel
theorem dL_law_1137 : decode cL_law 1137 = .ok (.iaload, 1) := by decide +kernel
theorem dL_law_1138 : decode cL_law 1138 = .ok (.invokevirtual 139, 3) := by decide +kernel
theorem dL_law_1141 : decode cL_law 1141 = .ok (.aload_n 2, 1) := by decide +kernel
theorem dL_law_1142 : decode cL_law 1142 = .ok (.aload_n 0, 1) := by decide +kernel
theorem dL_law_1143 : decode cL_law 1143 = .ok (.iload_n 3, 1) := by decide +kernel
theorem dL_law_1144 : decode cL_law 1144 = .ok (.iconst 1, 1) := by decide +kernel
theorem dL_law_1145 : decode cL_law 1145 = .ok (.iadd, 1) := by decide +kernel
theorem dL_law_1146 : decode cL_law 1146 = .ok (.iaload, 1) := by decide +kernel
theorem dL_law_1147 : decode cL_law 1147 = .ok (.invokevirtual 142, 3) := by decide +kernel
theorem dL_law_1150 : decode cL_law 1150 = .ok (.if_icmp .eq 19, 3) := by decide +kernel
theorem dL_law_1153 : decode cL_law 1153 = .ok (.iconst 0, 1) := by decide +kernel
theorem dL_law_1154 : decode cL_law 1154 = .ok (.ireturn, 1) := by decide +kernel
theorem dL_law_1155 : decode cL_law 1155 = .ok (.aload_n 1, 1) := by decide +kernel
theorem dL_law_1156 : decode cL_law 1156 = .ok (.invokevirtual 143, 3) := by decide +kernel
theorem dL_law_1159 : decode cL_law 1159 = .ok (.aload_n 2, 1) := by decide +kernel
theorem dL_law_1160 : decode cL_law 1160 = .ok (.invokevirtual 147, 3) := by decide +kernel
theorem dL_law_1163 : decode cL_law 1163 = .ok (.lcmp, 1) := by decide +kernel
theorem dL_law_1164 : decode cL_law 1164 = .ok (.ifCond .eq 5, 3) := by decide +kernel
theorem dL_law_1167 : decode cL_law 1167 = .ok (.iconst 0, 1) := by decide +kernel
theorem dL_law_1168 : decode cL_law 1168 = .ok (.ireturn, 1) := by decide +kernel
theorem dL_law_1169 : decode cL_law 1169 = .ok (.iinc 3 6, 3) := by decide +kernel
theorem dL_law_1172 : decode cL_law 1172 = .ok (.goto (-1154), 3) := by decide +kernel
theorem dL_law_1175 : decode cL_law 1175 = .ok (.iconst 1, 1) := by decide +kernel
theorem dL_law_1176 : decode cL_law 1176 = .ok (.ireturn, 1) := by decide +kernel
end
section
/-- words by their places (as goodIn_r, the membership alone) -/
theorem j_words {big ws : List Cond} (ps : List Nat) (hp : ws = ps.filterMap (fun i => big[i]?)) : ∀ w ∈ ws, w ∈ big := by
  intro w hw
  rw [hp] at hw
  obtain ⟨i, -, hi⟩ := List.mem_filterMap.mp hw
  first | exact List.mem_of_getElem? hi | exact List.getElem?_mem hi
set_option maxRecDepth 20000 in
theorem wsL_law_r1_in : ∀ w ∈ wsL_law_r1, w ∈ lw_tbl := j_words [73, 74, 59, 736, 737, 63, 1157, 75, 76, 77, 78, 79, 80, 81, 82, 60, 152, 97, 153, 99, 155, 101, 102, 61] (by decide +kernel)
set_option maxRecDepth 20000 in
theorem wsL_law_r2_in : ∀ w ∈ wsL_law_r2, w ∈ lw_tbl := j_words [157, 158, 160, 96, 161, 139, 140, 62, 162, 84, 85, 86, 87, 104, 105, 106, 107, 109, 114, 142, 143, 144, 145, 146] (by decide +kernel)
set_option maxRecDepth 20000 in
theorem wsL_law_r3_in : ∀ w ∈ wsL_law_r3, w ∈ lw_tbl := j_words [738, 739, 740, 741, 742, 743, 746, 751, 752, 753, 754, 755, 757, 758, 759, 848, 761, 764, 766, 772, 773, 774, 775, 186] (by decide +kernel)
set_option maxRecDepth 20000 in
theorem wsL_law_r4_in : ∀ w ∈ wsL_law_r4, w ∈ lw_tbl := j_words [187, 188, 189, 89, 190, 191, 192, 193, 194, 195, 196, 197, 198, 199, 200, 90, 849, 850, 851, 852, 853, 760, 201, 202] (by decide +kernel)
set_option maxRecDepth 20000 in
theorem wsL_law_r5_in : ∀ w ∈ wsL_law_r5, w ∈ lw_tbl := j_words [203, 204, 854, 855, 856, 857, 205, 206, 207, 208, 209, 210, 211, 212, 213, 215, 0, 216, 217, 218, 219, 220, 221, 222] (by decide +kernel)
set_option maxRecDepth 20000 in
theorem wsL_law_r6_in : ∀ w ∈ wsL_law_r6, w ∈ lw_tbl := j_words [858, 859, 860, 861, 767, 862, 864, 22, 865, 771, 768, 866, 868, 23, 869, 769, 770, 870, 871, 872, 873, 874, 875, 223] (by decide +kernel)
set_option maxRecDepth 20000 in
theorem wsL_law_r7_in : ∀ w ∈ wsL_law_r7, w ∈ lw_tbl := j_words [224, 225, 226, 154, 227, 228, 229, 230, 231, 232, 233, 234, 235, 236, 237, 64, 238, 239, 240, 241, 242, 244, 246, 876] (by decide +kernel)
set_option maxRecDepth 20000 in
theorem wsL_law_r8_in : ∀ w ∈ wsL_law_r8, w ∈ lw_tbl := j_words [877, 878, 879, 756, 254, 255, 256, 257, 258, 260, 1, 261, 262, 263, 264, 265, 880, 881, 882, 883, 884, 886, 24, 887] (by decide +kernel)
set_option maxRecDepth 20000 in
theorem wsL_law_r9_in : ∀ w ∈ wsL_law_r9, w ∈ lw_tbl := j_words [888, 890, 25, 891, 266, 267, 268, 269, 156, 299, 303, 307, 270, 271, 272, 273, 274, 275, 276, 277, 278, 279, 280, 281] (by decide +kernel)
set_option maxRecDepth 20000 in
theorem wsL_law_r10_in : ∀ w ∈ wsL_law_r10, w ∈ lw_tbl := j_words [282, 283, 66, 318, 319, 67, 329, 330, 68, 340, 65, 284, 285, 286, 287, 288, 289, 290, 291, 320, 321, 322, 323, 331] (by decide +kernel)
set_option maxRecDepth 20000 in
theorem wsL_law_r11_in : ∀ w ∈ wsL_law_r11, w ∈ lw_tbl := j_words [332, 333, 334, 341, 892, 893, 894, 895, 750, 896, 897, 898, 899, 900, 901, 347, 348, 349, 350, 351, 353, 2, 354, 355] (by decide +kernel)
set_option maxRecDepth 20000 in
theorem wsL_law_r12_in : ∀ w ∈ wsL_law_r12, w ∈ lw_tbl := j_words [356, 357, 282, 318, 329, 902, 903, 904, 905, 906, 908, 26, 909, 358, 359, 360, 361, 362, 365, 366, 363, 369, 298, 302] (by decide +kernel)
set_option maxRecDepth 20000 in
theorem wsL_law_r13_in : ∀ w ∈ wsL_law_r13, w ∈ lw_tbl := j_words [306, 370, 373, 371, 374, 375, 376, 383, 370, 371, 372, 377, 378, 379, 380, 381, 382, 384, 387, 388, 385, 393, 384, 386] (by decide +kernel)
set_option maxRecDepth 20000 in
theorem wsL_law_r14_in : ∀ w ∈ wsL_law_r14, w ∈ lw_tbl := j_words [385, 389, 390, 391, 292, 293, 392, 362, 364, 367, 368, 910, 911, 912, 913, 914, 916, 27, 917, 918, 920, 28, 921, 394] (by decide +kernel)
set_option maxRecDepth 20000 in
theorem wsL_law_r15_in : ∀ w ∈ wsL_law_r15, w ∈ lw_tbl := j_words [395, 396, 397, 922, 923, 924, 925, 398, 399, 400, 401, 108, 402, 403, 404, 405, 110, 116, 406, 408, 3, 409, 120, 926] (by decide +kernel)
set_option maxRecDepth 20000 in
theorem wsL_law_r16_in : ∀ w ∈ wsL_law_r16, w ∈ lw_tbl := j_words [927, 928, 929, 930, 931, 932, 933, 935, 29, 936, 747, 744, 937, 939, 30, 940, 749, 411, 412, 413, 414, 415, 416, 417] (by decide +kernel)
set_option maxRecDepth 20000 in
theorem wsL_law_r17_in : ∀ w ∈ wsL_law_r17, w ∈ lw_tbl := j_words [418, 419, 420, 69, 421, 118, 941, 942, 943, 944, 945, 947, 31, 948, 748, 422, 423, 424, 425, 949, 950, 951, 952, 426] (by decide +kernel)
set_option maxRecDepth 20000 in
theorem wsL_law_r18_in : ∀ w ∈ wsL_law_r18, w ∈ lw_tbl := j_words [427, 428, 429, 430, 431, 432, 433, 953, 954, 955, 956, 957, 959, 32, 960, 434, 435, 436, 437, 961, 962, 963, 964, 438] (by decide +kernel)
set_option maxRecDepth 20000 in
theorem wsL_law_r19_in : ∀ w ∈ wsL_law_r19, w ∈ lw_tbl := j_words [439, 440, 441, 115, 965, 966, 967, 968, 442, 443, 444, 445, 111, 446, 447, 448, 449, 300, 450, 452, 4, 453, 304, 243] (by decide +kernel)
set_option maxRecDepth 20000 in
theorem wsL_law_r20_in : ∀ w ∈ wsL_law_r20, w ∈ lw_tbl := j_words [112, 308, 245, 454, 456, 5, 457, 458, 459, 460, 461, 463, 6, 464, 465, 466, 467, 468, 469, 470, 471, 472, 473, 473] (by decide +kernel)
set_option maxRecDepth 20000 in
theorem wsL_law_r21_in : ∀ w ∈ wsL_law_r21, w ∈ lw_tbl := j_words [474, 475, 478, 476, 479, 480, 481, 484, 475, 476, 477, 482, 483, 485, 488, 486, 489, 490, 491, 294, 295, 494, 485, 486] (by decide +kernel)
set_option maxRecDepth 20000 in
theorem wsL_law_r22_in : ∀ w ∈ wsL_law_r22, w ∈ lw_tbl := j_words [487, 492, 493, 495, 497, 7, 498, 499, 500, 501, 502, 503, 504, 505, 507, 8, 508, 509, 510, 511, 512, 969, 970, 971] (by decide +kernel)
set_option maxRecDepth 20000 in
theorem wsL_law_r23_in : ∀ w ∈ wsL_law_r23, w ∈ lw_tbl := j_words [972, 973, 975, 33, 976, 977, 979, 34, 980, 981, 982, 983, 984, 985, 986, 988, 35, 989, 745, 990, 992, 36, 993, 994] (by decide +kernel)
set_option maxRecDepth 20000 in
theorem wsL_law_r24_in : ∀ w ∈ wsL_law_r24, w ∈ lw_tbl := j_words [996, 37, 997, 998, 1000, 38, 1001, 1002, 1004, 39, 1005, 1006, 1008, 40, 1009, 513, 514, 515, 516, 517, 519, 9, 520, 521] (by decide +kernel)
set_option maxRecDepth 20000 in
theorem wsL_law_r25_in : ∀ w ∈ wsL_law_r25, w ∈ lw_tbl := j_words [522, 523, 524, 525, 527, 526, 70, 1010, 1011, 1012, 1013, 1014, 1016, 41, 1017, 1018, 1020, 42, 1021, 765, 1022, 1024, 43, 1025] (by decide +kernel)
set_option maxRecDepth 20000 in
theorem wsL_law_r26_in : ∀ w ∈ wsL_law_r26, w ∈ lw_tbl := j_words [528, 529, 530, 531, 532, 533, 534, 535, 1026, 1027, 1028, 1029, 536, 537, 538, 539, 540, 541, 542, 543, 71, 544, 296, 301] (by decide +kernel)
set_option maxRecDepth 20000 in
theorem wsL_law_r27_in : ∀ w ∈ wsL_law_r27, w ∈ lw_tbl := j_words [305, 545, 546, 547, 548, 549, 550, 551, 552, 553, 554, 555, 556, 557, 558, 559, 1030, 1031, 1032, 1033, 1034, 1035, 1036, 1038] (by decide +kernel)
set_option maxRecDepth 20000 in
theorem wsL_law_r28_in : ∀ w ∈ wsL_law_r28, w ∈ lw_tbl := j_words [44, 1039, 1040, 1041, 1042, 1043, 1044, 1045, 1046, 1048, 45, 1049, 1050, 1051, 1052, 1053, 560, 561, 562, 563, 564, 565, 566, 567] (by decide +kernel)
set_option maxRecDepth 20000 in
theorem wsL_law_r29_in : ∀ w ∈ wsL_law_r29, w ∈ lw_tbl := j_words [568, 569, 570, 570, 571, 574, 572, 575, 576, 577, 580, 571, 572, 573, 578, 579, 581, 1054, 1055, 1056, 1057, 1058, 1059, 1060] (by decide +kernel)
set_option maxRecDepth 20000 in
theorem wsL_law_r30_in : ∀ w ∈ wsL_law_r30, w ∈ lw_tbl := j_words [1061, 1063, 46, 1064, 1065, 1067, 47, 1068, 582, 583, 584, 585, 586, 1069, 1070, 1071, 1072, 1073, 587, 588, 589, 590, 591, 592] (by decide +kernel)
set_option maxRecDepth 20000 in
theorem wsL_law_r31_in : ∀ w ∈ wsL_law_r31, w ∈ lw_tbl := j_words [593, 594, 595, 597, 10, 598, 599, 601, 11, 602, 603, 604, 72, 605, 606, 608, 12, 609, 297, 610, 612, 13, 613, 614] (by decide +kernel)
set_option maxRecDepth 20000 in
theorem wsL_law_r32_in : ∀ w ∈ wsL_law_r32, w ∈ lw_tbl := j_words [617, 618, 615, 621, 614, 616, 619, 620, 622, 625, 626, 623, 629, 622, 624, 627, 628, 630, 630, 631, 633, 14, 634, 635] (by decide +kernel)
set_option maxRecDepth 20000 in
theorem wsL_law_r33_in : ∀ w ∈ wsL_law_r33, w ∈ lw_tbl := j_words [635, 636, 639, 640, 637, 643, 636, 638, 641, 642, 644, 646, 15, 647, 648, 649, 650, 651, 652, 653, 654, 655, 656, 658] (by decide +kernel)
set_option maxRecDepth 20000 in
theorem wsL_law_r34_in : ∀ w ∈ wsL_law_r34, w ∈ lw_tbl := j_words [16, 659, 660, 661, 662, 663, 664, 666, 17, 667, 1074, 1075, 1076, 1077, 1078, 1080, 48, 1081, 1082, 1084, 49, 1085, 1090, 1086] (by decide +kernel)
set_option maxRecDepth 20000 in
theorem wsL_law_r35_in : ∀ w ∈ wsL_law_r35, w ∈ lw_tbl := j_words [1088, 50, 1089, 1091, 1093, 51, 1094, 1095, 1097, 52, 1098, 668, 669, 670, 671, 672, 673, 674, 675, 676, 677, 678, 679, 1099] (by decide +kernel)
set_option maxRecDepth 20000 in
theorem wsL_law_r36_in : ∀ w ∈ wsL_law_r36, w ∈ lw_tbl := j_words [1100, 1101, 1102, 1103, 1105, 53, 1106, 680, 681, 682, 683, 684, 686, 18, 687, 1107, 1108, 1109, 1110, 688, 689, 690, 691, 1111] (by decide +kernel)
set_option maxRecDepth 20000 in
theorem wsL_law_r37_in : ∀ w ∈ wsL_law_r37, w ∈ lw_tbl := j_words [1112, 1113, 1114, 1115, 1117, 54, 1118, 692, 693, 694, 695, 696, 697, 698, 1119, 1120, 1121, 1122, 699, 700, 701, 702, 703, 1123] (by decide +kernel)
set_option maxRecDepth 20000 in
theorem wsL_law_r38_in : ∀ w ∈ wsL_law_r38, w ∈ lw_tbl := j_words [1124, 1125, 1126, 704, 705, 706, 707, 159, 1127, 1128, 1129, 1130, 762, 763, 708, 709, 710, 711, 1131, 1132, 1133, 1134, 712, 713] (by decide +kernel)
set_option maxRecDepth 20000 in
theorem wsL_law_r39_in : ∀ w ∈ wsL_law_r39, w ∈ lw_tbl := j_words [714, 715, 113, 117, 119, 121, 1135, 1136, 1137, 1138, 1139, 1141, 55, 1142, 716, 717, 718, 719, 720, 725, 88, 721, 723, 19] (by decide +kernel)
set_option maxRecDepth 20000 in
theorem wsL_law_r40_in : ∀ w ∈ wsL_law_r40, w ∈ lw_tbl := j_words [724, 726, 728, 20, 729, 730, 732, 21, 733, 734, 735, 1143, 1144, 1145, 1146, 1147, 776, 1148, 1150, 56, 1151, 1152, 1153, 1155] (by decide +kernel)
set_option maxRecDepth 20000 in
theorem wsL_law_r41_in : ∀ w ∈ wsL_law_r41, w ∈ lw_tbl := j_words [57, 1156] (by decide +kernel)
set_option maxRecDepth 20000 in
theorem wsX90_tin : ∀ w ∈ wsX90, w ∈ lw_tbl := j_words [163, 165, 167, 169, 171, 173, 175, 177, 179, 181, 183] (by decide +kernel)
set_option maxRecDepth 20000 in
theorem wsX100_tin : ∀ w ∈ wsX100, w ∈ lw_tbl := j_words [777, 779, 781, 783, 785, 787, 789, 791, 793, 795, 797, 799, 801, 803, 805, 807, 809, 811, 813, 815, 817, 819, 821, 823, 825, 827, 829, 831, 833, 835, 837, 839, 841, 843, 845] (by decide +kernel)
set_option maxRecDepth 20000 in
theorem wsX40_tin : ∀ w ∈ wsX40, w ∈ lw_tbl := j_words [91, 93] (by decide +kernel)
set_option maxRecDepth 20000 in
theorem wsX20_tin : ∀ w ∈ wsX20, w ∈ lw_tbl := j_words [122, 124, 126, 128, 130, 132, 134, 136] (by decide +kernel)
set_option maxRecDepth 20000 in
theorem wsX80_tin : ∀ w ∈ wsX80, w ∈ lw_tbl := j_words [147, 149] (by decide +kernel)
set_option maxRecDepth 20000 in
theorem wsX10_tin : ∀ w ∈ wsX10, w ∈ lw_tbl := j_words [247, 249, 251] (by decide +kernel)
set_option maxRecDepth 20000 in
theorem wsX00_tin : ∀ w ∈ wsX00, w ∈ lw_tbl := j_words [335, 336, 337, 338] (by decide +kernel)
set_option maxRecDepth 20000 in
theorem wsX50_tin : ∀ w ∈ wsX50, w ∈ lw_tbl := j_words [342, 343, 344, 345] (by decide +kernel)
set_option maxRecDepth 20000 in
theorem wsX60_tin : ∀ w ∈ wsX60, w ∈ lw_tbl := j_words [309, 311, 313, 315] (by decide +kernel)
set_option maxRecDepth 20000 in
theorem wsX70_tin : ∀ w ∈ wsX70, w ∈ lw_tbl := j_words [324, 325, 326, 327] (by decide +kernel)
theorem wsL_law_in : ∀ w ∈ wsL_law, w ∈ lw_tbl := List.forall_mem_append.mpr ⟨List.forall_mem_append.mpr ⟨List.forall_mem_append.mpr ⟨List.forall_mem_append.mpr ⟨List.forall_mem_append.mpr ⟨List.forall_mem_append.mpr ⟨List.forall_mem_append.mpr ⟨List.forall_mem_append.mpr ⟨List.forall_mem_append.mpr ⟨List.forall_mem_append.mpr ⟨List.forall_mem_append.mpr ⟨List.forall_mem_append.mpr ⟨wsL_law_r1_in, List.forall_mem_append.mpr ⟨wsL_law_r2_in, List.forall_mem_append.mpr ⟨wsL_law_r3_in, List.forall_mem_append.mpr ⟨wsL_law_r4_in, List.forall_mem_append.mpr ⟨wsL_law_r5_in, List.forall_mem_append.mpr ⟨wsL_law_r6_in, List.forall_mem_append.mpr ⟨wsL_law_r7_in, List.forall_mem_append.mpr ⟨wsL_law_r8_in, List.forall_mem_append.mpr ⟨wsL_law_r9_in, List.forall_mem_append.mpr ⟨wsL_law_r10_in, List.forall_mem_append.mpr ⟨wsL_law_r11_in, List.forall_mem_append.mpr ⟨wsL_law_r12_in, List.forall_mem_append.mpr ⟨wsL_law_r13_in, List.forall_mem_append.mpr ⟨wsL_law_r14_in, List.forall_mem_append.mpr ⟨wsL_law_r15_in, List.forall_mem_append.mpr ⟨wsL_law_r16_in, List.forall_mem_append.mpr ⟨wsL_law_r17_in, List.forall_mem_append.mpr ⟨wsL_law_r18_in, List.forall_mem_append.mpr ⟨wsL_law_r19_in, List.forall_mem_append.mpr ⟨wsL_law_r20_in, List.forall_mem_append.mpr ⟨wsL_law_r21_in, List.forall_mem_append.mpr ⟨wsL_law_r22_in, List.forall_mem_append.mpr ⟨wsL_law_r23_in, List.forall_mem_append.mpr ⟨wsL_law_r24_in, List.forall_mem_append.mpr ⟨wsL_law_r25_in, List.forall_mem_append.mpr ⟨wsL_law_r26_in, List.forall_mem_append.mpr ⟨wsL_law_r27_in, List.forall_mem_append.mpr ⟨wsL_law_r28_in, List.forall_mem_append.mpr ⟨wsL_law_r29_in, List.forall_mem_append.mpr ⟨wsL_law_r30_in, List.forall_mem_append.mpr ⟨wsL_law_r31_in, List.forall_mem_append.mpr ⟨wsL_law_r32_in, List.forall_mem_append.mpr ⟨wsL_law_r33_in, List.forall_mem_append.mpr ⟨wsL_law_r34_in, List.forall_mem_append.mpr ⟨wsL_law_r35_in, List.forall_mem_append.mpr ⟨wsL_law_r36_in, List.forall_mem_append.mpr ⟨wsL_law_r37_in, List.forall_mem_append.mpr ⟨wsL_law_r38_in, List.forall_mem_append.mpr ⟨wsL_law_r39_in, List.forall_mem_append.mpr ⟨wsL_law_r40_in, wsL_law_r41_in⟩⟩⟩⟩⟩⟩⟩⟩⟩⟩⟩⟩⟩⟩⟩⟩⟩⟩⟩⟩⟩⟩⟩⟩⟩⟩⟩⟩⟩⟩⟩⟩⟩⟩⟩⟩⟩⟩⟩⟩, wsX90_tin⟩, wsX100_tin⟩, wsX40_tin⟩, wsX20_tin⟩, wsX80_tin⟩, wsX10_tin⟩, wsX00_tin⟩, wsX50_tin⟩, wsX60_tin⟩, wsX70_tin⟩, (fun _ h => absurd h List.not_mem_nil)⟩
theorem inlX0 : ∀ w ∈ wsX00, w ∈ wsL_law := fun _ h => List.mem_append_left _ (List.mem_append_left _ (List.mem_append_left _ (List.mem_append_left _ (List.mem_append_right _ h))))
theorem inX0 : ∀ w ∈ wsX00, w ∈ lw_tbl := fun w h => wsL_law_in w (inlX0 w h)
theorem inlX1 : ∀ w ∈ wsX10, w ∈ wsL_law := fun _ h => List.mem_append_left _ (List.mem_append_left _ (List.mem_append_left _ (List.mem_append_left _ (List.mem_append_left _ (List.mem_append_right _ h)))))
theorem inX1 : ∀ w ∈ wsX10, w ∈ lw_tbl := fun w h => wsL_law_in w (inlX1 w h)
theorem inlX2 : ∀ w ∈ wsX20, w ∈ wsL_law := fun _ h => List.mem_append_left _ (List.mem_append_left _ (List.mem_append_left _ (List.mem_append_left _ (List.mem_append_left _ (List.mem_append_left _ (List.mem_append_left _ (List.mem_append_right _ h)))))))
theorem inX2 : ∀ w ∈ wsX20, w ∈ lw_tbl := fun w h => wsL_law_in w (inlX2 w h)
theorem inX3 : ∀ w ∈ wsX30, w ∈ lw_tbl := by decide +kernel
theorem inlX4 : ∀ w ∈ wsX40, w ∈ wsL_law := fun _ h => List.mem_append_left _ (List.mem_append_left _ (List.mem_append_left _ (List.mem_append_left _ (List.mem_append_left _ (List.mem_append_left _ (List.mem_append_left _ (List.mem_append_left _ (List.mem_append_right _ h))))))))
theorem inX4 : ∀ w ∈ wsX40, w ∈ lw_tbl := fun w h => wsL_law_in w (inlX4 w h)
theorem inlX5 : ∀ w ∈ wsX50, w ∈ wsL_law := fun _ h => List.mem_append_left _ (List.mem_append_left _ (List.mem_append_left _ (List.mem_append_right _ h)))
theorem inX5 : ∀ w ∈ wsX50, w ∈ lw_tbl := fun w h => wsL_law_in w (inlX5 w h)
theorem inlX6 : ∀ w ∈ wsX60, w ∈ wsL_law := fun _ h => List.mem_append_left _ (List.mem_append_left _ (List.mem_append_right _ h))
theorem inX6 : ∀ w ∈ wsX60, w ∈ lw_tbl := fun w h => wsL_law_in w (inlX6 w h)
theorem inlX7 : ∀ w ∈ wsX70, w ∈ wsL_law := fun _ h => List.mem_append_left _ (List.mem_append_right _ h)
theorem inX7 : ∀ w ∈ wsX70, w ∈ lw_tbl := fun w h => wsL_law_in w (inlX7 w h)
theorem inlX8 : ∀ w ∈ wsX80, w ∈ wsL_law := fun _ h => List.mem_append_left _ (List.mem_append_left _ (List.mem_append_left _ (List.mem_append_left _ (List.mem_append_left _ (List.mem_append_left _ (List.mem_append_right _ h))))))
theorem inX8 : ∀ w ∈ wsX80, w ∈ lw_tbl := fun w h => wsL_law_in w (inlX8 w h)
theorem inlX9 : ∀ w ∈ wsX90, w ∈ wsL_law := fun _ h => List.mem_append_left _ (List.mem_append_left _ (List.mem_append_left _ (List.mem_append_left _ (List.mem_append_left _ (List.mem_append_left _ (List.mem_append_left _ (List.mem_append_left _ (List.mem_append_left _ (List.mem_append_left _ (List.mem_append_right _ h))))))))))
theorem inX9 : ∀ w ∈ wsX90, w ∈ lw_tbl := fun w h => wsL_law_in w (inlX9 w h)
theorem inlX10 : ∀ w ∈ wsX100, w ∈ wsL_law := fun _ h => List.mem_append_left _ (List.mem_append_left _ (List.mem_append_left _ (List.mem_append_left _ (List.mem_append_left _ (List.mem_append_left _ (List.mem_append_left _ (List.mem_append_left _ (List.mem_append_left _ (List.mem_append_right _ h)))))))))
theorem inX10 : ∀ w ∈ wsX100, w ∈ lw_tbl := fun w h => wsL_law_in w (inlX10 w h)
theorem inJ9 : ∀ w ∈ wsJ90, w ∈ lw_tbl := by decide +kernel
theorem inJ10 : ∀ w ∈ wsJ100, w ∈ lw_tbl := by decide +kernel
theorem inJ7 : ∀ w ∈ wsJ70, w ∈ lw_tbl := by decide +kernel
set_option maxRecDepth 20000 in
theorem ggX0_init_X7_init : GoodIn wsX0_init wsX7_init := goodIn_r _ [4, 5, 6, 7, 8, 9, 10, 11, 12, 13, 14, 15, 16, 17, 18, 19, 20, 21, 22, 23, 24, 25, 26, 27, 28] (by decide +kernel) (by decide +kernel)
set_option maxRecDepth 20000 in
theorem gX0_init_X7_init : GoodIn wsX0_init (wsX7_init) := ggX0_init_X7_init
abbrev vwCl : List vw_C := [(RX0, TX0, 4), (RX1, TX1, 3), (RX2, TX2, 8), (RX4, TX4, 2), (RX5, TX5, 4), (RX6, TX6, 4), (RX7, TX7, 4), (RX8, TX8, 2), (RX9, TX9, 11), (RX10, TX10, 35)]
end
section
theorem dX0_init_0 : decode cX0_init 0 = .ok (.aload_n 0, 1) := by decide +kernel
theorem dX0_init_1 : decode cX0_init 1 = .ok (.iload_n 1, 1) := by decide +kernel
theorem dX0_init_2 : decode cX0_init 2 = .ok (.invokespecial 3, 3) := by decide +kernel
theorem dX0_init_5 : decode cX0_init 5 = .ok (.return_, 1) := by decide +kernel
theorem dX0_kind_0 : decode cX0_kind 0 = .ok (.iconst 3, 1) := by decide +kernel
theorem dX0_kind_1 : decode cX0_kind 1 = .ok (.ireturn, 1) := by decide +kernel
theorem dX0_sinsAtMost_0 : decode cX0_sinsAtMost 0 = .ok (.iconst 1, 1) := by decide +kernel
theorem dX0_sinsAtMost_1 : decode cX0_sinsAtMost 1 = .ok (.ireturn, 1) := by decide +kernel
theorem dX1_init_0 : decode cX1_init 0 = .ok (.aload_n 0, 1) := by decide +kernel
theorem dX1_init_1 : decode cX1_init 1 = .ok (.invokespecial 1, 3) := by decide +kernel
theorem dX1_init_4 : decode cX1_init 4 = .ok (.aload_n 0, 1) := by decide +kernel
theorem dX1_init_5 : decode cX1_init 5 = .ok (.iload_n 1, 1) := by decide +kernel
theorem dX1_init_6 : decode cX1_init 6 = .ok (.putfield 7, 3) := by decide +kernel
theorem dX1_init_9 : decode cX1_init 9 = .ok (.aload_n 0, 1) := by decide +kernel
theorem dX1_init_10 : decode cX1_init 10 = .ok (.iload_n 2, 1) := by decide +kernel
theorem dX1_init_11 : decode cX1_init 11 = .ok (.putfield 13, 3) := by decide +kernel
theorem dX1_init_14 : decode cX1_init 14 = .ok (.aload_n 0, 1) := by decide +kernel
theorem dX1_init_15 : decode cX1_init 15 = .ok (.iload_n 3, 1) := by decide +kernel
theorem dX1_init_16 : decode cX1_init 16 = .ok (.putfield 16, 3) := by decide +kernel
theorem dX1_init_19 : decode cX1_init 19 = .ok (.return_, 1) := by decide +kernel
theorem dX1_told_0 : decode cX1_told 0 = .ok (.iload_n 1, 1) := by decide +kernel
theorem dX1_told_1 : decode cX1_told 1 = .ok (.ifCond .ne 8, 3) := by decide +kernel
theorem dX1_told_4 : decode cX1_told 4 = .ok (.aload_n 0, 1) := by decide +kernel
theorem dX1_told_5 : decode cX1_told 5 = .ok (.getfield 7, 3) := by decide +kernel
theorem dX1_told_8 : decode cX1_told 8 = .ok (.ireturn, 1) := by decide +kernel
theorem dX1_told_9 : decode cX1_told 9 = .ok (.iload_n 1, 1) := by decide +kernel
theorem dX1_told_10 : decode cX1_told 10 = .ok (.iconst 1, 1) := by decide +kernel
theorem dX1_told_11 : decode cX1_told 11 = .ok (.if_icmp .ne 10, 3) := by decide +kernel
theorem dX1_told_14 : decode cX1_told 14 = .ok (.aload_n 0, 1) := by decide +kernel
theorem dX1_told_15 : decode cX1_told 15 = .ok (.getfield 13, 3) := by decide +kernel
theorem dX1_told_18 : decode cX1_told 18 = .ok (.goto 7, 3) := by decide +kernel
theorem dX1_told_21 : decode cX1_told 21 = .ok (.aload_n 0, 1) := by decide +kernel
theorem dX1_told_22 : decode cX1_told 22 = .ok (.getfield 16, 3) := by decide +kernel
theorem dX1_told_25 : decode cX1_told 25 = .ok (.ireturn, 1) := by decide +kernel
theorem dX1_floodsIn_0 : decode cX1_floodsIn 0 = .ok (.aload_n 0, 1) := by decide +kernel
theorem dX1_floodsIn_1 : decode cX1_floodsIn 1 = .ok (.getfield 16, 3) := by decide +kernel
theorem dX1_floodsIn_4 : decode cX1_floodsIn 4 = .ok (.ifCond .le 16, 3) := by decide +kernel
theorem dX1_floodsIn_7 : decode cX1_floodsIn 7 = .ok (.iload_n 1, 1) := by decide +kernel
theorem dX1_floodsIn_8 : decode cX1_floodsIn 8 = .ok (.aload_n 0, 1) := by decide +kernel
theorem dX1_floodsIn_9 : decode cX1_floodsIn 9 = .ok (.getfield 16, 3) := by decide +kernel
theorem dX1_floodsIn_12 : decode cX1_floodsIn 12 = .ok (.irem, 1) := by decide +kernel
theorem dX1_floodsIn_13 : decode cX1_floodsIn 13 = .ok (.ifCond .ne 7, 3) := by decide +kernel
theorem dX1_floodsIn_16 : decode cX1_floodsIn 16 = .ok (.iconst 1, 1) := by decide +kernel
theorem dX1_floodsIn_17 : decode cX1_floodsIn 17 = .ok (.goto 4, 3) := by decide +kernel
theorem dX1_floodsIn_20 : decode cX1_floodsIn 20 = .ok (.iconst 0, 1) := by decide +kernel
theorem dX1_floodsIn_21 : decode cX1_floodsIn 21 = .ok (.ireturn, 1) := by decide +kernel
theorem dX2_init_0 : decode cX2_init 0 = .ok (.aload_n 0, 1) := by decide +kernel
theorem dX2_init_1 : decode cX2_init 1 = .ok (.invokespecial 3, 3) := by decide +kernel
theorem dX2_init_4 : decode cX2_init 4 = .ok (.aload_n 0, 1) := by decide +kernel
theorem dX2_init_5 : decode cX2_init 5 = .ok (.bipush 7, 2) := by decide +kernel
theorem dX2_init_7 : decode cX2_init 7 = .ok (.newarray .int, 2) := by decide +kernel
theorem dX2_init_9 : decode cX2_init 9 = .ok (.putfield 9, 3) := by decide +kernel
theorem dX2_init_12 : decode cX2_init 12 = .ok (.aload_n 0, 1) := by decide +kernel
theorem dX2_init_13 : decode cX2_init 13 = .ok (.sipush 420, 3) := by decide +kernel
theorem dX2_init_16 : decode cX2_init 16 = .ok (.newarray .int, 2) := by decide +kernel
theorem dX2_init_18 : decode cX2_init 18 = .ok (.putfield 15, 3) := by decide +kernel
theorem dX2_init_21 : decode cX2_init 21 = .ok (.aload_n 0, 1) := by decide +kernel
theorem dX2_init_22 : decode cX2_init 22 = .ok (.iconst 1, 1) := by decide +kernel
theorem dX2_init_23 : decode cX2_init 23 = .ok (.putfield 18, 3) := by decide +kernel
theorem dX2_init_26 : decode cX2_init 26 = .ok (.return_, 1) := by decide +kernel
theorem dX2_become_0 : decode cX2_become 0 = .ok (.aload_n 1, 1) := by decide +kernel
theorem dX2_become_1 : decode cX2_become 1 = .ok (.getfield 9, 3) := by decide +kernel
theorem dX2_become_4 : decode cX2_become 4 = .ok (.iconst 0, 1) := by decide +kernel
theorem dX2_become_5 : decode cX2_become 5 = .ok (.aload_n 0, 1) := by decide +kernel
theorem dX2_become_6 : decode cX2_become 6 = .ok (.getfield 9, 3) := by decide +kernel
theorem dX2_become_9 : decode cX2_become 9 = .ok (.iconst 0, 1) := by decide +kernel
theorem dX2_become_10 : decode cX2_become 10 = .ok (.bipush 7, 2) := by decide +kernel
theorem dX2_become_12 : decode cX2_become 12 = .ok (.invokestatic 22, 3) := by decide +kernel
theorem dX2_become_15 : decode cX2_become 15 = .ok (.aload_n 1, 1) := by decide +kernel
theorem dX2_become_16 : decode cX2_become 16 = .ok (.getfield 15, 3) := by decide +kernel
theorem dX2_become_19 : decode cX2_become 19 = .ok (.iconst 0, 1) := by decide +kernel
theorem dX2_become_20 : decode cX2_become 20 = .ok (.aload_n 0, 1) := by decide +kernel
theorem dX2_become_21 : decode cX2_become 21 = .ok (.getfield 15, 3) := by decide +kernel
theorem dX2_become_24 : decode cX2_become 24 = .ok (.iconst 0, 1) := by decide +kernel
theorem dX2_become_25 : decode cX2_become 25 = .ok (.sipush 420, 3) := by decide +kernel
theorem dX2_become_28 : decode cX2_become 28 = .ok (.invokestatic 22, 3) := by decide +kernel
theorem dX2_become_31 : decode cX2_become 31 = .ok (.aload_n 0, 1) := by decide +kernel
theorem dX2_become_32 : decode cX2_become 32 = .ok (.aload_n 1, 1) := by decide +kernel
theorem dX2_become_33 : decode cX2_become 33 = .ok (.getfield 28, 3) := by decide +kernel
theorem dX2_become_36 : decode cX2_become 36 = .ok (.putfield 28, 3) := by decide +kernel
theorem dX2_become_39 : decode cX2_become 39 = .ok (.aload_n 0, 1) := by decide +kernel
theorem dX2_become_40 : decode cX2_become 40 = .ok (.aload_n 1, 1) := by decide +kernel
theorem dX2_become_41 : decode cX2_become 41 = .ok (.getfield 31, 3) := by decide +kernel
theorem dX2_become_44 : decode cX2_become 44 = .ok (.putfield 31, 3) := by decide +kernel
theorem dX2_become_47 : decode cX2_become 47 = .ok (.aload_n 0, 1) := by decide +kernel
theorem dX2_become_48 : decode cX2_become 48 = .ok (.aload_n 1, 1) := by decide +kernel
theorem dX2_become_49 : decode cX2_become 49 = .ok (.getfield 18, 3) := by decide +kernel
theorem dX2_become_52 : decode cX2_become 52 = .ok (.putfield 18, 3) := by decide +kernel
theorem dX2_become_55 : decode cX2_become 55 = .ok (.aload_n 0, 1) := by decide +kernel
theorem dX2_become_56 : decode cX2_become 56 = .ok (.aload_n 1, 1) := by decide +kernel
theorem dX2_become_57 : decode cX2_become 57 = .ok (.getfield 34, 3) := by decide +kernel
theorem dX2_become_60 : decode cX2_become 60 = .ok (.putfield 34, 3) := by decide +kernel
theorem dX2_become_63 : decode cX2_become 63 = .ok (.aload_n 0, 1) := by decide +kernel
theorem dX2_become_64 : decode cX2_become 64 = .ok (.aload_n 1, 1) := by decide +kernel
theorem dX2_become_65 : decode cX2_become 65 = .ok (.getfield 37, 3) := by decide +kernel
theorem dX2_become_68 : decode cX2_become 68 = .ok (.putfield 37, 3) := by decide +kernel
theorem dX2_become_71 : decode cX2_become 71 = .ok (.aload_n 0, 1) := by decide +kernel
theorem dX2_become_72 : decode cX2_become 72 = .ok (.aload_n 1, 1) := by decide +kernel
theorem dX2_become_73 : decode cX2_become 73 = .ok (.getfield 40, 3) := by decide +kernel
theorem dX2_become_76 : decode cX2_become 76 = .ok (.putfield 40, 3) := by decide +kernel
theorem dX2_become_79 : decode cX2_become 79 = .ok (.return_, 1) := by decide +kernel
theorem dX2_pebbles_0 : decode cX2_pebbles 0 = .ok (.iconst 0, 1) := by decide +kernel
theorem dX2_pebbles_1 : decode cX2_pebbles 1 = .ok (.istore_n 1, 1) := by decide +kernel
theorem dX2_pebbles_2 : decode cX2_pebbles 2 = .ok (.iconst 0, 1) := by decide +kernel
theorem dX2_pebbles_3 : decode cX2_pebbles 3 = .ok (.istore_n 2, 1) := by decide +kernel
theorem dX2_pebbles_4 : decode cX2_pebbles 4 = .ok (.iload_n 2, 1) := by decide +kernel
theorem dX2_pebbles_5 : decode cX2_pebbles 5 = .ok (.bipush 7, 2) := by decide +kernel
theorem dX2_pebbles_7 : decode cX2_pebbles 7 = .ok (.if_icmp .ge 18, 3) := by decide +kernel
theorem dX2_pebbles_10 : decode cX2_pebbles 10 = .ok (.iload_n 1, 1) := by decide +kernel
theorem dX2_pebbles_11 : decode cX2_pebbles 11 = .ok (.aload_n 0, 1) := by decide +kernel
theorem dX2_pebbles_12 : decode cX2_pebbles 12 = .ok (.getfield 9, 3) := by decide +kernel
theorem dX2_pebbles_15 : decode cX2_pebbles 15 = .ok (.iload_n 2, 1) := by decide +kernel
theorem dX2_pebbles_16 : decode cX2_pebbles 16 = .ok (.iaload, 1) := by decide +kernel
theorem dX2_pebbles_17 : decode cX2_pebbles 17 = .ok (.iadd, 1) := by decide +kernel
theorem dX2_pebbles_18 : decode cX2_pebbles 18 = .ok (.istore_n 1, 1) := by decide +kernel
theorem dX2_pebbles_19 : decode cX2_pebbles 19 = .ok (.iinc 2 1, 3) := by decide +kernel
theorem dX2_pebbles_22 : decode cX2_pebbles 22 = .ok (.goto (-18), 3) := by decide +kernel
theorem dX2_pebbles_25 : decode cX2_pebbles 25 = .ok (.iload_n 1, 1) := by decide +kernel
theorem dX2_pebbles_26 : decode cX2_pebbles 26 = .ok (.ireturn, 1) := by decide +kernel
set_option maxRecDepth 20000 in
theorem ggX2_markAt_X9_isCairn : GoodIn wsX2_markAt wsX9_isCairn := goodIn_r _ [5] (by decide +kernel) (by decide +kernel)
set_option maxRecDepth 20000 in
theorem gX2_markAt_X9_isCairn_n43 : GoodIn wsX2_markAt (wsX9_isCairn) := ggX2_markAt_X9_isCairn
theorem dX2_markAt_0 : decode cX2_markAt 0 = .ok (.iload_n 1, 1) := by decide +kernel
theorem dX2_markAt_1 : decode cX2_markAt 1 = .ok (.invokestatic 43, 3) := by decide +kernel
theorem dX2_markAt_4 : decode cX2_markAt 4 = .ok (.ifCond .ne 5, 3) := by decide +kernel
theorem dX2_markAt_7 : decode cX2_markAt 7 = .ok (.iconst (-1), 1) := by decide +kernel
theorem dX2_markAt_8 : decode cX2_markAt 8 = .ok (.ireturn, 1) := by decide +kernel
theorem dX2_markAt_9 : decode cX2_markAt 9 = .ok (.aload_n 0, 1) := by decide +kernel
theorem dX2_markAt_10 : decode cX2_markAt 10 = .ok (.getfield 9, 3) := by decide +kernel
theorem dX2_markAt_13 : decode cX2_markAt 13 = .ok (.iload_n 1, 1) := by decide +kernel
theorem dX2_markAt_14 : decode cX2_markAt 14 = .ok (.iaload, 1) := by decide +kernel
theorem dX2_markAt_15 : decode cX2_markAt 15 = .ok (.iconst 1, 1) := by decide +kernel
theorem dX2_markAt_16 : decode cX2_markAt 16 = .ok (.isub, 1) := by decide +kernel
theorem dX2_markAt_17 : decode cX2_markAt 17 = .ok (.iload_n 2, 1) := by decide +kernel
theorem dX2_markAt_18 : decode cX2_markAt 18 = .ok (.isub, 1) := by decide +kernel
theorem dX2_markAt_19 : decode cX2_markAt 19 = .ok (.istore_n 3, 1) := by decide +kernel
theorem dX2_markAt_20 : decode cX2_markAt 20 = .ok (.iload_n 3, 1) := by decide +kernel
theorem dX2_markAt_21 : decode cX2_markAt 21 = .ok (.ifCond .lt 9, 3) := by decide +kernel
theorem dX2_markAt_24 : decode cX2_markAt 24 = .ok (.iload_n 3, 1) := by decide +kernel
theorem dX2_markAt_25 : decode cX2_markAt 25 = .ok (.bipush 60, 2) := by decide +kernel
theorem dX2_markAt_27 : decode cX2_markAt 27 = .ok (.if_icmp .lt 5, 3) := by decide +kernel
theorem dX2_markAt_30 : decode cX2_markAt 30 = .ok (.iconst (-1), 1) := by decide +kernel
theorem dX2_markAt_31 : decode cX2_markAt 31 = .ok (.ireturn, 1) := by decide +kernel
theorem dX2_markAt_32 : decode cX2_markAt 32 = .ok (.aload_n 0, 1) := by decide +kernel
theorem dX2_markAt_33 : decode cX2_markAt 33 = .ok (.getfield 15, 3) := by decide +kernel
theorem dX2_markAt_36 : decode cX2_markAt 36 = .ok (.iload_n 1, 1) := by decide +kernel
theorem dX2_markAt_37 : decode cX2_markAt 37 = .ok (.bipush 60, 2) := by decide +kernel
theorem dX2_markAt_39 : decode cX2_markAt 39 = .ok (.imul, 1) := by decide +kernel
theorem dX2_markAt_40 : decode cX2_markAt 40 = .ok (.iload_n 3, 1) := by decide +kernel
theorem dX2_markAt_41 : decode cX2_markAt 41 = .ok (.iadd, 1) := by decide +kernel
theorem dX2_markAt_42 : decode cX2_markAt 42 = .ok (.iaload, 1) := by decide +kernel
theorem dX2_markAt_43 : decode cX2_markAt 43 = .ok (.ireturn, 1) := by decide +kernel
theorem dX2_most_0 : decode cX2_most 0 = .ok (.iconst 0, 1) := by decide +kernel
theorem dX2_most_1 : decode cX2_most 1 = .ok (.istore_n 1, 1) := by decide +kernel
theorem dX2_most_2 : decode cX2_most 2 = .ok (.iconst 1, 1) := by decide +kernel
theorem dX2_most_3 : decode cX2_most 3 = .ok (.istore_n 2, 1) := by decide +kernel
theorem dX2_most_4 : decode cX2_most 4 = .ok (.iload_n 2, 1) := by decide +kernel
theorem dX2_most_5 : decode cX2_most 5 = .ok (.bipush 7, 2) := by decide +kernel
theorem dX2_most_7 : decode cX2_most 7 = .ok (.if_icmp .ge 26, 3) := by decide +kernel
theorem dX2_most_10 : decode cX2_most 10 = .ok (.aload_n 0, 1) := by decide +kernel
theorem dX2_most_11 : decode cX2_most 11 = .ok (.getfield 9, 3) := by decide +kernel
theorem dX2_most_14 : decode cX2_most 14 = .ok (.iload_n 2, 1) := by decide +kernel
theorem dX2_most_15 : decode cX2_most 15 = .ok (.iaload, 1) := by decide +kernel
theorem dX2_most_16 : decode cX2_most 16 = .ok (.aload_n 0, 1) := by decide +kernel
theorem dX2_most_17 : decode cX2_most 17 = .ok (.getfield 9, 3) := by decide +kernel
theorem dX2_most_20 : decode cX2_most 20 = .ok (.iload_n 1, 1) := by decide +kernel
theorem dX2_most_21 : decode cX2_most 21 = .ok (.iaload, 1) := by decide +kernel
theorem dX2_most_22 : decode cX2_most 22 = .ok (.if_icmp .le 5, 3) := by decide +kernel
theorem dX2_most_25 : decode cX2_most 25 = .ok (.iload_n 2, 1) := by decide +kernel
theorem dX2_most_26 : decode cX2_most 26 = .ok (.istore_n 1, 1) := by decide +kernel
theorem dX2_most_27 : decode cX2_most 27 = .ok (.iinc 2 1, 3) := by decide +kernel
theorem dX2_most_30 : decode cX2_most 30 = .ok (.goto (-26), 3) := by decide +kernel
theorem dX2_most_33 : decode cX2_most 33 = .ok (.iload_n 1, 1) := by decide +kernel
theorem dX2_most_34 : decode cX2_most 34 = .ok (.ireturn, 1) := by decide +kernel
theorem dX2_fewest_0 : decode cX2_fewest 0 = .ok (.iconst 0, 1) := by decide +kernel
theorem dX2_fewest_1 : decode cX2_fewest 1 = .ok (.istore_n 1, 1) := by decide +kernel
theorem dX2_fewest_2 : decode cX2_fewest 2 = .ok (.iconst 1, 1) := by decide +kernel
theorem dX2_fewest_3 : decode cX2_fewest 3 = .ok (.istore_n 2, 1) := by decide +kernel
theorem dX2_fewest_4 : decode cX2_fewest 4 = .ok (.iload_n 2, 1) := by decide +kernel
theorem dX2_fewest_5 : decode cX2_fewest 5 = .ok (.bipush 7, 2) := by decide +kernel
theorem dX2_fewest_7 : decode cX2_fewest 7 = .ok (.if_icmp .ge 26, 3) := by decide +kernel
theorem dX2_fewest_10 : decode cX2_fewest 10 = .ok (.aload_n 0, 1) := by decide +kernel
theorem dX2_fewest_11 : decode cX2_fewest 11 = .ok (.getfield 9, 3) := by decide +kernel
theorem dX2_fewest_14 : decode cX2_fewest 14 = .ok (.iload_n 2, 1) := by decide +kernel
theorem dX2_fewest_15 : decode cX2_fewest 15 = .ok (.iaload, 1) := by decide +kernel
theorem dX2_fewest_16 : decode cX2_fewest 16 = .ok (.aload_n 0, 1) := by decide +kernel
theorem dX2_fewest_17 : decode cX2_fewest 17 = .ok (.getfield 9, 3) := by decide +kernel
theorem dX2_fewest_20 : decode cX2_fewest 20 = .ok (.iload_n 1, 1) := by decide +kernel
theorem dX2_fewest_21 : decode cX2_fewest 21 = .ok (.iaload, 1) := by decide +kernel
theorem dX2_fewest_22 : decode cX2_fewest 22 = .ok (.if_icmp .ge 5, 3) := by decide +kernel
theorem dX2_fewest_25 : decode cX2_fewest 25 = .ok (.iload_n 2, 1) := by decide +kernel
theorem dX2_fewest_26 : decode cX2_fewest 26 = .ok (.istore_n 1, 1) := by decide +kernel
theorem dX2_fewest_27 : decode cX2_fewest 27 = .ok (.iinc 2 1, 3) := by decide +kernel
theorem dX2_fewest_30 : decode cX2_fewest 30 = .ok (.goto (-26), 3) := by decide +kernel
theorem dX2_fewest_33 : decode cX2_fewest 33 = .ok (.iload_n 1, 1) := by decide +kernel
theorem dX2_fewest_34 : decode cX2_fewest 34 = .ok (.ireturn, 1) := by decide +kernel
set_option maxRecDepth 20000 in
theorem ggX2_aheadOf_X9_isCairn : GoodIn wsX2_aheadOf wsX9_isCairn := goodIn_r _ [4] (by decide +kernel) (by decide +kernel)
set_option maxRecDepth 20000 in
theorem gX2_aheadOf_X9_isCairn_n43 : GoodIn wsX2_aheadOf (wsX9_isCairn) := ggX2_aheadOf_X9_isCairn
theorem dX2_aheadOf_0 : decode cX2_aheadOf 0 = .ok (.iload_n 1, 1) := by decide +kernel
theorem dX2_aheadOf_1 : decode cX2_aheadOf 1 = .ok (.invokestatic 43, 3) := by decide +kernel
theorem dX2_aheadOf_4 : decode cX2_aheadOf 4 = .ok (.ifCond .ne 5, 3) := by decide +kernel
theorem dX2_aheadOf_7 : decode cX2_aheadOf 7 = .ok (.iconst (-1), 1) := by decide +kernel
theorem dX2_aheadOf_8 : decode cX2_aheadOf 8 = .ok (.ireturn, 1) := by decide +kernel
theorem dX2_aheadOf_9 : decode cX2_aheadOf 9 = .ok (.iconst 0, 1) := by decide +kernel
theorem dX2_aheadOf_10 : decode cX2_aheadOf 10 = .ok (.istore_n 2, 1) := by decide +kernel
theorem dX2_aheadOf_11 : decode cX2_aheadOf 11 = .ok (.iconst 0, 1) := by decide +kernel
theorem dX2_aheadOf_12 : decode cX2_aheadOf 12 = .ok (.istore_n 3, 1) := by decide +kernel
theorem dX2_aheadOf_13 : decode cX2_aheadOf 13 = .ok (.iload_n 3, 1) := by decide +kernel
theorem dX2_aheadOf_14 : decode cX2_aheadOf 14 = .ok (.bipush 7, 2) := by decide +kernel
theorem dX2_aheadOf_16 : decode cX2_aheadOf 16 = .ok (.if_icmp .ge 47, 3) := by decide +kernel
theorem dX2_aheadOf_19 : decode cX2_aheadOf 19 = .ok (.aload_n 0, 1) := by decide +kernel
theorem dX2_aheadOf_20 : decode cX2_aheadOf 20 = .ok (.getfield 9, 3) := by decide +kernel
theorem dX2_aheadOf_23 : decode cX2_aheadOf 23 = .ok (.iload_n 3, 1) := by decide +kernel
theorem dX2_aheadOf_24 : decode cX2_aheadOf 24 = .ok (.iaload, 1) := by decide +kernel
theorem dX2_aheadOf_25 : decode cX2_aheadOf 25 = .ok (.aload_n 0, 1) := by decide +kernel
theorem dX2_aheadOf_26 : decode cX2_aheadOf 26 = .ok (.getfield 9, 3) := by decide +kernel
theorem dX2_aheadOf_29 : decode cX2_aheadOf 29 = .ok (.iload_n 1, 1) := by decide +kernel
theorem dX2_aheadOf_30 : decode cX2_aheadOf 30 = .ok (.iaload, 1) := by decide +kernel
theorem dX2_aheadOf_31 : decode cX2_aheadOf 31 = .ok (.if_icmp .gt 23, 3) := by decide +kernel
theorem dX2_aheadOf_34 : decode cX2_aheadOf 34 = .ok (.aload_n 0, 1) := by decide +kernel
theorem dX2_aheadOf_35 : decode cX2_aheadOf 35 = .ok (.getfield 9, 3) := by decide +kernel
theorem dX2_aheadOf_38 : decode cX2_aheadOf 38 = .ok (.iload_n 3, 1) := by decide +kernel
theorem dX2_aheadOf_39 : decode cX2_aheadOf 39 = .ok (.iaload, 1) := by decide +kernel
theorem dX2_aheadOf_40 : decode cX2_aheadOf 40 = .ok (.aload_n 0, 1) := by decide +kernel
theorem dX2_aheadOf_41 : decode cX2_aheadOf 41 = .ok (.getfield 9, 3) := by decide +kernel
theorem dX2_aheadOf_44 : decode cX2_aheadOf 44 = .ok (.iload_n 1, 1) := by decide +kernel
theorem dX2_aheadOf_45 : decode cX2_aheadOf 45 = .ok (.iaload, 1) := by decide +kernel
theorem dX2_aheadOf_46 : decode cX2_aheadOf 46 = .ok (.if_icmp .ne 11, 3) := by decide +kernel
theorem dX2_aheadOf_49 : decode cX2_aheadOf 49 = .ok (.iload_n 3, 1) := by decide +kernel
theorem dX2_aheadOf_50 : decode cX2_aheadOf 50 = .ok (.iload_n 1, 1) := by decide +kernel
theorem dX2_aheadOf_51 : decode cX2_aheadOf 51 = .ok (.if_icmp .ge 6, 3) := by decide +kernel
theorem dX2_aheadOf_54 : decode cX2_aheadOf 54 = .ok (.iinc 2 1, 3) := by decide +kernel
theorem dX2_aheadOf_57 : decode cX2_aheadOf 57 = .ok (.iinc 3 1, 3) := by decide +kernel
theorem dX2_aheadOf_60 : decode cX2_aheadOf 60 = .ok (.goto (-47), 3) := by decide +kernel
theorem dX2_aheadOf_63 : decode cX2_aheadOf 63 = .ok (.iload_n 2, 1) := by decide +kernel
theorem dX2_aheadOf_64 : decode cX2_aheadOf 64 = .ok (.ireturn, 1) := by decide +kernel
set_option maxRecDepth 20000 in
theorem ggX2_hasMostAlone_X9_isCairn : GoodIn wsX2_hasMostAlone wsX9_isCairn := goodIn_r _ [4] (by decide +kernel) (by decide +kernel)
set_option maxRecDepth 20000 in
theorem gX2_hasMostAlone_X9_isCairn_n43 : GoodIn wsX2_hasMostAlone (wsX9_isCairn) := ggX2_hasMostAlone_X9_isCairn
set_option maxRecDepth 20000 in
theorem ggX2_hasMostAlone_X2_surplusOver : GoodIn wsX2_hasMostAlone wsX2_surplusOver := goodIn_r _ [9, 1, 10, 11, 12, 13, 14, 15, 16, 17] (by decide +kernel) (by decide +kernel)
set_option maxRecDepth 20000 in
theorem gX2_hasMostAlone_X2_surplusOver : GoodIn wsX2_hasMostAlone (wsV RX2 47 RX2 yX2_surplusOver wsX2_surplusOver) := goodIn_app (goodIn_of _ (by decide +kernel)) ggX2_hasMostAlone_X2_surplusOver
theorem dX2_hasMostAlone_0 : decode cX2_hasMostAlone 0 = .ok (.iload_n 1, 1) := by decide +kernel
theorem dX2_hasMostAlone_1 : decode cX2_hasMostAlone 1 = .ok (.invokestatic 43, 3) := by decide +kernel
theorem dX2_hasMostAlone_4 : decode cX2_hasMostAlone 4 = .ok (.ifCond .eq 23, 3) := by decide +kernel
theorem dX2_hasMostAlone_7 : decode cX2_hasMostAlone 7 = .ok (.aload_n 0, 1) := by decide +kernel
theorem dX2_hasMostAlone_8 : decode cX2_hasMostAlone 8 = .ok (.aload_n 0, 1) := by decide +kernel
theorem dX2_hasMostAlone_9 : decode cX2_hasMostAlone 9 = .ok (.getfield 9, 3) := by decide +kernel
theorem dX2_hasMostAlone_12 : decode cX2_hasMostAlone 12 = .ok (.iload_n 1, 1) := by decide +kernel
theorem dX2_hasMostAlone_13 : decode cX2_hasMostAlone 13 = .ok (.iaload, 1) := by decide +kernel
theorem dX2_hasMostAlone_14 : decode cX2_hasMostAlone 14 = .ok (.iconst 1, 1) := by decide +kernel
theorem dX2_hasMostAlone_15 : decode cX2_hasMostAlone 15 = .ok (.isub, 1) := by decide +kernel
theorem dX2_hasMostAlone_16 : decode cX2_hasMostAlone 16 = .ok (.iload_n 1, 1) := by decide +kernel
theorem dX2_hasMostAlone_17 : decode cX2_hasMostAlone 17 = .ok (.invokevirtual 47, 3) := by decide +kernel
theorem dX2_hasMostAlone_20 : decode cX2_hasMostAlone 20 = .ok (.ifCond .ne 7, 3) := by decide +kernel
theorem dX2_hasMostAlone_23 : decode cX2_hasMostAlone 23 = .ok (.iconst 1, 1) := by decide +kernel
theorem dX2_hasMostAlone_24 : decode cX2_hasMostAlone 24 = .ok (.goto 4, 3) := by decide +kernel
theorem dX2_hasMostAlone_27 : decode cX2_hasMostAlone 27 = .ok (.iconst 0, 1) := by decide +kernel
theorem dX2_hasMostAlone_28 : decode cX2_hasMostAlone 28 = .ok (.ireturn, 1) := by decide +kernel
theorem dX2_surplusOver_0 : decode cX2_surplusOver 0 = .ok (.iconst 0, 1) := by decide +kernel
theorem dX2_surplusOver_1 : decode cX2_surplusOver 1 = .ok (.istore_n 3, 1) := by decide +kernel
theorem dX2_surplusOver_2 : decode cX2_surplusOver 2 = .ok (.iconst 0, 1) := by decide +kernel
theorem dX2_surplusOver_3 : decode cX2_surplusOver 3 = .ok (.istore 4, 2) := by decide +kernel
theorem dX2_surplusOver_5 : decode cX2_surplusOver 5 = .ok (.iload 4, 2) := by decide +kernel
theorem dX2_surplusOver_7 : decode cX2_surplusOver 7 = .ok (.bipush 7, 2) := by decide +kernel
theorem dX2_surplusOver_9 : decode cX2_surplusOver 9 = .ok (.if_icmp .ge 38, 3) := by decide +kernel
theorem dX2_surplusOver_12 : decode cX2_surplusOver 12 = .ok (.iload 4, 2) := by decide +kernel
theorem dX2_surplusOver_14 : decode cX2_surplusOver 14 = .ok (.iload_n 2, 1) := by decide +kernel
theorem dX2_surplusOver_15 : decode cX2_surplusOver 15 = .ok (.if_icmp .eq 26, 3) := by decide +kernel
theorem dX2_surplusOver_18 : decode cX2_surplusOver 18 = .ok (.aload_n 0, 1) := by decide +kernel
theorem dX2_surplusOver_19 : decode cX2_surplusOver 19 = .ok (.getfield 9, 3) := by decide +kernel
theorem dX2_surplusOver_22 : decode cX2_surplusOver 22 = .ok (.iload 4, 2) := by decide +kernel
theorem dX2_surplusOver_24 : decode cX2_surplusOver 24 = .ok (.iaload, 1) := by decide +kernel
theorem dX2_surplusOver_25 : decode cX2_surplusOver 25 = .ok (.iload_n 1, 1) := by decide +kernel
theorem dX2_surplusOver_26 : decode cX2_surplusOver 26 = .ok (.if_icmp .le 15, 3) := by decide +kernel
theorem dX2_surplusOver_29 : decode cX2_surplusOver 29 = .ok (.iload_n 3, 1) := by decide +kernel
theorem dX2_surplusOver_30 : decode cX2_surplusOver 30 = .ok (.aload_n 0, 1) := by decide +kernel
theorem dX2_surplusOver_31 : decode cX2_surplusOver 31 = .ok (.getfield 9, 3) := by decide +kernel
theorem dX2_surplusOver_34 : decode cX2_surplusOver 34 = .ok (.iload 4, 2) := by decide +kernel
theorem dX2_surplusOver_36 : decode cX2_surplusOver 36 = .ok (.iaload, 1) := by decide +kernel
theorem dX2_surplusOver_37 : decode cX2_surplusOver 37 = .ok (.iload_n 1, 1) := by decide +kernel
theorem dX2_surplusOver_38 : decode cX2_surplusOver 38 = .ok (.isub, 1) := by decide +kernel
theorem dX2_surplusOver_39 : decode cX2_surplusOver 39 = .ok (.iadd, 1) := by decide +kernel
theorem dX2_surplusOver_40 : decode cX2_surplusOver 40 = .ok (.istore_n 3, 1) := by decide +kernel
theorem dX2_surplusOver_41 : decode cX2_surplusOver 41 = .ok (.iinc 4 1, 3) := by decide +kernel
theorem dX2_surplusOver_44 : decode cX2_surplusOver 44 = .ok (.goto (-39), 3) := by decide +kernel
theorem dX2_surplusOver_47 : decode cX2_surplusOver 47 = .ok (.iload_n 3, 1) := by decide +kernel
theorem dX2_surplusOver_48 : decode cX2_surplusOver 48 = .ok (.ireturn, 1) := by decide +kernel
set_option maxRecDepth 20000 in
theorem ggX2_layNew_X2_put : GoodIn wsX2_layNew wsX2_put := goodIn_r _ [7, 8, 9, 10, 11, 12, 13, 14, 15, 16, 17, 18, 19, 20, 21] (by decide +kernel) (by decide +kernel)
set_option maxRecDepth 20000 in
theorem gX2_layNew_X2_put : GoodIn wsX2_layNew (wsV RX2 51 RX2 yX2_put wsX2_put) := goodIn_app (goodIn_of _ (by decide +kernel)) ggX2_layNew_X2_put
theorem dX2_layNew_0 : decode cX2_layNew 0 = .ok (.iconst 0, 1) := by decide +kernel
theorem dX2_layNew_1 : decode cX2_layNew 1 = .ok (.istore_n 3, 1) := by decide +kernel
theorem dX2_layNew_2 : decode cX2_layNew 2 = .ok (.iload_n 3, 1) := by decide +kernel
theorem dX2_layNew_3 : decode cX2_layNew 3 = .ok (.iload_n 2, 1) := by decide +kernel
theorem dX2_layNew_4 : decode cX2_layNew 4 = .ok (.if_icmp .ge 18, 3) := by decide +kernel
theorem dX2_layNew_7 : decode cX2_layNew 7 = .ok (.aload_n 0, 1) := by decide +kernel
theorem dX2_layNew_8 : decode cX2_layNew 8 = .ok (.iload_n 1, 1) := by decide +kernel
theorem dX2_layNew_9 : decode cX2_layNew 9 = .ok (.aload_n 0, 1) := by decide +kernel
theorem dX2_layNew_10 : decode cX2_layNew 10 = .ok (.getfield 28, 3) := by decide +kernel
theorem dX2_layNew_13 : decode cX2_layNew 13 = .ok (.invokevirtual 51, 3) := by decide +kernel
theorem dX2_layNew_16 : decode cX2_layNew 16 = .ok (.iinc 3 1, 3) := by decide +kernel
theorem dX2_layNew_19 : decode cX2_layNew 19 = .ok (.goto (-17), 3) := by decide +kernel
theorem dX2_layNew_22 : decode cX2_layNew 22 = .ok (.aload_n 0, 1) := by decide +kernel
theorem dX2_layNew_23 : decode cX2_layNew 23 = .ok (.dup, 1) := by decide +kernel
theorem dX2_layNew_24 : decode cX2_layNew 24 = .ok (.getfield 34, 3) := by decide +kernel
theorem dX2_layNew_27 : decode cX2_layNew 27 = .ok (.iload_n 2, 1) := by decide +kernel
theorem dX2_layNew_28 : decode cX2_layNew 28 = .ok (.iadd, 1) := by decide +kernel
theorem dX2_layNew_29 : decode cX2_layNew 29 = .ok (.putfield 34, 3) := by decide +kernel
theorem dX2_layNew_32 : decode cX2_layNew 32 = .ok (.return_, 1) := by decide +kernel
set_option maxRecDepth 20000 in
theorem ggX2_takeOff_X9_isCairn : GoodIn wsX2_takeOff wsX9_isCairn := goodIn_r _ [9] (by decide +kernel) (by decide +kernel)
set_option maxRecDepth 20000 in
theorem gX2_takeOff_X9_isCairn_n43 : GoodIn wsX2_takeOff (wsX9_isCairn) := ggX2_takeOff_X9_isCairn
theorem dX2_takeOff_0 : decode cX2_takeOff 0 = .ok (.iload_n 1, 1) := by decide +kernel
theorem dX2_takeOff_1 : decode cX2_takeOff 1 = .ok (.invokestatic 43, 3) := by decide +kernel
theorem dX2_takeOff_4 : decode cX2_takeOff 4 = .ok (.ifCond .ne 4, 3) := by decide +kernel
theorem dX2_takeOff_7 : decode cX2_takeOff 7 = .ok (.return_, 1) := by decide +kernel
theorem dX2_takeOff_8 : decode cX2_takeOff 8 = .ok (.iload_n 2, 1) := by decide +kernel
theorem dX2_takeOff_9 : decode cX2_takeOff 9 = .ok (.aload_n 0, 1) := by decide +kernel
theorem dX2_takeOff_10 : decode cX2_takeOff 10 = .ok (.getfield 9, 3) := by decide +kernel
theorem dX2_takeOff_13 : decode cX2_takeOff 13 = .ok (.iload_n 1, 1) := by decide +kernel
theorem dX2_takeOff_14 : decode cX2_takeOff 14 = .ok (.iaload, 1) := by decide +kernel
theorem dX2_takeOff_15 : decode cX2_takeOff 15 = .ok (.invokestatic 55, 3) := by decide +kernel
theorem dX2_takeOff_18 : decode cX2_takeOff 18 = .ok (.istore_n 3, 1) := by decide +kernel
theorem dX2_takeOff_19 : decode cX2_takeOff 19 = .ok (.aload_n 0, 1) := by decide +kernel
theorem dX2_takeOff_20 : decode cX2_takeOff 20 = .ok (.getfield 9, 3) := by decide +kernel
theorem dX2_takeOff_23 : decode cX2_takeOff 23 = .ok (.iload_n 1, 1) := by decide +kernel
theorem dX2_takeOff_24 : decode cX2_takeOff 24 = .ok (.dup2, 1) := by decide +kernel
theorem dX2_takeOff_25 : decode cX2_takeOff 25 = .ok (.iaload, 1) := by decide +kernel
theorem dX2_takeOff_26 : decode cX2_takeOff 26 = .ok (.iload_n 3, 1) := by decide +kernel
theorem dX2_takeOff_27 : decode cX2_takeOff 27 = .ok (.isub, 1) := by decide +kernel
theorem dX2_takeOff_28 : decode cX2_takeOff 28 = .ok (.iastore, 1) := by decide +kernel
theorem dX2_takeOff_29 : decode cX2_takeOff 29 = .ok (.aload_n 0, 1) := by decide +kernel
theorem dX2_takeOff_30 : decode cX2_takeOff 30 = .ok (.dup, 1) := by decide +kernel
theorem dX2_takeOff_31 : decode cX2_takeOff 31 = .ok (.getfield 37, 3) := by decide +kernel
theorem dX2_takeOff_34 : decode cX2_takeOff 34 = .ok (.iload_n 3, 1) := by decide +kernel
theorem dX2_takeOff_35 : decode cX2_takeOff 35 = .ok (.iadd, 1) := by decide +kernel
theorem dX2_takeOff_36 : decode cX2_takeOff 36 = .ok (.putfield 37, 3) := by decide +kernel
theorem dX2_takeOff_39 : decode cX2_takeOff 39 = .ok (.return_, 1) := by decide +kernel
set_option maxRecDepth 20000 in
theorem ggX2_goOneWeek_X2_walk : GoodIn wsX2_goOneWeek wsX2_walk := goodIn_r _ [7, 8, 9, 10, 11, 12, 13, 14, 15, 6, 16, 17, 18, 19, 20, 21, 22, 23, 24, 25, 26, 27, 28, 29, 30, 31, 32, 33, 34, 35, 36, 37, 38, 39, 40, 41, 42, 43, 44, 45, 46, 47, 48, 49, 50, 51, 52, 53, 1, 54, 55, 56, 57, 58, 59, 60, 61, 62, 63, 64, 65, 66, 67, 68, 69, 70, 71, 72, 73, 74, 75, 76, 77, 78, 79, 80, 81, 82, 83, 84, 85, 86, 87, 88, 89, 90, 91, 92, 93, 94, 95, 96, 97, 98, 99, 100, 101, 102, 103, 104, 105, 106, 107, 108, 127, 128, 129, 130, 131, 132, 133, 134, 135, 136, 137, 138, 139, 140, 141, 142, 143, 144, 145, 119, 120, 121, 122, 123, 124, 125, 126] (by decide +kernel) (by decide +kernel)
set_option maxRecDepth 20000 in
theorem gX2_goOneWeek_X2_walk : GoodIn wsX2_goOneWeek (wsV RX2 65 RX2 yX2_walk wsX2_walk) := goodIn_app (goodIn_of _ (by decide +kernel)) ggX2_goOneWeek_X2_walk
set_option maxRecDepth 20000 in
theorem ggX2_goOneWeek_X1_floodsIn : GoodIn wsX2_goOneWeek wsX1_floodsIn := goodIn_r _ [113, 114, 143, 144, 145] (by decide +kernel) (by decide +kernel)
set_option maxRecDepth 20000 in
theorem gX2_goOneWeek_X1_floodsIn : GoodIn wsX2_goOneWeek (wsV RX2 69 RX1 yX1_floodsIn wsX1_floodsIn) := goodIn_app (goodIn_of _ (by decide +kernel)) ggX2_goOneWeek_X1_floodsIn
set_option maxRecDepth 20000 in
theorem ggX2_goOneWeek_X2_flood : GoodIn wsX2_goOneWeek wsX2_flood := goodIn_r _ [118, 29, 30, 31, 32, 6, 33, 61, 62, 63, 96, 97, 98, 99, 100, 101, 102, 103, 104, 119, 120, 121, 122, 123, 124, 125, 126] (by decide +kernel) (by decide +kernel)
set_option maxRecDepth 20000 in
theorem gX2_goOneWeek_X2_flood : GoodIn wsX2_goOneWeek (wsV RX2 74 RX2 yX2_flood wsX2_flood) := goodIn_app (goodIn_of _ (by decide +kernel)) ggX2_goOneWeek_X2_flood
theorem dX2_goOneWeek_0 : decode cX2_goOneWeek 0 = .ok (.aload_n 0, 1) := by decide +kernel
theorem dX2_goOneWeek_1 : decode cX2_goOneWeek 1 = .ok (.dup, 1) := by decide +kernel
theorem dX2_goOneWeek_2 : decode cX2_goOneWeek 2 = .ok (.getfield 28, 3) := by decide +kernel
theorem dX2_goOneWeek_5 : decode cX2_goOneWeek 5 = .ok (.iconst 1, 1) := by decide +kernel
theorem dX2_goOneWeek_6 : decode cX2_goOneWeek 6 = .ok (.iadd, 1) := by decide +kernel
theorem dX2_goOneWeek_7 : decode cX2_goOneWeek 7 = .ok (.putfield 28, 3) := by decide +kernel
theorem dX2_goOneWeek_10 : decode cX2_goOneWeek 10 = .ok (.iconst 0, 1) := by decide +kernel
theorem dX2_goOneWeek_11 : decode cX2_goOneWeek 11 = .ok (.istore_n 3, 1) := by decide +kernel
theorem dX2_goOneWeek_12 : decode cX2_goOneWeek 12 = .ok (.iload_n 3, 1) := by decide +kernel
theorem dX2_goOneWeek_13 : decode cX2_goOneWeek 13 = .ok (.aload_n 2, 1) := by decide +kernel
theorem dX2_goOneWeek_14 : decode cX2_goOneWeek 14 = .ok (.arraylength, 1) := by decide +kernel
theorem dX2_goOneWeek_15 : decode cX2_goOneWeek 15 = .ok (.if_icmp .ge 49, 3) := by decide +kernel
theorem dX2_goOneWeek_18 : decode cX2_goOneWeek 18 = .ok (.aload_n 2, 1) := by decide +kernel
theorem dX2_goOneWeek_19 : decode cX2_goOneWeek 19 = .ok (.iload_n 3, 1) := by decide +kernel
theorem dX2_goOneWeek_20 : decode cX2_goOneWeek 20 = .ok (.aaload, 1) := by decide +kernel
theorem dX2_goOneWeek_21 : decode cX2_goOneWeek 21 = .ok (.astore 4, 2) := by decide +kernel
theorem dX2_goOneWeek_23 : decode cX2_goOneWeek 23 = .ok (.aload 4, 2) := by decide +kernel
theorem dX2_goOneWeek_25 : decode cX2_goOneWeek 25 = .ok (.ifnonnull 6, 3) := by decide +kernel
theorem dX2_goOneWeek_28 : decode cX2_goOneWeek 28 = .ok (.goto 36, 3) := by decide +kernel
theorem dX2_goOneWeek_31 : decode cX2_goOneWeek 31 = .ok (.iconst 0, 1) := by decide +kernel
theorem dX2_goOneWeek_32 : decode cX2_goOneWeek 32 = .ok (.istore 5, 2) := by decide +kernel
theorem dX2_goOneWeek_34 : decode cX2_goOneWeek 34 = .ok (.iload 5, 2) := by decide +kernel
theorem dX2_goOneWeek_36 : decode cX2_goOneWeek 36 = .ok (.aload 4, 2) := by decide +kernel
theorem dX2_goOneWeek_38 : decode cX2_goOneWeek 38 = .ok (.getfield 60, 3) := by decide +kernel
theorem dX2_goOneWeek_41 : decode cX2_goOneWeek 41 = .ok (.if_icmp .ge 17, 3) := by decide +kernel
theorem dX2_goOneWeek_44 : decode cX2_goOneWeek 44 = .ok (.aload_n 0, 1) := by decide +kernel
theorem dX2_goOneWeek_45 : decode cX2_goOneWeek 45 = .ok (.aload_n 1, 1) := by decide +kernel
theorem dX2_goOneWeek_46 : decode cX2_goOneWeek 46 = .ok (.aload 4, 2) := by decide +kernel
theorem dX2_goOneWeek_48 : decode cX2_goOneWeek 48 = .ok (.iload_n 3, 1) := by decide +kernel
theorem dX2_goOneWeek_49 : decode cX2_goOneWeek 49 = .ok (.invokevirtual 65, 3) := by decide +kernel
theorem dX2_goOneWeek_52 : decode cX2_goOneWeek 52 = .ok (.iinc 5 1, 3) := by decide +kernel
theorem dX2_goOneWeek_55 : decode cX2_goOneWeek 55 = .ok (.goto (-21), 3) := by decide +kernel
theorem dX2_goOneWeek_58 : decode cX2_goOneWeek 58 = .ok (.iinc 3 1, 3) := by decide +kernel
theorem dX2_goOneWeek_61 : decode cX2_goOneWeek 61 = .ok (.goto (-49), 3) := by decide +kernel
theorem dX2_goOneWeek_64 : decode cX2_goOneWeek 64 = .ok (.aload_n 1, 1) := by decide +kernel
theorem dX2_goOneWeek_65 : decode cX2_goOneWeek 65 = .ok (.aload_n 0, 1) := by decide +kernel
theorem dX2_goOneWeek_66 : decode cX2_goOneWeek 66 = .ok (.getfield 28, 3) := by decide +kernel
theorem dX2_goOneWeek_69 : decode cX2_goOneWeek 69 = .ok (.invokevirtual 69, 3) := by decide +kernel
theorem dX2_goOneWeek_72 : decode cX2_goOneWeek 72 = .ok (.ifCond .eq 7, 3) := by decide +kernel
theorem dX2_goOneWeek_75 : decode cX2_goOneWeek 75 = .ok (.aload_n 0, 1) := by decide +kernel
theorem dX2_goOneWeek_76 : decode cX2_goOneWeek 76 = .ok (.invokevirtual 74, 3) := by decide +kernel
theorem dX2_goOneWeek_79 : decode cX2_goOneWeek 79 = .ok (.return_, 1) := by decide +kernel
set_option maxRecDepth 20000 in
theorem ggX2_walk_X2_draw : GoodIn wsX2_walk wsX2_draw := goodIn_r _ [10, 11, 12, 13, 14, 123, 124, 125, 126, 127, 128, 129, 130] (by decide +kernel) (by decide +kernel)
set_option maxRecDepth 20000 in
theorem gX2_walk_X2_draw : GoodIn wsX2_walk (wsV RX2 77 RX2 yX2_draw wsX2_draw) := goodIn_app (goodIn_of _ (by decide +kernel)) ggX2_walk_X2_draw
set_option maxRecDepth 20000 in
theorem ggX2_walk_X2_cairnBy : GoodIn wsX2_walk wsX2_cairnBy := goodIn_r _ [18, 3, 19, 20, 21, 9, 22, 23, 24, 25, 26, 27, 123, 124, 125, 126, 127, 128, 129, 130] (by decide +kernel) (by decide +kernel)
set_option maxRecDepth 20000 in
theorem gX2_walk_X2_cairnBy : GoodIn wsX2_walk (wsV RX2 87 RX2 yX2_cairnBy wsX2_cairnBy) := goodIn_app (goodIn_of _ (by decide +kernel)) ggX2_walk_X2_cairnBy
set_option maxRecDepth 20000 in
theorem ggX2_walk_X5_gift : GoodIn wsX2_walk wsX5_gift := goodIn_r _ [33] (by decide +kernel) (by decide +kernel)
set_option maxRecDepth 20000 in
theorem gX2_walk_X5_gift_u90X0 : GoodIn wsX2_walk (va_wsU RX2 90 RX0 "KneelingStones$Parish" ⟨"KneelingStones$Parish", "gift", "()I"⟩ yX5_gift wsX5_gift) := goodIn_app (goodIn_of _ (by decide +kernel)) ggX2_walk_X5_gift
set_option maxRecDepth 20000 in
theorem gX2_walk_X5_gift : GoodIn wsX2_walk (wsV RX2 90 RX5 yX5_gift wsX5_gift) := goodIn_app (goodIn_of _ (by decide +kernel)) ggX2_walk_X5_gift
set_option maxRecDepth 20000 in
theorem ggX2_walk_X6_gift : GoodIn wsX2_walk wsX6_gift := goodIn_r _ [40, 41, 42, 104, 105, 106, 107, 108, 109, 110, 111, 112, 113, 114, 115, 116, 117, 118, 119] (by decide +kernel) (by decide +kernel)
set_option maxRecDepth 20000 in
theorem gX2_walk_X6_gift_u90X6 : GoodIn wsX2_walk (va_wsO RX2 90 RX6 "KneelingStones$Parish" ⟨"KneelingStones$Parish", "gift", "()I"⟩ yX6_gift wsX6_gift) := goodIn_app (goodIn_of _ (by decide +kernel)) ggX2_walk_X6_gift
set_option maxRecDepth 20000 in
theorem gX2_walk_X5_gift_u90X7 : GoodIn wsX2_walk (va_wsU RX2 90 RX7 "KneelingStones$Parish" ⟨"KneelingStones$Parish", "gift", "()I"⟩ yX5_gift wsX5_gift) := goodIn_app (goodIn_of _ (by decide +kernel)) ggX2_walk_X5_gift
set_option maxRecDepth 20000 in
theorem ggX2_walk_X2_layNew : GoodIn wsX2_walk wsX2_layNew := goodIn_r _ [47, 48, 49, 50, 51, 52, 9, 53, 23, 54, 55, 56, 57, 58, 123, 124, 125, 126, 127, 128, 129, 130] (by decide +kernel) (by decide +kernel)
set_option maxRecDepth 20000 in
theorem gX2_walk_X2_layNew : GoodIn wsX2_walk (wsV RX2 93 RX2 yX2_layNew wsX2_layNew) := goodIn_app (goodIn_of _ (by decide +kernel)) ggX2_walk_X2_layNew
set_option maxRecDepth 20000 in
theorem ggX2_walk_X0_sinsAtMost : GoodIn wsX2_walk wsX0_sinsAtMost := goodIn_r _ [65] (by decide +kernel) (by decide +kernel)
set_option maxRecDepth 20000 in
theorem gX2_walk_X0_sinsAtMost_u99X0 : GoodIn wsX2_walk (va_wsO RX2 99 RX0 "KneelingStones$Parish" ⟨"KneelingStones$Parish", "sinsAtMost", "()Z"⟩ yX0_sinsAtMost wsX0_sinsAtMost) := goodIn_app (goodIn_of _ (by decide +kernel)) ggX2_walk_X0_sinsAtMost
set_option maxRecDepth 20000 in
theorem ggX2_walk_X5_sinsAtMost : GoodIn wsX2_walk wsX5_sinsAtMost := goodIn_r _ [66] (by decide +kernel) (by decide +kernel)
set_option maxRecDepth 20000 in
theorem gX2_walk_X5_sinsAtMost : GoodIn wsX2_walk (wsV RX2 99 RX5 yX5_sinsAtMost wsX5_sinsAtMost) := goodIn_app (goodIn_of _ (by decide +kernel)) ggX2_walk_X5_sinsAtMost
set_option maxRecDepth 20000 in
theorem gX2_walk_X5_sinsAtMost_u99X6 : GoodIn wsX2_walk (va_wsU RX2 99 RX6 "KneelingStones$Parish" ⟨"KneelingStones$Parish", "sinsAtMost", "()Z"⟩ yX5_sinsAtMost wsX5_sinsAtMost) := goodIn_app (goodIn_of _ (by decide +kernel)) ggX2_walk_X5_sinsAtMost
set_option maxRecDepth 20000 in
theorem gX2_walk_X5_sinsAtMost_u99X7 : GoodIn wsX2_walk (va_wsU RX2 99 RX7 "KneelingStones$Parish" ⟨"KneelingStones$Parish", "sinsAtMost", "()Z"⟩ yX5_sinsAtMost wsX5_sinsAtMost) := goodIn_app (goodIn_of _ (by decide +kernel)) ggX2_walk_X5_sinsAtMost
set_option maxRecDepth 20000 in
theorem ggX2_walk_X2_most : GoodIn wsX2_walk wsX2_most := goodIn_r _ [22, 23, 123, 124, 125, 126, 127, 128, 129, 130] (by decide +kernel) (by decide +kernel)
set_option maxRecDepth 20000 in
theorem gX2_walk_X2_most : GoodIn wsX2_walk (wsV RX2 103 RX2 yX2_most wsX2_most) := goodIn_app (goodIn_of _ (by decide +kernel)) ggX2_walk_X2_most
set_option maxRecDepth 20000 in
theorem ggX2_walk_X7_hidesOn : GoodIn wsX2_walk wsX7_hidesOn := goodIn_r _ [78, 79, 80, 104, 105, 106, 107, 108, 109, 110, 111, 112, 113, 114, 115, 116, 117, 118, 119] (by decide +kernel) (by decide +kernel)
set_option maxRecDepth 20000 in
theorem gX2_walk_X7_hidesOn_u109X0 : GoodIn wsX2_walk (va_wsO RX2 109 RX0 "KneelingStones$Parish" ⟨"KneelingStones$Parish", "hidesOn", "()I"⟩ yX7_hidesOn wsX7_hidesOn) := goodIn_app (goodIn_of _ (by decide +kernel)) ggX2_walk_X7_hidesOn
set_option maxRecDepth 20000 in
theorem ggX2_walk_X5_hidesOn : GoodIn wsX2_walk wsX5_hidesOn := goodIn_r _ [81] (by decide +kernel) (by decide +kernel)
set_option maxRecDepth 20000 in
theorem gX2_walk_X5_hidesOn : GoodIn wsX2_walk (wsV RX2 109 RX5 yX5_hidesOn wsX5_hidesOn) := goodIn_app (goodIn_of _ (by decide +kernel)) ggX2_walk_X5_hidesOn
set_option maxRecDepth 20000 in
theorem gX2_walk_X5_hidesOn_u109X6 : GoodIn wsX2_walk (va_wsU RX2 109 RX6 "KneelingStones$Parish" ⟨"KneelingStones$Parish", "hidesOn", "()I"⟩ yX5_hidesOn wsX5_hidesOn) := goodIn_app (goodIn_of _ (by decide +kernel)) ggX2_walk_X5_hidesOn
set_option maxRecDepth 20000 in
theorem gX2_walk_X7_hidesOn_u109X7 : GoodIn wsX2_walk (va_wsO RX2 109 RX7 "KneelingStones$Parish" ⟨"KneelingStones$Parish", "hidesOn", "()I"⟩ yX7_hidesOn wsX7_hidesOn) := goodIn_app (goodIn_of _ (by decide +kernel)) ggX2_walk_X7_hidesOn
set_option maxRecDepth 20000 in
theorem ggX2_walk_X2_steal : GoodIn wsX2_walk wsX2_steal := goodIn_r _ [90, 23, 91, 92, 93, 9, 94, 95, 96, 97, 98, 99, 56, 57, 58, 100, 101, 102, 103, 55, 50, 51, 52, 53, 54, 123, 124, 125, 126, 127, 128, 129, 130] (by decide +kernel) (by decide +kernel)
set_option maxRecDepth 20000 in
theorem gX2_walk_X2_steal : GoodIn wsX2_walk (wsV RX2 112 RX2 yX2_steal wsX2_steal) := goodIn_app (goodIn_of _ (by decide +kernel)) ggX2_walk_X2_steal
theorem dX2_walk_0 : decode cX2_walk 0 = .ok (.aload_n 0, 1) := by decide +kernel
theorem dX2_walk_1 : decode cX2_walk 1 = .ok (.invokevirtual 77, 3) := by decide +kernel
theorem dX2_walk_4 : decode cX2_walk 4 = .ok (.aload_n 2, 1) := by decide +kernel
theorem dX2_walk_5 : decode cX2_walk 5 = .ok (.getfield 81, 3) := by decide +kernel
theorem dX2_walk_8 : decode cX2_walk 8 = .ok (.if_icmp .ge 33, 3) := by decide +kernel
theorem dX2_walk_11 : decode cX2_walk 11 = .ok (.aload_n 0, 1) := by decide +kernel
theorem dX2_walk_12 : decode cX2_walk 12 = .ok (.aload_n 1, 1) := by decide +kernel
theorem dX2_walk_13 : decode cX2_walk 13 = .ok (.getfield 84, 3) := by decide +kernel
theorem dX2_walk_16 : decode cX2_walk 16 = .ok (.iload_n 3, 1) := by decide +kernel
theorem dX2_walk_17 : decode cX2_walk 17 = .ok (.invokevirtual 87, 3) := by decide +kernel
theorem dX2_walk_20 : decode cX2_walk 20 = .ok (.istore 4, 2) := by decide +kernel
theorem dX2_walk_22 : decode cX2_walk 22 = .ok (.aload_n 0, 1) := by decide +kernel
theorem dX2_walk_23 : decode cX2_walk 23 = .ok (.iload 4, 2) := by decide +kernel
theorem dX2_walk_25 : decode cX2_walk 25 = .ok (.aload_n 2, 1) := by decide +kernel
theorem dX2_walk_26 : decode cX2_walk 26 = .ok (.invokevirtual 90, 3) := by decide +kernel
theorem dX2_walk_29 : decode cX2_walk 29 = .ok (.invokevirtual 93, 3) := by decide +kernel
theorem dX2_walk_32 : decode cX2_walk 32 = .ok (.aload_n 0, 1) := by decide +kernel
theorem dX2_walk_33 : decode cX2_walk 33 = .ok (.iload 4, 2) := by decide +kernel
theorem dX2_walk_35 : decode cX2_walk 35 = .ok (.putfield 31, 3) := by decide +kernel
theorem dX2_walk_38 : decode cX2_walk 38 = .ok (.goto 55, 3) := by decide +kernel
theorem dX2_walk_41 : decode cX2_walk 41 = .ok (.aload_n 0, 1) := by decide +kernel
theorem dX2_walk_42 : decode cX2_walk 42 = .ok (.invokevirtual 77, 3) := by decide +kernel
theorem dX2_walk_45 : decode cX2_walk 45 = .ok (.aload_n 2, 1) := by decide +kernel
theorem dX2_walk_46 : decode cX2_walk 46 = .ok (.getfield 96, 3) := by decide +kernel
theorem dX2_walk_49 : decode cX2_walk 49 = .ok (.if_icmp .ge 44, 3) := by decide +kernel
theorem dX2_walk_52 : decode cX2_walk 52 = .ok (.aload_n 2, 1) := by decide +kernel
theorem dX2_walk_53 : decode cX2_walk 53 = .ok (.invokevirtual 99, 3) := by decide +kernel
theorem dX2_walk_56 : decode cX2_walk 56 = .ok (.ifCond .eq 10, 3) := by decide +kernel
theorem dX2_walk_59 : decode cX2_walk 59 = .ok (.aload_n 0, 1) := by decide +kernel
theorem dX2_walk_60 : decode cX2_walk 60 = .ok (.invokevirtual 103, 3) := by decide +kernel
theorem dX2_walk_63 : decode cX2_walk 63 = .ok (.goto 12, 3) := by decide +kernel
theorem dX2_walk_66 : decode cX2_walk 66 = .ok (.aload_n 0, 1) := by decide +kernel
theorem dX2_walk_67 : decode cX2_walk 67 = .ok (.aload_n 1, 1) := by decide +kernel
theorem dX2_walk_68 : decode cX2_walk 68 = .ok (.getfield 106, 3) := by decide +kernel
theorem dX2_walk_71 : decode cX2_walk 71 = .ok (.iload_n 3, 1) := by decide +kernel
theorem dX2_walk_72 : decode cX2_walk 72 = .ok (.invokevirtual 87, 3) := by decide +kernel
theorem dX2_walk_75 : decode cX2_walk 75 = .ok (.istore 4, 2) := by decide +kernel
theorem dX2_walk_77 : decode cX2_walk 77 = .ok (.aload_n 0, 1) := by decide +kernel
theorem dX2_walk_78 : decode cX2_walk 78 = .ok (.iload 4, 2) := by decide +kernel
theorem dX2_walk_80 : decode cX2_walk 80 = .ok (.aload_n 2, 1) := by decide +kernel
theorem dX2_walk_81 : decode cX2_walk 81 = .ok (.invokevirtual 109, 3) := by decide +kernel
theorem dX2_walk_84 : decode cX2_walk 84 = .ok (.invokevirtual 112, 3) := by decide +kernel
theorem dX2_walk_87 : decode cX2_walk 87 = .ok (.aload_n 0, 1) := by decide +kernel
theorem dX2_walk_88 : decode cX2_walk 88 = .ok (.iload 4, 2) := by decide +kernel
theorem dX2_walk_90 : decode cX2_walk 90 = .ok (.putfield 31, 3) := by decide +kernel
theorem dX2_walk_93 : decode cX2_walk 93 = .ok (.return_, 1) := by decide +kernel
set_option maxRecDepth 20000 in
theorem ggX2_steal_X2_takeOff : GoodIn wsX2_steal wsX2_takeOff := goodIn_r _ [6, 1, 7, 8, 9, 10, 11, 12, 13, 14, 25, 26, 27, 28, 29, 30, 31, 32] (by decide +kernel) (by decide +kernel)
set_option maxRecDepth 20000 in
theorem gX2_steal_X2_takeOff : GoodIn wsX2_steal (wsV RX2 115 RX2 yX2_takeOff wsX2_takeOff) := goodIn_app (goodIn_of _ (by decide +kernel)) ggX2_steal_X2_takeOff
set_option maxRecDepth 20000 in
theorem ggX2_steal_X2_markAt : GoodIn wsX2_steal wsX2_markAt := goodIn_r _ [18, 1, 19, 12, 13, 14, 25, 26, 27, 28, 29, 30, 31, 32] (by decide +kernel) (by decide +kernel)
set_option maxRecDepth 20000 in
theorem gX2_steal_X2_markAt : GoodIn wsX2_steal (wsV RX2 118 RX2 yX2_markAt wsX2_markAt) := goodIn_app (goodIn_of _ (by decide +kernel)) ggX2_steal_X2_markAt
set_option maxRecDepth 20000 in
theorem ggX2_steal_X9_isCairn : GoodIn wsX2_steal wsX9_isCairn := goodIn_r _ [14] (by decide +kernel) (by decide +kernel)
set_option maxRecDepth 20000 in
theorem gX2_steal_X9_isCairn_n43 : GoodIn wsX2_steal (wsX9_isCairn) := ggX2_steal_X9_isCairn
set_option maxRecDepth 20000 in
theorem ggX2_steal_X2_put : GoodIn wsX2_steal wsX2_put := goodIn_r _ [23, 1, 24, 19, 12, 13, 14, 25, 26, 27, 28, 29, 30, 31, 32] (by decide +kernel) (by decide +kernel)
set_option maxRecDepth 20000 in
theorem gX2_steal_X2_put : GoodIn wsX2_steal (wsV RX2 51 RX2 yX2_put wsX2_put) := goodIn_app (goodIn_of _ (by decide +kernel)) ggX2_steal_X2_put
theorem dX2_steal_0 : decode cX2_steal 0 = .ok (.iload_n 2, 1) := by decide +kernel
theorem dX2_steal_1 : decode cX2_steal 1 = .ok (.iconst (-1), 1) := by decide +kernel
theorem dX2_steal_2 : decode cX2_steal 2 = .ok (.if_icmp .ne 10, 3) := by decide +kernel
theorem dX2_steal_5 : decode cX2_steal 5 = .ok (.aload_n 0, 1) := by decide +kernel
theorem dX2_steal_6 : decode cX2_steal 6 = .ok (.iload_n 1, 1) := by decide +kernel
theorem dX2_steal_7 : decode cX2_steal 7 = .ok (.iconst 1, 1) := by decide +kernel
theorem dX2_steal_8 : decode cX2_steal 8 = .ok (.invokevirtual 115, 3) := by decide +kernel
theorem dX2_steal_11 : decode cX2_steal 11 = .ok (.return_, 1) := by decide +kernel
theorem dX2_steal_12 : decode cX2_steal 12 = .ok (.aload_n 0, 1) := by decide +kernel
theorem dX2_steal_13 : decode cX2_steal 13 = .ok (.iload_n 1, 1) := by decide +kernel
theorem dX2_steal_14 : decode cX2_steal 14 = .ok (.iconst 0, 1) := by decide +kernel
theorem dX2_steal_15 : decode cX2_steal 15 = .ok (.invokevirtual 118, 3) := by decide +kernel
theorem dX2_steal_18 : decode cX2_steal 18 = .ok (.istore_n 3, 1) := by decide +kernel
theorem dX2_steal_19 : decode cX2_steal 19 = .ok (.iload_n 3, 1) := by decide +kernel
theorem dX2_steal_20 : decode cX2_steal 20 = .ok (.iconst (-1), 1) := by decide +kernel
theorem dX2_steal_21 : decode cX2_steal 21 = .ok (.if_icmp .eq 10, 3) := by decide +kernel
theorem dX2_steal_24 : decode cX2_steal 24 = .ok (.iload_n 1, 1) := by decide +kernel
theorem dX2_steal_25 : decode cX2_steal 25 = .ok (.invokestatic 43, 3) := by decide +kernel
theorem dX2_steal_28 : decode cX2_steal 28 = .ok (.ifCond .ne 4, 3) := by decide +kernel
theorem dX2_steal_31 : decode cX2_steal 31 = .ok (.return_, 1) := by decide +kernel
theorem dX2_steal_32 : decode cX2_steal 32 = .ok (.aload_n 0, 1) := by decide +kernel
theorem dX2_steal_33 : decode cX2_steal 33 = .ok (.getfield 9, 3) := by decide +kernel
theorem dX2_steal_36 : decode cX2_steal 36 = .ok (.iload_n 1, 1) := by decide +kernel
theorem dX2_steal_37 : decode cX2_steal 37 = .ok (.dup2, 1) := by decide +kernel
theorem dX2_steal_38 : decode cX2_steal 38 = .ok (.iaload, 1) := by decide +kernel
theorem dX2_steal_39 : decode cX2_steal 39 = .ok (.iconst 1, 1) := by decide +kernel
theorem dX2_steal_40 : decode cX2_steal 40 = .ok (.isub, 1) := by decide +kernel
theorem dX2_steal_41 : decode cX2_steal 41 = .ok (.iastore, 1) := by decide +kernel
theorem dX2_steal_42 : decode cX2_steal 42 = .ok (.aload_n 0, 1) := by decide +kernel
theorem dX2_steal_43 : decode cX2_steal 43 = .ok (.iload_n 2, 1) := by decide +kernel
theorem dX2_steal_44 : decode cX2_steal 44 = .ok (.iload_n 3, 1) := by decide +kernel
theorem dX2_steal_45 : decode cX2_steal 45 = .ok (.invokevirtual 51, 3) := by decide +kernel
theorem dX2_steal_48 : decode cX2_steal 48 = .ok (.return_, 1) := by decide +kernel
set_option maxRecDepth 20000 in
theorem ggX2_flood_X2_fewest : GoodIn wsX2_flood wsX2_fewest := goodIn_r _ [6, 1, 19, 20, 21, 22, 23, 24, 25, 26] (by decide +kernel) (by decide +kernel)
set_option maxRecDepth 20000 in
theorem gX2_flood_X2_fewest : GoodIn wsX2_flood (wsV RX2 121 RX2 yX2_fewest wsX2_fewest) := goodIn_app (goodIn_of _ (by decide +kernel)) ggX2_flood_X2_fewest
set_option maxRecDepth 20000 in
theorem ggX2_flood_X9_isCairn : GoodIn wsX2_flood wsX9_isCairn := goodIn_r _ [9] (by decide +kernel) (by decide +kernel)
set_option maxRecDepth 20000 in
theorem gX2_flood_X9_isCairn_n43 : GoodIn wsX2_flood (wsX9_isCairn) := ggX2_flood_X9_isCairn
set_option maxRecDepth 20000 in
theorem ggX2_flood_X2_takeOff : GoodIn wsX2_flood wsX2_takeOff := goodIn_r _ [13, 1, 14, 15, 16, 17, 18, 7, 8, 9, 19, 20, 21, 22, 23, 24, 25, 26] (by decide +kernel) (by decide +kernel)
set_option maxRecDepth 20000 in
theorem gX2_flood_X2_takeOff : GoodIn wsX2_flood (wsV RX2 115 RX2 yX2_takeOff wsX2_takeOff) := goodIn_app (goodIn_of _ (by decide +kernel)) ggX2_flood_X2_takeOff
theorem dX2_flood_0 : decode cX2_flood 0 = .ok (.aload_n 0, 1) := by decide +kernel
theorem dX2_flood_1 : decode cX2_flood 1 = .ok (.invokevirtual 121, 3) := by decide +kernel
theorem dX2_flood_4 : decode cX2_flood 4 = .ok (.istore_n 1, 1) := by decide +kernel
theorem dX2_flood_5 : decode cX2_flood 5 = .ok (.iload_n 1, 1) := by decide +kernel
theorem dX2_flood_6 : decode cX2_flood 6 = .ok (.invokestatic 43, 3) := by decide +kernel
theorem dX2_flood_9 : decode cX2_flood 9 = .ok (.ifCond .eq 18, 3) := by decide +kernel
theorem dX2_flood_12 : decode cX2_flood 12 = .ok (.aload_n 0, 1) := by decide +kernel
theorem dX2_flood_13 : decode cX2_flood 13 = .ok (.iload_n 1, 1) := by decide +kernel
theorem dX2_flood_14 : decode cX2_flood 14 = .ok (.aload_n 0, 1) := by decide +kernel
theorem dX2_flood_15 : decode cX2_flood 15 = .ok (.getfield 9, 3) := by decide +kernel
theorem dX2_flood_18 : decode cX2_flood 18 = .ok (.iload_n 1, 1) := by decide +kernel
theorem dX2_flood_19 : decode cX2_flood 19 = .ok (.iaload, 1) := by decide +kernel
theorem dX2_flood_20 : decode cX2_flood 20 = .ok (.iconst 1, 1) := by decide +kernel
theorem dX2_flood_21 : decode cX2_flood 21 = .ok (.iadd, 1) := by decide +kernel
theorem dX2_flood_22 : decode cX2_flood 22 = .ok (.iconst 2, 1) := by decide +kernel
theorem dX2_flood_23 : decode cX2_flood 23 = .ok (.idiv, 1) := by decide +kernel
theorem dX2_flood_24 : decode cX2_flood 24 = .ok (.invokevirtual 115, 3) := by decide +kernel
theorem dX2_flood_27 : decode cX2_flood 27 = .ok (.return_, 1) := by decide +kernel
set_option maxRecDepth 20000 in
theorem ggX2_put_X9_isCairn : GoodIn wsX2_put wsX9_isCairn := goodIn_r _ [6] (by decide +kernel) (by decide +kernel)
set_option maxRecDepth 20000 in
theorem gX2_put_X9_isCairn_n43 : GoodIn wsX2_put (wsX9_isCairn) := ggX2_put_X9_isCairn
theorem dX2_put_0 : decode cX2_put 0 = .ok (.iload_n 1, 1) := by decide +kernel
theorem dX2_put_1 : decode cX2_put 1 = .ok (.invokestatic 43, 3) := by decide +kernel
theorem dX2_put_4 : decode cX2_put 4 = .ok (.ifCond .ne 4, 3) := by decide +kernel
theorem dX2_put_7 : decode cX2_put 7 = .ok (.return_, 1) := by decide +kernel
theorem dX2_put_8 : decode cX2_put 8 = .ok (.aload_n 0, 1) := by decide +kernel
theorem dX2_put_9 : decode cX2_put 9 = .ok (.getfield 9, 3) := by decide +kernel
theorem dX2_put_12 : decode cX2_put 12 = .ok (.iload_n 1, 1) := by decide +kernel
theorem dX2_put_13 : decode cX2_put 13 = .ok (.iaload, 1) := by decide +kernel
theorem dX2_put_14 : decode cX2_put 14 = .ok (.istore_n 3, 1) := by decide +kernel
theorem dX2_put_15 : decode cX2_put 15 = .ok (.iload_n 3, 1) := by decide +kernel
theorem dX2_put_16 : decode cX2_put 16 = .ok (.ifCond .lt 9, 3) := by decide +kernel
theorem dX2_put_19 : decode cX2_put 19 = .ok (.iload_n 3, 1) := by decide +kernel
theorem dX2_put_20 : decode cX2_put 20 = .ok (.bipush 60, 2) := by decide +kernel
theorem dX2_put_22 : decode cX2_put 22 = .ok (.if_icmp .lt 14, 3) := by decide +kernel
theorem dX2_put_25 : decode cX2_put 25 = .ok (.aload_n 0, 1) := by decide +kernel
theorem dX2_put_26 : decode cX2_put 26 = .ok (.dup, 1) := by decide +kernel
theorem dX2_put_27 : decode cX2_put 27 = .ok (.getfield 40, 3) := by decide +kernel
theorem dX2_put_30 : decode cX2_put 30 = .ok (.iconst 1, 1) := by decide +kernel
theorem dX2_put_31 : decode cX2_put 31 = .ok (.iadd, 1) := by decide +kernel
theorem dX2_put_32 : decode cX2_put 32 = .ok (.putfield 40, 3) := by decide +kernel
theorem dX2_put_35 : decode cX2_put 35 = .ok (.return_, 1) := by decide +kernel
theorem dX2_put_36 : decode cX2_put 36 = .ok (.aload_n 0, 1) := by decide +kernel
theorem dX2_put_37 : decode cX2_put 37 = .ok (.getfield 15, 3) := by decide +kernel
theorem dX2_put_40 : decode cX2_put 40 = .ok (.iload_n 1, 1) := by decide +kernel
theorem dX2_put_41 : decode cX2_put 41 = .ok (.bipush 60, 2) := by decide +kernel
theorem dX2_put_43 : decode cX2_put 43 = .ok (.imul, 1) := by decide +kernel
theorem dX2_put_44 : decode cX2_put 44 = .ok (.iload_n 3, 1) := by decide +kernel
theorem dX2_put_45 : decode cX2_put 45 = .ok (.iadd, 1) := by decide +kernel
theorem dX2_put_46 : decode cX2_put 46 = .ok (.iload_n 2, 1) := by decide +kernel
theorem dX2_put_47 : decode cX2_put 47 = .ok (.iastore, 1) := by decide +kernel
theorem dX2_put_48 : decode cX2_put 48 = .ok (.aload_n 0, 1) := by decide +kernel
theorem dX2_put_49 : decode cX2_put 49 = .ok (.getfield 9, 3) := by decide +kernel
theorem dX2_put_52 : decode cX2_put 52 = .ok (.iload_n 1, 1) := by decide +kernel
theorem dX2_put_53 : decode cX2_put 53 = .ok (.iload_n 3, 1) := by decide +kernel
theorem dX2_put_54 : decode cX2_put 54 = .ok (.iconst 1, 1) := by decide +kernel
theorem dX2_put_55 : decode cX2_put 55 = .ok (.iadd, 1) := by decide +kernel
theorem dX2_put_56 : decode cX2_put 56 = .ok (.iastore, 1) := by decide +kernel
theorem dX2_put_57 : decode cX2_put 57 = .ok (.return_, 1) := by decide +kernel
set_option maxRecDepth 20000 in
theorem ggX2_cairnBy_X2_most : GoodIn wsX2_cairnBy wsX2_most := goodIn_r _ [6, 7, 12, 13, 14, 15, 16, 17, 18, 19] (by decide +kernel) (by decide +kernel)
set_option maxRecDepth 20000 in
theorem gX2_cairnBy_X2_most : GoodIn wsX2_cairnBy (wsV RX2 103 RX2 yX2_most wsX2_most) := goodIn_app (goodIn_of _ (by decide +kernel)) ggX2_cairnBy_X2_most
set_option maxRecDepth 20000 in
theorem ggX2_cairnBy_X2_fewest : GoodIn wsX2_cairnBy wsX2_fewest := goodIn_r _ [11, 7, 12, 13, 14, 15, 16, 17, 18, 19] (by decide +kernel) (by decide +kernel)
set_option maxRecDepth 20000 in
theorem gX2_cairnBy_X2_fewest : GoodIn wsX2_cairnBy (wsV RX2 121 RX2 yX2_fewest wsX2_fewest) := goodIn_app (goodIn_of _ (by decide +kernel)) ggX2_cairnBy_X2_fewest
theorem dX2_cairnBy_0 : decode cX2_cairnBy 0 = .ok (.iload_n 1, 1) := by decide +kernel
theorem dX2_cairnBy_1 : decode cX2_cairnBy 1 = .ok (.tableswitch 53 7 10 #[31, 36, 41, 43], 31) := by decide +kernel
theorem dX2_cairnBy_32 : decode cX2_cairnBy 32 = .ok (.aload_n 0, 1) := by decide +kernel
theorem dX2_cairnBy_33 : decode cX2_cairnBy 33 = .ok (.invokevirtual 103, 3) := by decide +kernel
theorem dX2_cairnBy_36 : decode cX2_cairnBy 36 = .ok (.ireturn, 1) := by decide +kernel
theorem dX2_cairnBy_37 : decode cX2_cairnBy 37 = .ok (.aload_n 0, 1) := by decide +kernel
theorem dX2_cairnBy_38 : decode cX2_cairnBy 38 = .ok (.invokevirtual 121, 3) := by decide +kernel
theorem dX2_cairnBy_41 : decode cX2_cairnBy 41 = .ok (.ireturn, 1) := by decide +kernel
theorem dX2_cairnBy_42 : decode cX2_cairnBy 42 = .ok (.iload_n 2, 1) := by decide +kernel
theorem dX2_cairnBy_43 : decode cX2_cairnBy 43 = .ok (.ireturn, 1) := by decide +kernel
theorem dX2_cairnBy_44 : decode cX2_cairnBy 44 = .ok (.aload_n 0, 1) := by decide +kernel
theorem dX2_cairnBy_45 : decode cX2_cairnBy 45 = .ok (.getfield 31, 3) := by decide +kernel
theorem dX2_cairnBy_48 : decode cX2_cairnBy 48 = .ok (.iconst 1, 1) := by decide +kernel
theorem dX2_cairnBy_49 : decode cX2_cairnBy 49 = .ok (.iadd, 1) := by decide +kernel
theorem dX2_cairnBy_50 : decode cX2_cairnBy 50 = .ok (.bipush 7, 2) := by decide +kernel
theorem dX2_cairnBy_52 : decode cX2_cairnBy 52 = .ok (.irem, 1) := by decide +kernel
theorem dX2_cairnBy_53 : decode cX2_cairnBy 53 = .ok (.ireturn, 1) := by decide +kernel
theorem dX2_cairnBy_54 : decode cX2_cairnBy 54 = .ok (.iload_n 1, 1) := by decide +kernel
theorem dX2_cairnBy_55 : decode cX2_cairnBy 55 = .ok (.ireturn, 1) := by decide +kernel
theorem dX2_draw_0 : decode cX2_draw 0 = .ok (.aload_n 0, 1) := by decide +kernel
theorem dX2_draw_1 : decode cX2_draw 1 = .ok (.ldc2_w 124, 3) := by decide +kernel
theorem dX2_draw_4 : decode cX2_draw 4 = .ok (.aload_n 0, 1) := by decide +kernel
theorem dX2_draw_5 : decode cX2_draw 5 = .ok (.getfield 18, 3) := by decide +kernel
theorem dX2_draw_8 : decode cX2_draw 8 = .ok (.i2l, 1) := by decide +kernel
theorem dX2_draw_9 : decode cX2_draw 9 = .ok (.lmul, 1) := by decide +kernel
theorem dX2_draw_10 : decode cX2_draw 10 = .ok (.ldc2_w 126, 3) := by decide +kernel
theorem dX2_draw_13 : decode cX2_draw 13 = .ok (.ladd, 1) := by decide +kernel
theorem dX2_draw_14 : decode cX2_draw 14 = .ok (.ldc2_w 128, 3) := by decide +kernel
theorem dX2_draw_17 : decode cX2_draw 17 = .ok (.land, 1) := by decide +kernel
theorem dX2_draw_18 : decode cX2_draw 18 = .ok (.l2i, 1) := by decide +kernel
theorem dX2_draw_19 : decode cX2_draw 19 = .ok (.putfield 18, 3) := by decide +kernel
theorem dX2_draw_22 : decode cX2_draw 22 = .ok (.aload_n 0, 1) := by decide +kernel
theorem dX2_draw_23 : decode cX2_draw 23 = .ok (.getfield 18, 3) := by decide +kernel
theorem dX2_draw_26 : decode cX2_draw 26 = .ok (.bipush 16, 2) := by decide +kernel
theorem dX2_draw_28 : decode cX2_draw 28 = .ok (.ishr, 1) := by decide +kernel
theorem dX2_draw_29 : decode cX2_draw 29 = .ok (.bipush 10, 2) := by decide +kernel
theorem dX2_draw_31 : decode cX2_draw 31 = .ok (.irem, 1) := by decide +kernel
theorem dX2_draw_32 : decode cX2_draw 32 = .ok (.ireturn, 1) := by decide +kernel
set_option maxRecDepth 20000 in
theorem ggX3_whole_X3_power : GoodIn wsX3_whole wsX3_power := goodIn_r _ [5] (by decide +kernel) (by decide +kernel)
set_option maxRecDepth 20000 in
theorem gX3_whole_X3_power : GoodIn wsX3_whole (va_wsS RX3 15 yX3_power wsX3_power) := goodIn_app (goodIn_of _ (by decide +kernel)) ggX3_whole_X3_power
theorem dX3_whole_0 : decode cX3_whole 0 = .ok (.bipush 100, 2) := by decide +kernel
theorem dX3_whole_2 : decode cX3_whole 2 = .ok (.aload_n 0, 1) := by decide +kernel
theorem dX3_whole_3 : decode cX3_whole 3 = .ok (.getfield 9, 3) := by decide +kernel
theorem dX3_whole_6 : decode cX3_whole 6 = .ok (.invokestatic 15, 3) := by decide +kernel
theorem dX3_whole_9 : decode cX3_whole 9 = .ok (.lreturn, 1) := by decide +kernel
set_option maxRecDepth 20000 in
theorem ggX3_of_X3_choices : GoodIn wsX3_of wsX3_choices := goodIn_r _ [7] (by decide +kernel) (by decide +kernel)
set_option maxRecDepth 20000 in
theorem gX3_of_X3_choices : GoodIn wsX3_of (va_wsS RX3 24 yX3_choices wsX3_choices) := goodIn_app (goodIn_of _ (by decide +kernel)) ggX3_of_X3_choices
set_option maxRecDepth 20000 in
theorem ggX3_of_X3_power : GoodIn wsX3_of wsX3_power := goodIn_r _ [10] (by decide +kernel) (by decide +kernel)
set_option maxRecDepth 20000 in
theorem gX3_of_X3_power : GoodIn wsX3_of (va_wsS RX3 15 yX3_power wsX3_power) := goodIn_app (goodIn_of _ (by decide +kernel)) ggX3_of_X3_power
theorem dX3_of_0 : decode cX3_of 0 = .ok (.aload_n 0, 1) := by decide +kernel
theorem dX3_of_1 : decode cX3_of 1 = .ok (.getfield 9, 3) := by decide +kernel
theorem dX3_of_4 : decode cX3_of 4 = .ok (.iload_n 1, 1) := by decide +kernel
theorem dX3_of_5 : decode cX3_of 5 = .ok (.isub, 1) := by decide +kernel
theorem dX3_of_6 : decode cX3_of 6 = .ok (.iload_n 2, 1) := by decide +kernel
theorem dX3_of_7 : decode cX3_of 7 = .ok (.isub, 1) := by decide +kernel
theorem dX3_of_8 : decode cX3_of 8 = .ok (.istore_n 3, 1) := by decide +kernel
theorem dX3_of_9 : decode cX3_of 9 = .ok (.iload_n 1, 1) := by decide +kernel
theorem dX3_of_10 : decode cX3_of 10 = .ok (.ifCond .lt 11, 3) := by decide +kernel
theorem dX3_of_13 : decode cX3_of 13 = .ok (.iload_n 2, 1) := by decide +kernel
theorem dX3_of_14 : decode cX3_of 14 = .ok (.ifCond .lt 7, 3) := by decide +kernel
theorem dX3_of_17 : decode cX3_of 17 = .ok (.iload_n 3, 1) := by decide +kernel
theorem dX3_of_18 : decode cX3_of 18 = .ok (.ifCond .ge 5, 3) := by decide +kernel
theorem dX3_of_21 : decode cX3_of 21 = .ok (.lconst 0, 1) := by decide +kernel
theorem dX3_of_22 : decode cX3_of 22 = .ok (.lreturn, 1) := by decide +kernel
theorem dX3_of_23 : decode cX3_of 23 = .ok (.bipush 10, 2) := by decide +kernel
theorem dX3_of_25 : decode cX3_of 25 = .ok (.aload_n 0, 1) := by decide +kernel
theorem dX3_of_26 : decode cX3_of 26 = .ok (.getfield 21, 3) := by decide +kernel
theorem dX3_of_29 : decode cX3_of 29 = .ok (.isub, 1) := by decide +kernel
theorem dX3_of_30 : decode cX3_of 30 = .ok (.istore 4, 2) := by decide +kernel
theorem dX3_of_32 : decode cX3_of 32 = .ok (.aload_n 0, 1) := by decide +kernel
theorem dX3_of_33 : decode cX3_of 33 = .ok (.getfield 9, 3) := by decide +kernel
theorem dX3_of_36 : decode cX3_of 36 = .ok (.iload_n 1, 1) := by decide +kernel
theorem dX3_of_37 : decode cX3_of 37 = .ok (.invokestatic 24, 3) := by decide +kernel
theorem dX3_of_40 : decode cX3_of 40 = .ok (.aload_n 0, 1) := by decide +kernel
theorem dX3_of_41 : decode cX3_of 41 = .ok (.getfield 9, 3) := by decide +kernel
theorem dX3_of_44 : decode cX3_of 44 = .ok (.iload_n 1, 1) := by decide +kernel
theorem dX3_of_45 : decode cX3_of 45 = .ok (.isub, 1) := by decide +kernel
theorem dX3_of_46 : decode cX3_of 46 = .ok (.iload_n 2, 1) := by decide +kernel
theorem dX3_of_47 : decode cX3_of 47 = .ok (.invokestatic 24, 3) := by decide +kernel
theorem dX3_of_50 : decode cX3_of 50 = .ok (.lmul, 1) := by decide +kernel
theorem dX3_of_51 : decode cX3_of 51 = .ok (.bipush 10, 2) := by decide +kernel
theorem dX3_of_53 : decode cX3_of 53 = .ok (.aload_n 0, 1) := by decide +kernel
theorem dX3_of_54 : decode cX3_of 54 = .ok (.getfield 21, 3) := by decide +kernel
theorem dX3_of_57 : decode cX3_of 57 = .ok (.imul, 1) := by decide +kernel
theorem dX3_of_58 : decode cX3_of 58 = .ok (.iload_n 1, 1) := by decide +kernel
theorem dX3_of_59 : decode cX3_of 59 = .ok (.invokestatic 15, 3) := by decide +kernel
theorem dX3_of_62 : decode cX3_of 62 = .ok (.lmul, 1) := by decide +kernel
theorem dX3_of_63 : decode cX3_of 63 = .ok (.iload 4, 2) := by decide +kernel
theorem dX3_of_65 : decode cX3_of 65 = .ok (.aload_n 0, 1) := by decide +kernel
theorem dX3_of_66 : decode cX3_of 66 = .ok (.getfield 27, 3) := by decide +kernel
theorem dX3_of_69 : decode cX3_of 69 = .ok (.imul, 1) := by decide +kernel
theorem dX3_of_70 : decode cX3_of 70 = .ok (.iload_n 2, 1) := by decide +kernel
theorem dX3_of_71 : decode cX3_of 71 = .ok (.invokestatic 15, 3) := by decide +kernel
theorem dX3_of_74 : decode cX3_of 74 = .ok (.lmul, 1) := by decide +kernel
theorem dX3_of_75 : decode cX3_of 75 = .ok (.iload 4, 2) := by decide +kernel
theorem dX3_of_77 : decode cX3_of 77 = .ok (.bipush 10, 2) := by decide +kernel
theorem dX3_of_79 : decode cX3_of 79 = .ok (.aload_n 0, 1) := by decide +kernel
theorem dX3_of_80 : decode cX3_of 80 = .ok (.getfield 27, 3) := by decide +kernel
theorem dX3_of_83 : decode cX3_of 83 = .ok (.isub, 1) := by decide +kernel
theorem dX3_of_84 : decode cX3_of 84 = .ok (.imul, 1) := by decide +kernel
theorem dX3_of_85 : decode cX3_of 85 = .ok (.iload_n 3, 1) := by decide +kernel
theorem dX3_of_86 : decode cX3_of 86 = .ok (.invokestatic 15, 3) := by decide +kernel
theorem dX3_of_89 : decode cX3_of 89 = .ok (.lmul, 1) := by decide +kernel
theorem dX3_of_90 : decode cX3_of 90 = .ok (.lreturn, 1) := by decide +kernel
set_option maxRecDepth 20000 in
theorem ggX3_ofNet_X5_gift : GoodIn wsX3_ofNet wsX5_gift := goodIn_r _ [7] (by decide +kernel) (by decide +kernel)
set_option maxRecDepth 20000 in
theorem gX3_ofNet_X5_gift_u30X0 : GoodIn wsX3_ofNet (va_wsU RX3 30 RX0 "KneelingStones$Parish" ⟨"KneelingStones$Parish", "gift", "()I"⟩ yX5_gift wsX5_gift) := goodIn_app (goodIn_of _ (by decide +kernel)) ggX3_ofNet_X5_gift
set_option maxRecDepth 20000 in
theorem gX3_ofNet_X5_gift : GoodIn wsX3_ofNet (wsV RX3 30 RX5 yX5_gift wsX5_gift) := goodIn_app (goodIn_of _ (by decide +kernel)) ggX3_ofNet_X5_gift
set_option maxRecDepth 20000 in
theorem ggX3_ofNet_X6_gift : GoodIn wsX3_ofNet wsX6_gift := goodIn_r _ [14, 15, 16, 43, 44, 45, 46, 47, 48, 49, 50, 51, 52, 53, 54, 55, 56, 57, 58] (by decide +kernel) (by decide +kernel)
set_option maxRecDepth 20000 in
theorem gX3_ofNet_X6_gift_u30X6 : GoodIn wsX3_ofNet (va_wsO RX3 30 RX6 "KneelingStones$Parish" ⟨"KneelingStones$Parish", "gift", "()I"⟩ yX6_gift wsX6_gift) := goodIn_app (goodIn_of _ (by decide +kernel)) ggX3_ofNet_X6_gift
set_option maxRecDepth 20000 in
theorem gX3_ofNet_X5_gift_u30X7 : GoodIn wsX3_ofNet (va_wsU RX3 30 RX7 "KneelingStones$Parish" ⟨"KneelingStones$Parish", "gift", "()I"⟩ yX5_gift wsX5_gift) := goodIn_app (goodIn_of _ (by decide +kernel)) ggX3_ofNet_X5_gift
set_option maxRecDepth 20000 in
theorem ggX3_ofNet_X7_loss : GoodIn wsX3_ofNet wsX7_loss := goodIn_r _ [24] (by decide +kernel) (by decide +kernel)
set_option maxRecDepth 20000 in
theorem gX3_ofNet_X7_loss_u34X0 : GoodIn wsX3_ofNet (va_wsO RX3 34 RX0 "KneelingStones$Parish" ⟨"KneelingStones$Parish", "loss", "()I"⟩ yX7_loss wsX7_loss) := goodIn_app (goodIn_of _ (by decide +kernel)) ggX3_ofNet_X7_loss
set_option maxRecDepth 20000 in
theorem ggX3_ofNet_X5_loss : GoodIn wsX3_ofNet wsX5_loss := goodIn_r _ [25] (by decide +kernel) (by decide +kernel)
set_option maxRecDepth 20000 in
theorem gX3_ofNet_X5_loss : GoodIn wsX3_ofNet (wsV RX3 34 RX5 yX5_loss wsX5_loss) := goodIn_app (goodIn_of _ (by decide +kernel)) ggX3_ofNet_X5_loss
set_option maxRecDepth 20000 in
theorem gX3_ofNet_X5_loss_u34X6 : GoodIn wsX3_ofNet (va_wsU RX3 34 RX6 "KneelingStones$Parish" ⟨"KneelingStones$Parish", "loss", "()I"⟩ yX5_loss wsX5_loss) := goodIn_app (goodIn_of _ (by decide +kernel)) ggX3_ofNet_X5_loss
set_option maxRecDepth 20000 in
theorem gX3_ofNet_X7_loss_u34X7 : GoodIn wsX3_ofNet (va_wsO RX3 34 RX7 "KneelingStones$Parish" ⟨"KneelingStones$Parish", "loss", "()I"⟩ yX7_loss wsX7_loss) := goodIn_app (goodIn_of _ (by decide +kernel)) ggX3_ofNet_X7_loss
set_option maxRecDepth 20000 in
theorem ggX3_ofNet_X3_of : GoodIn wsX3_ofNet wsX3_of := goodIn_r _ [34, 1, 35, 36, 37, 38, 33, 39, 40, 41, 42, 43, 44, 45, 46, 47, 48, 49, 50, 51, 52, 53, 54, 55, 56, 57, 58] (by decide +kernel) (by decide +kernel)
set_option maxRecDepth 20000 in
theorem gX3_ofNet_X3_of : GoodIn wsX3_ofNet (va_wsS RX3 37 yX3_of wsX3_of) := goodIn_app (goodIn_of _ (by decide +kernel)) ggX3_ofNet_X3_of
theorem dX3_ofNet_0 : decode cX3_ofNet 0 = .ok (.lconst 0, 1) := by decide +kernel
theorem dX3_ofNet_1 : decode cX3_ofNet 1 = .ok (.lstore_n 3, 1) := by decide +kernel
theorem dX3_ofNet_2 : decode cX3_ofNet 2 = .ok (.iconst 0, 1) := by decide +kernel
theorem dX3_ofNet_3 : decode cX3_ofNet 3 = .ok (.istore 5, 2) := by decide +kernel
theorem dX3_ofNet_5 : decode cX3_ofNet 5 = .ok (.iload 5, 2) := by decide +kernel
theorem dX3_ofNet_7 : decode cX3_ofNet 7 = .ok (.aload_n 0, 1) := by decide +kernel
theorem dX3_ofNet_8 : decode cX3_ofNet 8 = .ok (.getfield 9, 3) := by decide +kernel
theorem dX3_ofNet_11 : decode cX3_ofNet 11 = .ok (.if_icmp .gt 60, 3) := by decide +kernel
theorem dX3_ofNet_14 : decode cX3_ofNet 14 = .ok (.iload_n 2, 1) := by decide +kernel
theorem dX3_ofNet_15 : decode cX3_ofNet 15 = .ok (.istore 6, 2) := by decide +kernel
theorem dX3_ofNet_17 : decode cX3_ofNet 17 = .ok (.iload 5, 2) := by decide +kernel
theorem dX3_ofNet_19 : decode cX3_ofNet 19 = .ok (.iload 6, 2) := by decide +kernel
theorem dX3_ofNet_21 : decode cX3_ofNet 21 = .ok (.iadd, 1) := by decide +kernel
theorem dX3_ofNet_22 : decode cX3_ofNet 22 = .ok (.aload_n 0, 1) := by decide +kernel
theorem dX3_ofNet_23 : decode cX3_ofNet 23 = .ok (.getfield 9, 3) := by decide +kernel
theorem dX3_ofNet_26 : decode cX3_ofNet 26 = .ok (.if_icmp .gt 39, 3) := by decide +kernel
theorem dX3_ofNet_29 : decode cX3_ofNet 29 = .ok (.aload_n 0, 1) := by decide +kernel
theorem dX3_ofNet_30 : decode cX3_ofNet 30 = .ok (.invokevirtual 30, 3) := by decide +kernel
theorem dX3_ofNet_33 : decode cX3_ofNet 33 = .ok (.iload 5, 2) := by decide +kernel
theorem dX3_ofNet_35 : decode cX3_ofNet 35 = .ok (.imul, 1) := by decide +kernel
theorem dX3_ofNet_36 : decode cX3_ofNet 36 = .ok (.aload_n 0, 1) := by decide +kernel
theorem dX3_ofNet_37 : decode cX3_ofNet 37 = .ok (.invokevirtual 34, 3) := by decide +kernel
theorem dX3_ofNet_40 : decode cX3_ofNet 40 = .ok (.iload 6, 2) := by decide +kernel
theorem dX3_ofNet_42 : decode cX3_ofNet 42 = .ok (.imul, 1) := by decide +kernel
theorem dX3_ofNet_43 : decode cX3_ofNet 43 = .ok (.isub, 1) := by decide +kernel
theorem dX3_ofNet_44 : decode cX3_ofNet 44 = .ok (.iload_n 1, 1) := by decide +kernel
theorem dX3_ofNet_45 : decode cX3_ofNet 45 = .ok (.if_icmp .ne 14, 3) := by decide +kernel
theorem dX3_ofNet_48 : decode cX3_ofNet 48 = .ok (.lload_n 3, 1) := by decide +kernel
theorem dX3_ofNet_49 : decode cX3_ofNet 49 = .ok (.aload_n 0, 1) := by decide +kernel
theorem dX3_ofNet_50 : decode cX3_ofNet 50 = .ok (.iload 5, 2) := by decide +kernel
theorem dX3_ofNet_52 : decode cX3_ofNet 52 = .ok (.iload 6, 2) := by decide +kernel
theorem dX3_ofNet_54 : decode cX3_ofNet 54 = .ok (.invokestatic 37, 3) := by decide +kernel
theorem dX3_ofNet_57 : decode cX3_ofNet 57 = .ok (.ladd, 1) := by decide +kernel
theorem dX3_ofNet_58 : decode cX3_ofNet 58 = .ok (.lstore_n 3, 1) := by decide +kernel
theorem dX3_ofNet_59 : decode cX3_ofNet 59 = .ok (.iinc 6 1, 3) := by decide +kernel
theorem dX3_ofNet_62 : decode cX3_ofNet 62 = .ok (.goto (-45), 3) := by decide +kernel
theorem dX3_ofNet_65 : decode cX3_ofNet 65 = .ok (.iinc 5 1, 3) := by decide +kernel
theorem dX3_ofNet_68 : decode cX3_ofNet 68 = .ok (.goto (-63), 3) := by decide +kernel
theorem dX3_ofNet_71 : decode cX3_ofNet 71 = .ok (.lload_n 3, 1) := by decide +kernel
theorem dX3_ofNet_72 : decode cX3_ofNet 72 = .ok (.lreturn, 1) := by decide +kernel
theorem dX3_power_0 : decode cX3_power 0 = .ok (.lconst 1, 1) := by decide +kernel
theorem dX3_power_1 : decode cX3_power 1 = .ok (.lstore_n 2, 1) := by decide +kernel
theorem dX3_power_2 : decode cX3_power 2 = .ok (.iconst 0, 1) := by decide +kernel
theorem dX3_power_3 : decode cX3_power 3 = .ok (.istore 4, 2) := by decide +kernel
theorem dX3_power_5 : decode cX3_power 5 = .ok (.iload 4, 2) := by decide +kernel
theorem dX3_power_7 : decode cX3_power 7 = .ok (.iload_n 1, 1) := by decide +kernel
theorem dX3_power_8 : decode cX3_power 8 = .ok (.if_icmp .ge 14, 3) := by decide +kernel
theorem dX3_power_11 : decode cX3_power 11 = .ok (.lload_n 2, 1) := by decide +kernel
theorem dX3_power_12 : decode cX3_power 12 = .ok (.iload_n 0, 1) := by decide +kernel
theorem dX3_power_13 : decode cX3_power 13 = .ok (.i2l, 1) := by decide +kernel
theorem dX3_power_14 : decode cX3_power 14 = .ok (.lmul, 1) := by decide +kernel
theorem dX3_power_15 : decode cX3_power 15 = .ok (.lstore_n 2, 1) := by decide +kernel
theorem dX3_power_16 : decode cX3_power 16 = .ok (.iinc 4 1, 3) := by decide +kernel
theorem dX3_power_19 : decode cX3_power 19 = .ok (.goto (-14), 3) := by decide +kernel
theorem dX3_power_22 : decode cX3_power 22 = .ok (.lload_n 2, 1) := by decide +kernel
theorem dX3_power_23 : decode cX3_power 23 = .ok (.lreturn, 1) := by decide +kernel
theorem dX3_choices_0 : decode cX3_choices 0 = .ok (.lconst 1, 1) := by decide +kernel
theorem dX3_choices_1 : decode cX3_choices 1 = .ok (.lstore_n 2, 1) := by decide +kernel
theorem dX3_choices_2 : decode cX3_choices 2 = .ok (.iconst 1, 1) := by decide +kernel
theorem dX3_choices_3 : decode cX3_choices 3 = .ok (.istore 4, 2) := by decide +kernel
theorem dX3_choices_5 : decode cX3_choices 5 = .ok (.iload 4, 2) := by decide +kernel
theorem dX3_choices_7 : decode cX3_choices 7 = .ok (.iload_n 1, 1) := by decide +kernel
theorem dX3_choices_8 : decode cX3_choices 8 = .ok (.if_icmp .gt 23, 3) := by decide +kernel
theorem dX3_choices_11 : decode cX3_choices 11 = .ok (.lload_n 2, 1) := by decide +kernel
theorem dX3_choices_12 : decode cX3_choices 12 = .ok (.iload_n 0, 1) := by decide +kernel
theorem dX3_choices_13 : decode cX3_choices 13 = .ok (.iconst 1, 1) := by decide +kernel
theorem dX3_choices_14 : decode cX3_choices 14 = .ok (.iadd, 1) := by decide +kernel
theorem dX3_choices_15 : decode cX3_choices 15 = .ok (.iload 4, 2) := by decide +kernel
theorem dX3_choices_17 : decode cX3_choices 17 = .ok (.isub, 1) := by decide +kernel
theorem dX3_choices_18 : decode cX3_choices 18 = .ok (.i2l, 1) := by decide +kernel
theorem dX3_choices_19 : decode cX3_choices 19 = .ok (.lmul, 1) := by decide +kernel
theorem dX3_choices_20 : decode cX3_choices 20 = .ok (.iload 4, 2) := by decide +kernel
theorem dX3_choices_22 : decode cX3_choices 22 = .ok (.i2l, 1) := by decide +kernel
theorem dX3_choices_23 : decode cX3_choices 23 = .ok (.ldiv, 1) := by decide +kernel
theorem dX3_choices_24 : decode cX3_choices 24 = .ok (.lstore_n 2, 1) := by decide +kernel
theorem dX3_choices_25 : decode cX3_choices 25 = .ok (.iinc 4 1, 3) := by decide +kernel
theorem dX3_choices_28 : decode cX3_choices 28 = .ok (.goto (-23), 3) := by decide +kernel
theorem dX3_choices_31 : decode cX3_choices 31 = .ok (.lload_n 2, 1) := by decide +kernel
theorem dX3_choices_32 : decode cX3_choices 32 = .ok (.lreturn, 1) := by decide +kernel
theorem dX4_init_0 : decode cX4_init 0 = .ok (.aload_n 0, 1) := by decide +kernel
theorem dX4_init_1 : decode cX4_init 1 = .ok (.invokespecial 3, 3) := by decide +kernel
theorem dX4_init_4 : decode cX4_init 4 = .ok (.aload_n 0, 1) := by decide +kernel
theorem dX4_init_5 : decode cX4_init 5 = .ok (.bipush 16, 2) := by decide +kernel
theorem dX4_init_7 : decode cX4_init 7 = .ok (.newarray .int, 2) := by decide +kernel
theorem dX4_init_9 : decode cX4_init 9 = .ok (.putfield 9, 3) := by decide +kernel
theorem dX4_init_12 : decode cX4_init 12 = .ok (.return_, 1) := by decide +kernel
set_option maxRecDepth 20000 in
theorem ggX4_lettersIn_X4_codeAt : GoodIn wsX4_lettersIn wsX4_codeAt := goodIn_r _ [4, 5] (by decide +kernel) (by decide +kernel)
set_option maxRecDepth 20000 in
theorem gX4_lettersIn_X4_codeAt : GoodIn wsX4_lettersIn (va_wsS RX4 15 yX4_codeAt wsX4_codeAt) := goodIn_app (goodIn_of _ (by decide +kernel)) ggX4_lettersIn_X4_codeAt
theorem dX4_lettersIn_0 : decode cX4_lettersIn 0 = .ok (.iconst 0, 1) := by decide +kernel
theorem dX4_lettersIn_1 : decode cX4_lettersIn 1 = .ok (.istore_n 2, 1) := by decide +kernel
theorem dX4_lettersIn_2 : decode cX4_lettersIn 2 = .ok (.iconst 0, 1) := by decide +kernel
theorem dX4_lettersIn_3 : decode cX4_lettersIn 3 = .ok (.istore_n 3, 1) := by decide +kernel
theorem dX4_lettersIn_4 : decode cX4_lettersIn 4 = .ok (.iload_n 3, 1) := by decide +kernel
theorem dX4_lettersIn_5 : decode cX4_lettersIn 5 = .ok (.bipush 8, 2) := by decide +kernel
theorem dX4_lettersIn_7 : decode cX4_lettersIn 7 = .ok (.if_icmp .ge 43, 3) := by decide +kernel
theorem dX4_lettersIn_10 : decode cX4_lettersIn 10 = .ok (.lload_n 0, 1) := by decide +kernel
theorem dX4_lettersIn_11 : decode cX4_lettersIn 11 = .ok (.iload_n 3, 1) := by decide +kernel
theorem dX4_lettersIn_12 : decode cX4_lettersIn 12 = .ok (.invokestatic 15, 3) := by decide +kernel
theorem dX4_lettersIn_15 : decode cX4_lettersIn 15 = .ok (.istore 4, 2) := by decide +kernel
theorem dX4_lettersIn_17 : decode cX4_lettersIn 17 = .ok (.iload 4, 2) := by decide +kernel
theorem dX4_lettersIn_19 : decode cX4_lettersIn 19 = .ok (.bipush 126, 2) := by decide +kernel
theorem dX4_lettersIn_21 : decode cX4_lettersIn 21 = .ok (.if_icmp .gt 13, 3) := by decide +kernel
theorem dX4_lettersIn_24 : decode cX4_lettersIn 24 = .ok (.iload 4, 2) := by decide +kernel
theorem dX4_lettersIn_26 : decode cX4_lettersIn 26 = .ok (.ifCond .eq 10, 3) := by decide +kernel
theorem dX4_lettersIn_29 : decode cX4_lettersIn 29 = .ok (.iload_n 2, 1) := by decide +kernel
theorem dX4_lettersIn_30 : decode cX4_lettersIn 30 = .ok (.iload_n 3, 1) := by decide +kernel
theorem dX4_lettersIn_31 : decode cX4_lettersIn 31 = .ok (.if_icmp .ge 5, 3) := by decide +kernel
theorem dX4_lettersIn_34 : decode cX4_lettersIn 34 = .ok (.iconst (-1), 1) := by decide +kernel
theorem dX4_lettersIn_35 : decode cX4_lettersIn 35 = .ok (.ireturn, 1) := by decide +kernel
theorem dX4_lettersIn_36 : decode cX4_lettersIn 36 = .ok (.iload 4, 2) := by decide +kernel
theorem dX4_lettersIn_38 : decode cX4_lettersIn 38 = .ok (.ifCond .eq 6, 3) := by decide +kernel
theorem dX4_lettersIn_41 : decode cX4_lettersIn 41 = .ok (.iinc 2 1, 3) := by decide +kernel
theorem dX4_lettersIn_44 : decode cX4_lettersIn 44 = .ok (.iinc 3 1, 3) := by decide +kernel
theorem dX4_lettersIn_47 : decode cX4_lettersIn 47 = .ok (.goto (-43), 3) := by decide +kernel
theorem dX4_lettersIn_50 : decode cX4_lettersIn 50 = .ok (.iload_n 2, 1) := by decide +kernel
theorem dX4_lettersIn_51 : decode cX4_lettersIn 51 = .ok (.ireturn, 1) := by decide +kernel
theorem dX4_codeAt_0 : decode cX4_codeAt 0 = .ok (.lload_n 0, 1) := by decide +kernel
theorem dX4_codeAt_1 : decode cX4_codeAt 1 = .ok (.bipush 8, 2) := by decide +kernel
theorem dX4_codeAt_3 : decode cX4_codeAt 3 = .ok (.iload_n 2, 1) := by decide +kernel
theorem dX4_codeAt_4 : decode cX4_codeAt 4 = .ok (.imul, 1) := by decide +kernel
theorem dX4_codeAt_5 : decode cX4_codeAt 5 = .ok (.lushr, 1) := by decide +kernel
theorem dX4_codeAt_6 : decode cX4_codeAt 6 = .ok (.ldc2_w 19, 3) := by decide +kernel
theorem dX4_codeAt_9 : decode cX4_codeAt 9 = .ok (.land, 1) := by decide +kernel
theorem dX4_codeAt_10 : decode cX4_codeAt 10 = .ok (.l2i, 1) := by decide +kernel
theorem dX4_codeAt_11 : decode cX4_codeAt 11 = .ok (.ireturn, 1) := by decide +kernel
set_option maxRecDepth 20000 in
theorem ggX4_write_X4_codeAt : GoodIn wsX4_write wsX4_codeAt := goodIn_r _ [6, 7] (by decide +kernel) (by decide +kernel)
set_option maxRecDepth 20000 in
theorem gX4_write_X4_codeAt : GoodIn wsX4_write (va_wsS RX4 15 yX4_codeAt wsX4_codeAt) := goodIn_app (goodIn_of _ (by decide +kernel)) ggX4_write_X4_codeAt
end
section
/-! J: the walk over whole numbers (Int): values, worlds, the judgement jW and its rows -/
/-- an int, a long on the stack, by a whole number -/
def vI (e : Int) : Value := .int (Int32.ofInt e)
def vL (e : Int) : Value := .long (Int64.ofInt e)
/-- a row of ints (bytes), of references; an object -/
def aI (cA : ClassId) (n : Nat) (g : Int → Int) : va_E := .inl (cA, n, .inl (fun k : Nat => Int32.ofInt (g (k : Int))))
def aQ (cA : ClassId) (n : Nat) (g : Int → Option Nat) : va_E := .inl (cA, n, .inr (.inr (.inr (.inr (fun k : Nat => g (k : Int))))))
abbrev oC (ci : Nat) (fs : List Value) : va_E := .inr (ci, fs)
def up {α : Type} (g : Int → α) (i : Int) (x : α) : Int → α := fun j => if j = i then x else g j
theorem up_same {α : Type} (g : Int → α) (i : Int) (x : α) : up g i x i = x := if_pos rfl
theorem up_ne {α : Type} (g : Int → α) (i j : Int) (x : α) (h : j ≠ i) : up g i x j = g j := if_neg h
theorem up_eq {α : Type} (g : Int → α) (i j : Int) (x : α) : up g i x j = if j = i then x else g j := rfl
-- numbers
theorem nj_eq {a b : Int} (h : (-2147483648 ≤ a ∧ a ≤ 2147483647) ∧ (-2147483648 ≤ b ∧ b ≤ 2147483647)) : Int32.ofInt a = Int32.ofInt b ↔ a = b := by
  refine ⟨fun e => ?_, fun e => by rw [e]⟩
  have h1 := congrArg Int32.toInt e
  rwa [Int32.toInt_ofInt_of_le (by omega) (by omega), Int32.toInt_ofInt_of_le (by omega) (by omega)] at h1
theorem nj_lt {a b : Int} (h : (-2147483648 ≤ a ∧ a ≤ 2147483647) ∧ (-2147483648 ≤ b ∧ b ≤ 2147483647)) : Int32.ofInt a < Int32.ofInt b ↔ a < b := by
  rw [Int32.lt_iff_toInt_lt, Int32.toInt_ofInt_of_le (by omega) (by omega), Int32.toInt_ofInt_of_le (by omega) (by omega)]
theorem nj_le {a b : Int} (h : (-2147483648 ≤ a ∧ a ≤ 2147483647) ∧ (-2147483648 ≤ b ∧ b ≤ 2147483647)) : Int32.ofInt a ≤ Int32.ofInt b ↔ a ≤ b := by
  rw [Int32.le_iff_toInt_le, Int32.toInt_ofInt_of_le (by omega) (by omega), Int32.toInt_ofInt_of_le (by omega) (by omega)]
theorem nj_z : (0 : Int32) = Int32.ofInt 0 := rfl
theorem nj_cl {i : Int} (h : 0 ≤ i ∧ i ≤ 2147483647) : (Int32.ofInt i).toNatClampNeg = i.toNat := Int32.toNatClampNeg_ofInt_of_le (by omega) (by omega)
theorem nj_in {i : Int} {n : Nat} (h : 0 ≤ i ∧ i < (n : Int)) (hn : n < 2147483648) : vp_in (Int32.ofInt i) n := by
  intro q
  rcases q with q | q
  · rw [nj_z, nj_lt (by omega)] at q
    omega
  · rw [nj_cl (by omega)] at q
    omega
theorem nj_to {i : Int} (h : 0 ≤ i ∧ i ≤ 2147483647) : ((Int32.ofInt i).toNatClampNeg : Int) = i := by
  rw [nj_cl h]; omega
theorem nj_up {g : Int → Int} {i x : Int} (h : 0 ≤ i ∧ i ≤ 2147483647) : upd (fun k : Nat => Int32.ofInt (g (k : Int))) (Int32.ofInt i).toNatClampNeg (Int32.ofInt x) = fun k : Nat => Int32.ofInt (up g i x (k : Int)) := by
  funext k
  have h1 := nj_to h
  unfold upd up
  by_cases hk : k = (Int32.ofInt i).toNatClampNeg
  · rw [if_pos hk, if_pos (by omega)]
  · rw [if_neg hk, if_neg (by omega)]
theorem nj_upq {g : Int → Option Nat} {i : Int} {x : Option Nat} (h : 0 ≤ i ∧ i ≤ 2147483647) : va_up (fun k : Nat => g (k : Int)) (Int32.ofInt i).toNatClampNeg x = fun k : Nat => up g i x (k : Int) := by
  funext k
  have h1 := nj_to h
  unfold va_up up
  by_cases hk : k = (Int32.ofInt i).toNatClampNeg
  · rw [if_pos hk, if_pos (by omega)]
  · rw [if_neg hk, if_neg (by omega)]
-- the tables' facts that are no words of a method: private nest mates, casts, rows of references
def jN (U : State) : Prop := (va_Nw (.methodLinkNest RX2 43 yX9_isCairn "KneelingStones") U ∧ va_Nw (.methodLinkNest RX9 11 yX4_init "KneelingStones") U ∧ va_Nw (.methodLinkNest RX9 30 yX2_init "KneelingStones") U ∧ va_Nw (.methodLinkNest RX9 47 yX8_init "KneelingStones") U) ∧ (va_AO RX1 U ∧ va_AO RX5 U) ∧ True
theorem jN.warm {s U : State} (hW : s.WarmedH U.vm) (h : jN s) : jN U := ⟨⟨h.1.1.warmM hW, h.1.2.1.warmM hW, h.1.2.2.1.warmM hW, h.1.2.2.2.warmM hW⟩, ⟨h.2.1.1.moved hW.alike, h.2.1.2.moved hW.alike⟩, trivial⟩
theorem jN.same {s U : State} (hW : s.vm = U.vm) (h : jN s) : jN U := ⟨⟨h.1.1.same rfl hW, h.1.2.1.same rfl hW, h.1.2.2.1.same rfl hW, h.1.2.2.2.same rfl hW⟩, ⟨h.2.1.1.moved (hW ▸ Vm.Alike.refl _), h.2.1.2.moved (hW ▸ Vm.Alike.refl _)⟩, trivial⟩
/-- the rows' classes: of ints, of bytes, of customs, of parishes -/
def jT (Y : Nat → ClassId) : List (ClassId × FieldType) := [(Y 0, .int), (Y 1, .byte), (Y 2, .object RX1), (Y 3, .object RX5)]
def andI (a b : Int) : Int := (Int32.ofInt a &&& Int32.ofInt b).toInt
def orI (a b : Int) : Int := (Int32.ofInt a ||| Int32.ofInt b).toInt
def shlI (a b : Int) : Int := (Int32.ofInt a <<< (Int32.ofInt b &&& 31)).toInt
def shrI (a b : Int) : Int := (Int32.ofInt a >>> (Int32.ofInt b &&& 31)).toInt
def i2bI (a : Int) : Int := (Int32.ofInt a).toInt8.toInt32.toInt
def landI (a b : Int) : Int := (Int64.ofInt a &&& Int64.ofInt b).toInt
def lorI (a b : Int) : Int := (Int64.ofInt a ||| Int64.ofInt b).toInt
def lushrI (a b : Int) : Int := (((Int64.ofInt a).toUInt64 >>> ((Int32.ofInt b).toInt64.toUInt64 &&& Int64.toUInt64 63)).toInt64).toInt
def lshrI (a b : Int) : Int := (Int64.ofInt a >>> ((Int32.ofInt b).toInt64 &&& 63)).toInt
def lshlI (a b : Int) : Int := (Int64.ofInt a <<< ((Int32.ofInt b).toInt64 &&& 63)).toInt
def cmpI (a b : Int) : Int := if a < b then -1 else if a = b then 0 else 1
theorem nj_nz32 {b : Int} (h : 0 < b ∧ b ≤ 2147483647) : ¬ Int32.ofInt b = 0 := by
  rw [nj_z, nj_eq (by omega)]; omega
theorem nj_nz64 {b : Int} (h : 0 < b ∧ b ≤ 9223372036854775807) : ¬ Int64.ofInt b = 0 := by
  intro e
  have h1 := congrArg Int64.toInt e
  rw [Int64.toInt_ofInt_of_le (by omega) (by omega)] at h1
  have h2 : (0 : Int64).toInt = 0 := rfl
  omega
theorem nj_div {a b : Int} (h : 0 ≤ a ∧ a ≤ 2147483647 ∧ 0 < b ∧ b ≤ 2147483647) : Int32.ofInt a / Int32.ofInt b = Int32.ofInt (a / b) := by
  rw [← Int32.ofInt_tdiv (show Int32.minValue.toInt ≤ a by have : Int32.minValue.toInt = -2147483648 := rfl; omega) (show a ≤ Int32.maxValue.toInt by have : Int32.maxValue.toInt = 2147483647 := rfl; omega) (show Int32.minValue.toInt ≤ b by have : Int32.minValue.toInt = -2147483648 := rfl; omega) (show b ≤ Int32.maxValue.toInt by have : Int32.maxValue.toInt = 2147483647 := rfl; omega), Int.tdiv_eq_ediv_of_nonneg h.1]
theorem nj_rem {a b : Int} (h : 0 ≤ a ∧ a ≤ 2147483647 ∧ 0 < b ∧ b ≤ 2147483647) : Int32.ofInt a - Int32.ofInt a / Int32.ofInt b * Int32.ofInt b = Int32.ofInt (a % b) := by
  rw [nj_div h, ← Int32.ofInt_mul, ← Int32.ofInt_sub, Int.emod_def, Int.mul_comm b]
theorem nj_ldiv {a b : Int} (h : 0 ≤ a ∧ a ≤ 9223372036854775807 ∧ 0 < b ∧ b ≤ 9223372036854775807) : Int64.ofInt a / Int64.ofInt b = Int64.ofInt (a / b) := by
  rw [← Int64.ofInt_tdiv (show Int64.minValue.toInt ≤ a by have : Int64.minValue.toInt = -9223372036854775808 := rfl; omega) (show a ≤ Int64.maxValue.toInt by have : Int64.maxValue.toInt = 9223372036854775807 := rfl; omega) (show Int64.minValue.toInt ≤ b by have : Int64.minValue.toInt = -9223372036854775808 := rfl; omega) (show b ≤ Int64.maxValue.toInt by have : Int64.maxValue.toInt = 9223372036854775807 := rfl; omega), Int.tdiv_eq_ediv_of_nonneg h.1]
theorem nj_lrem {a b : Int} (h : 0 ≤ a ∧ a ≤ 9223372036854775807 ∧ 0 < b ∧ b ≤ 9223372036854775807) : Int64.ofInt a - Int64.ofInt a / Int64.ofInt b * Int64.ofInt b = Int64.ofInt (a % b) := by
  rw [nj_ldiv h, ← Int64.ofInt_mul, ← Int64.ofInt_sub, Int.emod_def, Int.mul_comm b]
theorem nj_i2l {a : Int} (h : -2147483648 ≤ a ∧ a ≤ 2147483647) : (Int32.ofInt a).toInt64 = Int64.ofInt a := Int32.toInt64_ofInt (by have : Int32.minValue.toInt = -2147483648 := rfl; omega) (by have : Int32.maxValue.toInt = 2147483647 := rfl; omega)
theorem nj_cmp {a b : Int} (h : (-9223372036854775808 ≤ a ∧ a ≤ 9223372036854775807) ∧ (-9223372036854775808 ≤ b ∧ b ≤ 9223372036854775807)) : lg_cmp (Int64.ofInt a) (Int64.ofInt b) = Int32.ofInt (cmpI a b) := by
  have ea : (Int64.ofInt a).toInt = a := Int64.toInt_ofInt_of_le (by omega) (by omega)
  have eb : (Int64.ofInt b).toInt = b := Int64.toInt_ofInt_of_le (by omega) (by omega)
  have h2 : (Int64.ofInt a = Int64.ofInt b) ↔ a = b := by rw [← Int64.toInt_inj, ea, eb]
  have h3 : (Int64.ofInt b < Int64.ofInt a) ↔ b < a := by rw [Int64.lt_iff_toInt_lt, ea, eb]
  unfold lg_cmp cmpI
  simp only [gt_iff_lt, h2, h3]
  by_cases c1 : b < a
  · rw [if_pos c1, if_neg (by omega), if_neg (by omega)]; rfl
  · by_cases c2 : a = b
    · rw [if_neg c1, if_pos c2, if_neg (by omega), if_pos c2]; rfl
    · rw [if_neg c1, if_neg c2, if_pos (by omega)]; rfl
theorem nj_eqT {a b : Int} (hr : (-2147483648 ≤ a ∧ a ≤ 2147483647) ∧ (-2147483648 ≤ b ∧ b ≤ 2147483647)) (h : Int32.ofInt a = Int32.ofInt b) : a = b := (nj_eq hr).mp h
theorem nj_eqF {a b : Int} (hr : (-2147483648 ≤ a ∧ a ≤ 2147483647) ∧ (-2147483648 ≤ b ∧ b ≤ 2147483647)) (h : ¬ Int32.ofInt a = Int32.ofInt b) : ¬ a = b := fun q => h ((nj_eq hr).mpr q)
theorem nj_neT {a b : Int} (hr : (-2147483648 ≤ a ∧ a ≤ 2147483647) ∧ (-2147483648 ≤ b ∧ b ≤ 2147483647)) (h : ¬ Int32.ofInt a = Int32.ofInt b) : ¬ a = b := fun q => h ((nj_eq hr).mpr q)
theorem nj_neF {a b : Int} (hr : (-2147483648 ≤ a ∧ a ≤ 2147483647) ∧ (-2147483648 ≤ b ∧ b ≤ 2147483647)) (h : Int32.ofInt a = Int32.ofInt b) : a = b := (nj_eq hr).mp h
theorem nj_ltT {a b : Int} (hr : (-2147483648 ≤ a ∧ a ≤ 2147483647) ∧ (-2147483648 ≤ b ∧ b ≤ 2147483647)) (h : Int32.ofInt a < Int32.ofInt b) : a < b := (nj_lt hr).mp h
theorem nj_ltF {a b : Int} (hr : (-2147483648 ≤ a ∧ a ≤ 2147483647) ∧ (-2147483648 ≤ b ∧ b ≤ 2147483647)) (h : ¬ Int32.ofInt a < Int32.ofInt b) : b ≤ a := by rw [nj_lt hr] at h; omega
theorem nj_geT {a b : Int} (hr : (-2147483648 ≤ a ∧ a ≤ 2147483647) ∧ (-2147483648 ≤ b ∧ b ≤ 2147483647)) (h : Int32.ofInt b ≤ Int32.ofInt a) : b ≤ a := (nj_le hr.symm).mp h
theorem nj_geF {a b : Int} (hr : (-2147483648 ≤ a ∧ a ≤ 2147483647) ∧ (-2147483648 ≤ b ∧ b ≤ 2147483647)) (h : ¬ Int32.ofInt b ≤ Int32.ofInt a) : a < b := by rw [nj_le hr.symm] at h; omega
theorem nj_gtT {a b : Int} (hr : (-2147483648 ≤ a ∧ a ≤ 2147483647) ∧ (-2147483648 ≤ b ∧ b ≤ 2147483647)) (h : Int32.ofInt b < Int32.ofInt a) : b < a := (nj_lt hr.symm).mp h
theorem nj_gtF {a b : Int} (hr : (-2147483648 ≤ a ∧ a ≤ 2147483647) ∧ (-2147483648 ≤ b ∧ b ≤ 2147483647)) (h : ¬ Int32.ofInt b < Int32.ofInt a) : a ≤ b := by rw [nj_lt hr.symm] at h; omega
theorem nj_leT {a b : Int} (hr : (-2147483648 ≤ a ∧ a ≤ 2147483647) ∧ (-2147483648 ≤ b ∧ b ≤ 2147483647)) (h : Int32.ofInt a ≤ Int32.ofInt b) : a ≤ b := (nj_le hr).mp h
theorem nj_leF {a b : Int} (hr : (-2147483648 ≤ a ∧ a ≤ 2147483647) ∧ (-2147483648 ≤ b ∧ b ≤ 2147483647)) (h : ¬ Int32.ofInt a ≤ Int32.ofInt b) : b < a := by rw [nj_le hr] at h; omega
theorem j_same {Ts : List Cond} {args : Array Value} {s : State} (hts : ∀ w ∈ Ts, w.before args s = true) {T : u_T} {kf : Nat} {ref : String} (h : (T kf).1 = ref ∨ Cond.sameField ref (T kf).1 (T kf).2.1 (T kf).2.2.1 ∈ Ts) : ∀ x, s.fieldFound? (T kf).1 (T kf).2.1 (T kf).2.2.1 = some x → s.fieldFound? ref (T kf).2.1 (T kf).2.2.1 = some x := by
  rcases h with h | h
  · intro x hx; rw [← h]; exact hx
  · exact fun x9 h9 => u_same (hts _ h) x9 h9
/-- all that stays while a method is walked -/
abbrev jX : Type := Program × Launch × Env × Room × State × MethodId × Array Value × List Frame × Method × Code × (State → Prop) × va_G × (Nat → ClassId) × (Nat → Prop) × Heap × va_W
/-- the frame of a walk: code, locals, class, words, room, numbers of the classes, cells that are only read -/
def jC (X : jX) (cc : ByteArray) (nL : Nat) (own : String) (Ts : List Cond) (rm : Room) (D : va_G) (Y : Nat → ClassId) (RO : va_W) : Prop := match X with
  | (p, l, e, R, s, m, args, below, meth, c, Q, D', Y', A, H0, RO') => (p.tables.exec = Jvm.exec ∧ c.code = cc ∧ c.maxLocals = nL ∧ s.vm.findClass own = some m.cls ∧ ∀ w ∈ Ts, w.before args s = true) ∧ va_K D vwCl (jT Y) s ∧ (∀ q : Nat, H0.size ≤ q → A q) ∧ (R = rm ∧ D' = D ∧ Y' = Y ∧ RO' = RO) ∧ va_P D vwCl RO H0 ∧ (∀ q ∈ RO, ¬ A q.1) ∧ jN s
/-- from any heap that holds the world, with these locals, at this place, with this stack, the machine comes to the end -/
def jW (X : jX) (nL k n : Nat) (ws : va_W) (lc : List (Nat × Value)) (pc : Nat) (st : List Value) : Prop := match X with
  | (p, l, e, R, s, m, args, below, meth, c, Q, D, _, A, H0, _) => ∀ (H : Heap) (locs : List Loc) (ls : Array Slot), va_P D vwCl ws H → va_D A ws → va_S A H0 H locs → lv_has ls nL lc → W p l e R s m args below meth c H locs k n Q (F0 m pc ls st)
theorem va_at_lt {D : va_G} {q : Nat × va_E} {H : Heap} (h : va_at D vwCl q H) : q.1 < H.size := va_at.lt h
/-- a cell that is there: of the world, or only read -/
theorem j_cell {D : va_G} {ws RO : va_W} {A : Nat → Prop} {H0 H : Heap} {locs : List Loc} {q : Nat × va_E} (hq : q ∈ ws ∨ q ∈ RO) (hP : va_P D vwCl ws H) (hR : va_P D vwCl RO H0) (hRA : ∀ q ∈ RO, ¬ A q.1) (hS : va_S A H0 H locs) : va_P D vwCl [q] H := by
  have hat : va_at D vwCl q H := by
    rcases hq with hq | hq
    · obtain ⟨k, hk⟩ := List.mem_iff_getElem?.mp hq
      exact hP k q hk
    · obtain ⟨k, hk⟩ := List.mem_iff_getElem?.mp hq
      have h0 := hR k q hk
      exact h0.kept (hS.2.1 q.1 h0.lt (hRA q hq))
  intro k r hr
  cases k with
  | zero => cases hr; exact hat
  | succ k => simp at hr
section JROWS
variable {X : jX} {cc : ByteArray} {nL : Nat} {own : String} {Ts : List Cond} {rm : Room} {D : va_G} {Y : Nat → ClassId} {RO : va_W} {k n : Nat} {ws : va_W} {lc : List (Nat × Value)} {pc : Nat} {st : List Value}
theorem j_iconst (C : jC X cc nL own Ts rm D Y RO) {v : Int} (hd : decode cc pc = .ok (.iconst v, 1)) (kk : jW X nL k n ws lc (pc + 1) (vI v :: st)) : jW X nL k n ws lc pc st := by
  obtain ⟨p, l, e, R, s, m, args, below, meth, c, Q, D', Y', A, H0, RO'⟩ := X
  obtain ⟨⟨hx, hb, hml, hown, hts⟩, hK, hA, ⟨rfl, rfl, rfl, rfl⟩, hR, hRA, hN⟩ := C
  intro H locs ls hP hD hS hl
  exact lv_iconst hx hb hd rfl (kk H locs ls hP hD hS hl)
theorem j_bipush (C : jC X cc nL own Ts rm D Y RO) {v w : Int} (hv : (Int8.ofInt v).toInt32 = Int32.ofInt w) (hd : decode cc pc = .ok (.bipush v, 2)) (kk : jW X nL k n ws lc (pc + 2) (vI w :: st)) : jW X nL k n ws lc pc st := by
  obtain ⟨p, l, e, R, s, m, args, below, meth, c, Q, D', Y', A, H0, RO'⟩ := X
  obtain ⟨⟨hx, hb, hml, hown, hts⟩, hK, hA, ⟨rfl, rfl, rfl, rfl⟩, hR, hRA, hN⟩ := C
  intro H locs ls hP hD hS hl
  exact lv_bipush hx hb hd hv (kk H locs ls hP hD hS hl)
theorem j_sipush (C : jC X cc nL own Ts rm D Y RO) {v w : Int} (hv : (Int16.ofInt v).toInt32 = Int32.ofInt w) (hd : decode cc pc = .ok (.sipush v, 3)) (kk : jW X nL k n ws lc (pc + 3) (vI w :: st)) : jW X nL k n ws lc pc st := by
  obtain ⟨p, l, e, R, s, m, args, below, meth, c, Q, D', Y', A, H0, RO'⟩ := X
  obtain ⟨⟨hx, hb, hml, hown, hts⟩, hK, hA, ⟨rfl, rfl, rfl, rfl⟩, hR, hRA, hN⟩ := C
  intro H locs ls hP hD hS hl
  exact lv_sipush hx hb hd hv (kk H locs ls hP hD hS hl)
theorem j_lconst (C : jC X cc nL own Ts rm D Y RO) {f : Fin 2} {w : Int} (hv : Int64.ofNat (f : Nat) = Int64.ofInt w) (hd : decode cc pc = .ok (.lconst f, 1)) (kk : jW X nL k n ws lc (pc + 1) (vL w :: st)) : jW X nL k n ws lc pc st := by
  obtain ⟨p, l, e, R, s, m, args, below, meth, c, Q, D', Y', A, H0, RO'⟩ := X
  obtain ⟨⟨hx, hb, hml, hown, hts⟩, hK, hA, ⟨rfl, rfl, rfl, rfl⟩, hR, hRA, hN⟩ := C
  intro H locs ls hP hD hS hl
  exact lv_lconst hx hb hd hv (kk H locs ls hP hD hS hl)
theorem j_ldc (C : jC X cc nL own Ts rm D Y RO) {index : Nat} {w : Int} (hc : Cond.constant own index (Int32.ofInt w) ∈ Ts) (hd : decode cc pc = .ok (.ldc index, 2)) (kk : jW X nL k n ws lc (pc + 2) (vI w :: st)) : jW X nL k n ws lc pc st := by
  obtain ⟨p, l, e, R, s, m, args, below, meth, c, Q, D', Y', A, H0, RO'⟩ := X
  obtain ⟨⟨hx, hb, hml, hown, hts⟩, hK, hA, ⟨rfl, rfl, rfl, rfl⟩, hR, hRA, hN⟩ := C
  intro H locs ls hP hD hS hl
  exact lv_ldc hx hb hown (hts _ hc) hd (kk H locs ls hP hD hS hl)
theorem j_ldc2 (C : jC X cc nL own Ts rm D Y RO) {index : Nat} {w : Int} (hc : Cond.constantLong own index (Int64.ofInt w) ∈ Ts) (hd : decode cc pc = .ok (.ldc2_w index, 3)) (kk : jW X nL k n ws lc (pc + 3) (vL w :: st)) : jW X nL k n ws lc pc st := by
  obtain ⟨p, l, e, R, s, m, args, below, meth, c, Q, D', Y', A, H0, RO'⟩ := X
  obtain ⟨⟨hx, hb, hml, hown, hts⟩, hK, hA, ⟨rfl, rfl, rfl, rfl⟩, hR, hRA, hN⟩ := C
  intro H locs ls hP hD hS hl
  exact lv_ldc2 hx hb hown (hts _ hc) hd (kk H locs ls hP hD hS hl)
theorem j_null (C : jC X cc nL own Ts rm D Y RO)  (hd : decode cc pc = .ok (.aconst_null, 1)) (kk : jW X nL k n ws lc (pc + 1) (.null :: st)) : jW X nL k n ws lc pc st := by
  obtain ⟨p, l, e, R, s, m, args, below, meth, c, Q, D', Y', A, H0, RO'⟩ := X
  obtain ⟨⟨hx, hb, hml, hown, hts⟩, hK, hA, ⟨rfl, rfl, rfl, rfl⟩, hR, hRA, hN⟩ := C
  intro H locs ls hP hD hS hl
  exact lv_null hx hb hd (kk H locs ls hP hD hS hl)
theorem j_iload_n (C : jC X cc nL own Ts rm D Y RO) {a : Int} {f : Fin 4} (i q : Nat) (hi : (f : Nat) = i) (hq : lc[q]? = some (i, (vI a))) (hd : decode cc pc = .ok (.iload_n f, 1)) (kk : jW X nL k n ws lc (pc + 1) ((vI a) :: st)) : jW X nL k n ws lc pc st := by
  obtain ⟨p, l, e, R, s, m, args, below, meth, c, Q, D', Y', A, H0, RO'⟩ := X
  obtain ⟨⟨hx, hb, hml, hown, hts⟩, hK, hA, ⟨rfl, rfl, rfl, rfl⟩, hR, hRA, hN⟩ := C
  intro H locs ls hP hD hS hl
  exact lv_iload_n hx hb hd hi (lv_at hl q hq) (kk H locs ls hP hD hS hl)
theorem j_iload (C : jC X cc nL own Ts rm D Y RO) {a : Int} {i : Nat} (q : Nat) (hq : lc[q]? = some (i, (vI a))) (hd : decode cc pc = .ok (.iload i, 2)) (kk : jW X nL k n ws lc (pc + 2) ((vI a) :: st)) : jW X nL k n ws lc pc st := by
  obtain ⟨p, l, e, R, s, m, args, below, meth, c, Q, D', Y', A, H0, RO'⟩ := X
  obtain ⟨⟨hx, hb, hml, hown, hts⟩, hK, hA, ⟨rfl, rfl, rfl, rfl⟩, hR, hRA, hN⟩ := C
  intro H locs ls hP hD hS hl
  exact lv_iload hx hb hd (lv_at hl q hq) (kk H locs ls hP hD hS hl)
theorem j_lload_n (C : jC X cc nL own Ts rm D Y RO) {a : Int} {f : Fin 4} (i q : Nat) (hi : (f : Nat) = i) (hq : lc[q]? = some (i, (vL a))) (hd : decode cc pc = .ok (.lload_n f, 1)) (kk : jW X nL k n ws lc (pc + 1) ((vL a) :: st)) : jW X nL k n ws lc pc st := by
  obtain ⟨p, l, e, R, s, m, args, below, meth, c, Q, D', Y', A, H0, RO'⟩ := X
  obtain ⟨⟨hx, hb, hml, hown, hts⟩, hK, hA, ⟨rfl, rfl, rfl, rfl⟩, hR, hRA, hN⟩ := C
  intro H locs ls hP hD hS hl
  exact lv_lload_n hx hb hd hi (lv_at hl q hq) (kk H locs ls hP hD hS hl)
theorem j_lload (C : jC X cc nL own Ts rm D Y RO) {a : Int} {i : Nat} (q : Nat) (hq : lc[q]? = some (i, (vL a))) (hd : decode cc pc = .ok (.lload i, 2)) (kk : jW X nL k n ws lc (pc + 2) ((vL a) :: st)) : jW X nL k n ws lc pc st := by
  obtain ⟨p, l, e, R, s, m, args, below, meth, c, Q, D', Y', A, H0, RO'⟩ := X
  obtain ⟨⟨hx, hb, hml, hown, hts⟩, hK, hA, ⟨rfl, rfl, rfl, rfl⟩, hR, hRA, hN⟩ := C
  intro H locs ls hP hD hS hl
  exact lv_lload hx hb hd (lv_at hl q hq) (kk H locs ls hP hD hS hl)
theorem j_aload_n (C : jC X cc nL own Ts rm D Y RO) {a : Nat} {f : Fin 4} (i q : Nat) (hi : (f : Nat) = i) (hq : lc[q]? = some (i, (.ref a))) (hd : decode cc pc = .ok (.aload_n f, 1)) (kk : jW X nL k n ws lc (pc + 1) ((.ref a) :: st)) : jW X nL k n ws lc pc st := by
  obtain ⟨p, l, e, R, s, m, args, below, meth, c, Q, D', Y', A, H0, RO'⟩ := X
  obtain ⟨⟨hx, hb, hml, hown, hts⟩, hK, hA, ⟨rfl, rfl, rfl, rfl⟩, hR, hRA, hN⟩ := C
  intro H locs ls hP hD hS hl
  exact lv_aload_n hx hb hd hi (lv_at hl q hq) (kk H locs ls hP hD hS hl)
theorem j_aload (C : jC X cc nL own Ts rm D Y RO) {a : Nat} {i : Nat} (q : Nat) (hq : lc[q]? = some (i, (.ref a))) (hd : decode cc pc = .ok (.aload i, 2)) (kk : jW X nL k n ws lc (pc + 2) ((.ref a) :: st)) : jW X nL k n ws lc pc st := by
  obtain ⟨p, l, e, R, s, m, args, below, meth, c, Q, D', Y', A, H0, RO'⟩ := X
  obtain ⟨⟨hx, hb, hml, hown, hts⟩, hK, hA, ⟨rfl, rfl, rfl, rfl⟩, hR, hRA, hN⟩ := C
  intro H locs ls hP hD hS hl
  exact lv_aload hx hb hd (lv_at hl q hq) (kk H locs ls hP hD hS hl)
theorem j_aload_nN (C : jC X cc nL own Ts rm D Y RO) {f : Fin 4} (i q : Nat) (hi : (f : Nat) = i) (hq : lc[q]? = some (i, .null)) (hd : decode cc pc = .ok (.aload_n f, 1)) (kk : jW X nL k n ws lc (pc + 1) (.null :: st)) : jW X nL k n ws lc pc st := by
  obtain ⟨p, l, e, R, s, m, args, below, meth, c, Q, D', Y', A, H0, RO'⟩ := X
  obtain ⟨⟨hx, hb, hml, hown, hts⟩, hK, hA, ⟨rfl, rfl, rfl, rfl⟩, hR, hRA, hN⟩ := C
  intro H locs ls hP hD hS hl
  exact lv_aload_nN hx hb hd hi (lv_at hl q hq) (kk H locs ls hP hD hS hl)
theorem j_aloadN (C : jC X cc nL own Ts rm D Y RO) {i : Nat} (q : Nat) (hq : lc[q]? = some (i, .null)) (hd : decode cc pc = .ok (.aload i, 2)) (kk : jW X nL k n ws lc (pc + 2) (.null :: st)) : jW X nL k n ws lc pc st := by
  obtain ⟨p, l, e, R, s, m, args, below, meth, c, Q, D', Y', A, H0, RO'⟩ := X
  obtain ⟨⟨hx, hb, hml, hown, hts⟩, hK, hA, ⟨rfl, rfl, rfl, rfl⟩, hR, hRA, hN⟩ := C
  intro H locs ls hP hD hS hl
  exact lv_aloadN hx hb hd (lv_at hl q hq) (kk H locs ls hP hD hS hl)
theorem j_istore_n (C : jC X cc nL own Ts rm D Y RO) {a : Int} {f : Fin 4} {lc' : List (Nat × Value)} (i : Nat) (hi : (f : Nat) = i) (hn : i < nL) (hl' : (i, (vI a)) :: lc.filter (fun q => !(q.1 == i) && !(q.1 + 1 == i && q.2.category == 2)) = lc') (hd : decode cc pc = .ok (.istore_n f, 1)) (kk : jW X nL k n ws lc' (pc + 1) st) : jW X nL k n ws lc pc ((vI a) :: st) := by
  obtain ⟨p, l, e, R, s, m, args, below, meth, c, Q, D', Y', A, H0, RO'⟩ := X
  obtain ⟨⟨hx, hb, hml, hown, hts⟩, hK, hA, ⟨rfl, rfl, rfl, rfl⟩, hR, hRA, hN⟩ := C
  intro H locs ls hP hD hS hl
  exact lv_istore_n hx hb hd hi hl hn hl' (fun ls hl => kk H locs ls hP hD hS hl)
theorem j_istore (C : jC X cc nL own Ts rm D Y RO) {a : Int} {i : Nat} {lc' : List (Nat × Value)} (hn : i < nL) (hl' : (i, (vI a)) :: lc.filter (fun q => !(q.1 == i) && !(q.1 + 1 == i && q.2.category == 2)) = lc') (hd : decode cc pc = .ok (.istore i, 2)) (kk : jW X nL k n ws lc' (pc + 2) st) : jW X nL k n ws lc pc ((vI a) :: st) := by
  obtain ⟨p, l, e, R, s, m, args, below, meth, c, Q, D', Y', A, H0, RO'⟩ := X
  obtain ⟨⟨hx, hb, hml, hown, hts⟩, hK, hA, ⟨rfl, rfl, rfl, rfl⟩, hR, hRA, hN⟩ := C
  intro H locs ls hP hD hS hl
  exact lv_istore hx hb hd hl hn hl' (fun ls hl => kk H locs ls hP hD hS hl)
theorem j_astore_n (C : jC X cc nL own Ts rm D Y RO) {a : Nat} {f : Fin 4} {lc' : List (Nat × Value)} (i : Nat) (hi : (f : Nat) = i) (hn : i < nL) (hl' : (i, (.ref a)) :: lc.filter (fun q => !(q.1 == i) && !(q.1 + 1 == i && q.2.category == 2)) = lc') (hd : decode cc pc = .ok (.astore_n f, 1)) (kk : jW X nL k n ws lc' (pc + 1) st) : jW X nL k n ws lc pc ((.ref a) :: st) := by
  obtain ⟨p, l, e, R, s, m, args, below, meth, c, Q, D', Y', A, H0, RO'⟩ := X
  obtain ⟨⟨hx, hb, hml, hown, hts⟩, hK, hA, ⟨rfl, rfl, rfl, rfl⟩, hR, hRA, hN⟩ := C
  intro H locs ls hP hD hS hl
  exact lv_astore_n hx hb hd hi hl hn hl' (fun ls hl => kk H locs ls hP hD hS hl)
theorem j_astore (C : jC X cc nL own Ts rm D Y RO) {a : Nat} {i : Nat} {lc' : List (Nat × Value)} (hn : i < nL) (hl' : (i, (.ref a)) :: lc.filter (fun q => !(q.1 == i) && !(q.1 + 1 == i && q.2.category == 2)) = lc') (hd : decode cc pc = .ok (.astore i, 2)) (kk : jW X nL k n ws lc' (pc + 2) st) : jW X nL k n ws lc pc ((.ref a) :: st) := by
  obtain ⟨p, l, e, R, s, m, args, below, meth, c, Q, D', Y', A, H0, RO'⟩ := X
  obtain ⟨⟨hx, hb, hml, hown, hts⟩, hK, hA, ⟨rfl, rfl, rfl, rfl⟩, hR, hRA, hN⟩ := C
  intro H locs ls hP hD hS hl
  exact lv_astore hx hb hd hl hn hl' (fun ls hl => kk H locs ls hP hD hS hl)
theorem j_lstore_n (C : jC X cc nL own Ts rm D Y RO) {a : Int} {f : Fin 4} {lc' : List (Nat × Value)} (i : Nat) (hi : (f : Nat) = i) (hn : i + 1 < nL) (hl' : (i, vL a) :: lc.filter (fun q => !(q.1 == i) && (!(q.1 == i + 1) && !(q.1 + 1 == i && q.2.category == 2))) = lc') (hd : decode cc pc = .ok (.lstore_n f, 1)) (kk : jW X nL k n ws lc' (pc + 1) st) : jW X nL k n ws lc pc (vL a :: st) := by
  obtain ⟨p, l, e, R, s, m, args, below, meth, c, Q, D', Y', A, H0, RO'⟩ := X
  obtain ⟨⟨hx, hb, hml, hown, hts⟩, hK, hA, ⟨rfl, rfl, rfl, rfl⟩, hR, hRA, hN⟩ := C
  intro H locs ls hP hD hS hl
  exact lv_lstore_n hx hb hd hi hl hn hl' (fun ls hl => kk H locs ls hP hD hS hl)
theorem j_lstore (C : jC X cc nL own Ts rm D Y RO) {a : Int} {lc' : List (Nat × Value)} {i : Nat} (hn : i + 1 < nL) (hl' : (i, vL a) :: lc.filter (fun q => !(q.1 == i) && (!(q.1 == i + 1) && !(q.1 + 1 == i && q.2.category == 2))) = lc') (hd : decode cc pc = .ok (.lstore i, 2)) (kk : jW X nL k n ws lc' (pc + 2) st) : jW X nL k n ws lc pc (vL a :: st) := by
  obtain ⟨p, l, e, R, s, m, args, below, meth, c, Q, D', Y', A, H0, RO'⟩ := X
  obtain ⟨⟨hx, hb, hml, hown, hts⟩, hK, hA, ⟨rfl, rfl, rfl, rfl⟩, hR, hRA, hN⟩ := C
  intro H locs ls hP hD hS hl
  exact lv_lstore hx hb hd hl hn hl' (fun ls hl => kk H locs ls hP hD hS hl)
theorem j_iadd (C : jC X cc nL own Ts rm D Y RO) {a b : Int} (hd : decode cc pc = .ok (.iadd, 1)) (kk : jW X nL k n ws lc (pc + 1) (vI (a + b) :: st)) : jW X nL k n ws lc pc (vI b :: vI a :: st) := by
  obtain ⟨p, l, e, R, s, m, args, below, meth, c, Q, D', Y', A, H0, RO'⟩ := X
  obtain ⟨⟨hx, hb, hml, hown, hts⟩, hK, hA, ⟨rfl, rfl, rfl, rfl⟩, hR, hRA, hN⟩ := C
  intro H locs ls hP hD hS hl
  exact lv_iadd hx hb hd (by rw [← Int32.ofInt_add]; exact (kk H locs ls hP hD hS hl))
theorem j_ladd (C : jC X cc nL own Ts rm D Y RO) {a b : Int} (hd : decode cc pc = .ok (.ladd, 1)) (kk : jW X nL k n ws lc (pc + 1) (vL (a + b) :: st)) : jW X nL k n ws lc pc (vL b :: vL a :: st) := by
  obtain ⟨p, l, e, R, s, m, args, below, meth, c, Q, D', Y', A, H0, RO'⟩ := X
  obtain ⟨⟨hx, hb, hml, hown, hts⟩, hK, hA, ⟨rfl, rfl, rfl, rfl⟩, hR, hRA, hN⟩ := C
  intro H locs ls hP hD hS hl
  exact lv_ladd hx hb hd (by rw [← Int64.ofInt_add]; exact (kk H locs ls hP hD hS hl))
theorem j_isub (C : jC X cc nL own Ts rm D Y RO) {a b : Int} (hd : decode cc pc = .ok (.isub, 1)) (kk : jW X nL k n ws lc (pc + 1) (vI (a - b) :: st)) : jW X nL k n ws lc pc (vI b :: vI a :: st) := by
  obtain ⟨p, l, e, R, s, m, args, below, meth, c, Q, D', Y', A, H0, RO'⟩ := X
  obtain ⟨⟨hx, hb, hml, hown, hts⟩, hK, hA, ⟨rfl, rfl, rfl, rfl⟩, hR, hRA, hN⟩ := C
  intro H locs ls hP hD hS hl
  exact lv_isub hx hb hd (by rw [← Int32.ofInt_sub]; exact (kk H locs ls hP hD hS hl))
theorem j_lsub (C : jC X cc nL own Ts rm D Y RO) {a b : Int} (hd : decode cc pc = .ok (.lsub, 1)) (kk : jW X nL k n ws lc (pc + 1) (vL (a - b) :: st)) : jW X nL k n ws lc pc (vL b :: vL a :: st) := by
  obtain ⟨p, l, e, R, s, m, args, below, meth, c, Q, D', Y', A, H0, RO'⟩ := X
  obtain ⟨⟨hx, hb, hml, hown, hts⟩, hK, hA, ⟨rfl, rfl, rfl, rfl⟩, hR, hRA, hN⟩ := C
  intro H locs ls hP hD hS hl
  exact lv_lsub hx hb hd (by rw [← Int64.ofInt_sub]; exact (kk H locs ls hP hD hS hl))
theorem j_imul (C : jC X cc nL own Ts rm D Y RO) {a b : Int} (hd : decode cc pc = .ok (.imul, 1)) (kk : jW X nL k n ws lc (pc + 1) (vI (a * b) :: st)) : jW X nL k n ws lc pc (vI b :: vI a :: st) := by
  obtain ⟨p, l, e, R, s, m, args, below, meth, c, Q, D', Y', A, H0, RO'⟩ := X
  obtain ⟨⟨hx, hb, hml, hown, hts⟩, hK, hA, ⟨rfl, rfl, rfl, rfl⟩, hR, hRA, hN⟩ := C
  intro H locs ls hP hD hS hl
  exact lv_imul hx hb hd (by rw [← Int32.ofInt_mul]; exact (kk H locs ls hP hD hS hl))
theorem j_lmul (C : jC X cc nL own Ts rm D Y RO) {a b : Int} (hd : decode cc pc = .ok (.lmul, 1)) (kk : jW X nL k n ws lc (pc + 1) (vL (a * b) :: st)) : jW X nL k n ws lc pc (vL b :: vL a :: st) := by
  obtain ⟨p, l, e, R, s, m, args, below, meth, c, Q, D', Y', A, H0, RO'⟩ := X
  obtain ⟨⟨hx, hb, hml, hown, hts⟩, hK, hA, ⟨rfl, rfl, rfl, rfl⟩, hR, hRA, hN⟩ := C
  intro H locs ls hP hD hS hl
  exact lv_lmul hx hb hd (by rw [← Int64.ofInt_mul]; exact (kk H locs ls hP hD hS hl))
theorem j_ineg (C : jC X cc nL own Ts rm D Y RO) {a : Int} (hd : decode cc pc = .ok (.ineg, 1)) (kk : jW X nL k n ws lc (pc + 1) (vI (-a) :: st)) : jW X nL k n ws lc pc (vI a :: st) := by
  obtain ⟨p, l, e, R, s, m, args, below, meth, c, Q, D', Y', A, H0, RO'⟩ := X
  obtain ⟨⟨hx, hb, hml, hown, hts⟩, hK, hA, ⟨rfl, rfl, rfl, rfl⟩, hR, hRA, hN⟩ := C
  intro H locs ls hP hD hS hl
  exact lv_ineg hx hb hd (by rw [← Int32.ofInt_neg]; exact (kk H locs ls hP hD hS hl))
theorem j_idiv (C : jC X cc nL own Ts rm D Y RO) {a b : Int} (h : 0 ≤ a ∧ a ≤ 2147483647 ∧ 0 < b ∧ b ≤ 2147483647) (hd : decode cc pc = .ok (.idiv, 1)) (kk : jW X nL k n ws lc (pc + 1) (vI (a / b) :: st)) : jW X nL k n ws lc pc (vI b :: vI a :: st) := by
  obtain ⟨p, l, e, R, s, m, args, below, meth, c, Q, D', Y', A, H0, RO'⟩ := X
  obtain ⟨⟨hx, hb, hml, hown, hts⟩, hK, hA, ⟨rfl, rfl, rfl, rfl⟩, hR, hRA, hN⟩ := C
  intro H locs ls hP hD hS hl
  exact lv_idiv hx hb hd (nj_nz32 (by omega)) (by rw [nj_div h]; exact (kk H locs ls hP hD hS hl))
theorem j_irem (C : jC X cc nL own Ts rm D Y RO) {a b : Int} (h : 0 ≤ a ∧ a ≤ 2147483647 ∧ 0 < b ∧ b ≤ 2147483647) (hd : decode cc pc = .ok (.irem, 1)) (kk : jW X nL k n ws lc (pc + 1) (vI (a % b) :: st)) : jW X nL k n ws lc pc (vI b :: vI a :: st) := by
  obtain ⟨p, l, e, R, s, m, args, below, meth, c, Q, D', Y', A, H0, RO'⟩ := X
  obtain ⟨⟨hx, hb, hml, hown, hts⟩, hK, hA, ⟨rfl, rfl, rfl, rfl⟩, hR, hRA, hN⟩ := C
  intro H locs ls hP hD hS hl
  exact lv_irem hx hb hd (nj_nz32 (by omega)) (by rw [nj_rem h]; exact (kk H locs ls hP hD hS hl))
theorem j_ldiv (C : jC X cc nL own Ts rm D Y RO) {a b : Int} (h : 0 ≤ a ∧ a ≤ 9223372036854775807 ∧ 0 < b ∧ b ≤ 9223372036854775807) (hd : decode cc pc = .ok (.ldiv, 1)) (kk : jW X nL k n ws lc (pc + 1) (vL (a / b) :: st)) : jW X nL k n ws lc pc (vL b :: vL a :: st) := by
  obtain ⟨p, l, e, R, s, m, args, below, meth, c, Q, D', Y', A, H0, RO'⟩ := X
  obtain ⟨⟨hx, hb, hml, hown, hts⟩, hK, hA, ⟨rfl, rfl, rfl, rfl⟩, hR, hRA, hN⟩ := C
  intro H locs ls hP hD hS hl
  exact lv_ldiv hx hb hd (nj_nz64 (by omega)) (by rw [nj_ldiv h]; exact (kk H locs ls hP hD hS hl))
theorem j_lrem (C : jC X cc nL own Ts rm D Y RO) {a b : Int} (h : 0 ≤ a ∧ a ≤ 9223372036854775807 ∧ 0 < b ∧ b ≤ 9223372036854775807) (hd : decode cc pc = .ok (.lrem, 1)) (kk : jW X nL k n ws lc (pc + 1) (vL (a % b) :: st)) : jW X nL k n ws lc pc (vL b :: vL a :: st) := by
  obtain ⟨p, l, e, R, s, m, args, below, meth, c, Q, D', Y', A, H0, RO'⟩ := X
  obtain ⟨⟨hx, hb, hml, hown, hts⟩, hK, hA, ⟨rfl, rfl, rfl, rfl⟩, hR, hRA, hN⟩ := C
  intro H locs ls hP hD hS hl
  exact lv_lrem hx hb hd (nj_nz64 (by omega)) (by rw [nj_lrem h]; exact (kk H locs ls hP hD hS hl))
theorem j_i2l (C : jC X cc nL own Ts rm D Y RO) {a : Int} (h : -2147483648 ≤ a ∧ a ≤ 2147483647) (hd : decode cc pc = .ok (.i2l, 1)) (kk : jW X nL k n ws lc (pc + 1) (vL a :: st)) : jW X nL k n ws lc pc (vI a :: st) := by
  obtain ⟨p, l, e, R, s, m, args, below, meth, c, Q, D', Y', A, H0, RO'⟩ := X
  obtain ⟨⟨hx, hb, hml, hown, hts⟩, hK, hA, ⟨rfl, rfl, rfl, rfl⟩, hR, hRA, hN⟩ := C
  intro H locs ls hP hD hS hl
  exact lv_i2l hx hb hd (nj_i2l h) (kk H locs ls hP hD hS hl)
theorem j_l2i (C : jC X cc nL own Ts rm D Y RO) {a : Int} (hd : decode cc pc = .ok (.l2i, 1)) (kk : jW X nL k n ws lc (pc + 1) (vI a :: st)) : jW X nL k n ws lc pc (vL a :: st) := by
  obtain ⟨p, l, e, R, s, m, args, below, meth, c, Q, D', Y', A, H0, RO'⟩ := X
  obtain ⟨⟨hx, hb, hml, hown, hts⟩, hK, hA, ⟨rfl, rfl, rfl, rfl⟩, hR, hRA, hN⟩ := C
  intro H locs ls hP hD hS hl
  exact lv_l2i hx hb hd Int64.toInt32_ofInt (kk H locs ls hP hD hS hl)
theorem j_dup (C : jC X cc nL own Ts rm D Y RO) {v : Value} (hv : v.category = 1) (hd : decode cc pc = .ok (.dup, 1)) (kk : jW X nL k n ws lc (pc + 1) (v :: v :: st)) : jW X nL k n ws lc pc (v :: st) := by
  obtain ⟨p, l, e, R, s, m, args, below, meth, c, Q, D', Y', A, H0, RO'⟩ := X
  obtain ⟨⟨hx, hb, hml, hown, hts⟩, hK, hA, ⟨rfl, rfl, rfl, rfl⟩, hR, hRA, hN⟩ := C
  intro H locs ls hP hD hS hl
  exact lv_dup hx hb hd hv (kk H locs ls hP hD hS hl)
theorem j_dup2 (C : jC X cc nL own Ts rm D Y RO) {v w : Value} (hv : v.category = 1) (hw : w.category = 1) (hd : decode cc pc = .ok (.dup2, 1)) (kk : jW X nL k n ws lc (pc + 1) (v :: w :: v :: w :: st)) : jW X nL k n ws lc pc (v :: w :: st) := by
  obtain ⟨p, l, e, R, s, m, args, below, meth, c, Q, D', Y', A, H0, RO'⟩ := X
  obtain ⟨⟨hx, hb, hml, hown, hts⟩, hK, hA, ⟨rfl, rfl, rfl, rfl⟩, hR, hRA, hN⟩ := C
  intro H locs ls hP hD hS hl
  exact lv_dup2_11 hx hb hd hv hw (kk H locs ls hP hD hS hl)
theorem j_iand (C : jC X cc nL own Ts rm D Y RO) {a b : Int} (hd : decode cc pc = .ok (.iand, 1)) (kk : jW X nL k n ws lc (pc + 1) (vI (andI a b) :: st)) : jW X nL k n ws lc pc (vI b :: vI a :: st) := by
  obtain ⟨p, l, e, R, s, m, args, below, meth, c, Q, D', Y', A, H0, RO'⟩ := X
  obtain ⟨⟨hx, hb, hml, hown, hts⟩, hK, hA, ⟨rfl, rfl, rfl, rfl⟩, hR, hRA, hN⟩ := C
  intro H locs ls hP hD hS hl
  exact lv_iand hx hb hd (by rw [show Int32.ofInt a &&& Int32.ofInt b = Int32.ofInt (andI a b) from (Int32.ofInt_toInt _).symm]; exact (kk H locs ls hP hD hS hl))
theorem j_ior (C : jC X cc nL own Ts rm D Y RO) {a b : Int} (hd : decode cc pc = .ok (.ior, 1)) (kk : jW X nL k n ws lc (pc + 1) (vI (orI a b) :: st)) : jW X nL k n ws lc pc (vI b :: vI a :: st) := by
  obtain ⟨p, l, e, R, s, m, args, below, meth, c, Q, D', Y', A, H0, RO'⟩ := X
  obtain ⟨⟨hx, hb, hml, hown, hts⟩, hK, hA, ⟨rfl, rfl, rfl, rfl⟩, hR, hRA, hN⟩ := C
  intro H locs ls hP hD hS hl
  exact lv_ior hx hb hd (by rw [show Int32.ofInt a ||| Int32.ofInt b = Int32.ofInt (orI a b) from (Int32.ofInt_toInt _).symm]; exact (kk H locs ls hP hD hS hl))
theorem j_ishl (C : jC X cc nL own Ts rm D Y RO) {a b : Int} (hd : decode cc pc = .ok (.ishl, 1)) (kk : jW X nL k n ws lc (pc + 1) (vI (shlI a b) :: st)) : jW X nL k n ws lc pc (vI b :: vI a :: st) := by
  obtain ⟨p, l, e, R, s, m, args, below, meth, c, Q, D', Y', A, H0, RO'⟩ := X
  obtain ⟨⟨hx, hb, hml, hown, hts⟩, hK, hA, ⟨rfl, rfl, rfl, rfl⟩, hR, hRA, hN⟩ := C
  intro H locs ls hP hD hS hl
  exact lv_ishl hx hb hd (by rw [show Int32.ofInt a <<< (Int32.ofInt b &&& 31) = Int32.ofInt (shlI a b) from (Int32.ofInt_toInt _).symm]; exact (kk H locs ls hP hD hS hl))
theorem j_ishr (C : jC X cc nL own Ts rm D Y RO) {a b : Int} (hd : decode cc pc = .ok (.ishr, 1)) (kk : jW X nL k n ws lc (pc + 1) (vI (shrI a b) :: st)) : jW X nL k n ws lc pc (vI b :: vI a :: st) := by
  obtain ⟨p, l, e, R, s, m, args, below, meth, c, Q, D', Y', A, H0, RO'⟩ := X
  obtain ⟨⟨hx, hb, hml, hown, hts⟩, hK, hA, ⟨rfl, rfl, rfl, rfl⟩, hR, hRA, hN⟩ := C
  intro H locs ls hP hD hS hl
  exact lv_ishr hx hb hd (by rw [show Int32.ofInt a >>> (Int32.ofInt b &&& 31) = Int32.ofInt (shrI a b) from (Int32.ofInt_toInt _).symm]; exact (kk H locs ls hP hD hS hl))
theorem j_i2b (C : jC X cc nL own Ts rm D Y RO) {a : Int} (hd : decode cc pc = .ok (.i2b, 1)) (kk : jW X nL k n ws lc (pc + 1) (vI (i2bI a) :: st)) : jW X nL k n ws lc pc (vI a :: st) := by
  obtain ⟨p, l, e, R, s, m, args, below, meth, c, Q, D', Y', A, H0, RO'⟩ := X
  obtain ⟨⟨hx, hb, hml, hown, hts⟩, hK, hA, ⟨rfl, rfl, rfl, rfl⟩, hR, hRA, hN⟩ := C
  intro H locs ls hP hD hS hl
  exact lv_i2b hx hb hd (Int32.ofInt_toInt _).symm (kk H locs ls hP hD hS hl)
theorem j_land (C : jC X cc nL own Ts rm D Y RO) {a b : Int} (hd : decode cc pc = .ok (.land, 1)) (kk : jW X nL k n ws lc (pc + 1) (vL (landI a b) :: st)) : jW X nL k n ws lc pc (vL b :: vL a :: st) := by
  obtain ⟨p, l, e, R, s, m, args, below, meth, c, Q, D', Y', A, H0, RO'⟩ := X
  obtain ⟨⟨hx, hb, hml, hown, hts⟩, hK, hA, ⟨rfl, rfl, rfl, rfl⟩, hR, hRA, hN⟩ := C
  intro H locs ls hP hD hS hl
  exact lv_land hx hb hd (by rw [show Int64.ofInt a &&& Int64.ofInt b = Int64.ofInt (landI a b) from (Int64.ofInt_toInt _).symm]; exact (kk H locs ls hP hD hS hl))
theorem j_lor (C : jC X cc nL own Ts rm D Y RO) {a b : Int} (hd : decode cc pc = .ok (.lor, 1)) (kk : jW X nL k n ws lc (pc + 1) (vL (lorI a b) :: st)) : jW X nL k n ws lc pc (vL b :: vL a :: st) := by
  obtain ⟨p, l, e, R, s, m, args, below, meth, c, Q, D', Y', A, H0, RO'⟩ := X
  obtain ⟨⟨hx, hb, hml, hown, hts⟩, hK, hA, ⟨rfl, rfl, rfl, rfl⟩, hR, hRA, hN⟩ := C
  intro H locs ls hP hD hS hl
  exact lv_lor hx hb hd (by rw [show Int64.ofInt a ||| Int64.ofInt b = Int64.ofInt (lorI a b) from (Int64.ofInt_toInt _).symm]; exact (kk H locs ls hP hD hS hl))
theorem j_lushr (C : jC X cc nL own Ts rm D Y RO) {a b : Int} (hd : decode cc pc = .ok (.lushr, 1)) (kk : jW X nL k n ws lc (pc + 1) (vL (lushrI a b) :: st)) : jW X nL k n ws lc pc (vI b :: vL a :: st) := by
  obtain ⟨p, l, e, R, s, m, args, below, meth, c, Q, D', Y', A, H0, RO'⟩ := X
  obtain ⟨⟨hx, hb, hml, hown, hts⟩, hK, hA, ⟨rfl, rfl, rfl, rfl⟩, hR, hRA, hN⟩ := C
  intro H locs ls hP hD hS hl
  exact lv_lushr hx hb hd (Int64.ofInt_toInt _).symm (kk H locs ls hP hD hS hl)
theorem j_lshr (C : jC X cc nL own Ts rm D Y RO) {a b : Int} (hd : decode cc pc = .ok (.lshr, 1)) (kk : jW X nL k n ws lc (pc + 1) (vL (lshrI a b) :: st)) : jW X nL k n ws lc pc (vI b :: vL a :: st) := by
  obtain ⟨p, l, e, R, s, m, args, below, meth, c, Q, D', Y', A, H0, RO'⟩ := X
  obtain ⟨⟨hx, hb, hml, hown, hts⟩, hK, hA, ⟨rfl, rfl, rfl, rfl⟩, hR, hRA, hN⟩ := C
  intro H locs ls hP hD hS hl
  exact lv_lshr hx hb hd (Int64.ofInt_toInt _).symm (kk H locs ls hP hD hS hl)
theorem j_lshl (C : jC X cc nL own Ts rm D Y RO) {a b : Int} (hd : decode cc pc = .ok (.lshl, 1)) (kk : jW X nL k n ws lc (pc + 1) (vL (lshlI a b) :: st)) : jW X nL k n ws lc pc (vI b :: vL a :: st) := by
  obtain ⟨p, l, e, R, s, m, args, below, meth, c, Q, D', Y', A, H0, RO'⟩ := X
  obtain ⟨⟨hx, hb, hml, hown, hts⟩, hK, hA, ⟨rfl, rfl, rfl, rfl⟩, hR, hRA, hN⟩ := C
  intro H locs ls hP hD hS hl
  exact lv_lshl hx hb hd (Int64.ofInt_toInt _).symm (kk H locs ls hP hD hS hl)
theorem j_lcmp (C : jC X cc nL own Ts rm D Y RO) {a b : Int} (h : (-9223372036854775808 ≤ a ∧ a ≤ 9223372036854775807) ∧ (-9223372036854775808 ≤ b ∧ b ≤ 9223372036854775807)) (hd : decode cc pc = .ok (.lcmp, 1)) (kk : jW X nL k n ws lc (pc + 1) (vI (cmpI a b) :: st)) : jW X nL k n ws lc pc (vL b :: vL a :: st) := by
  obtain ⟨p, l, e, R, s, m, args, below, meth, c, Q, D', Y', A, H0, RO'⟩ := X
  obtain ⟨⟨hx, hb, hml, hown, hts⟩, hK, hA, ⟨rfl, rfl, rfl, rfl⟩, hR, hRA, hN⟩ := C
  intro H locs ls hP hD hS hl
  exact W.lcmp hx hb hd (by rw [nj_cmp h]; exact (kk H locs ls hP hD hS hl))
theorem j_iinc (C : jC X cc nL own Ts rm D Y RO) {i : Nat} {a d : Int} {lc' : List (Nat × Value)} (q : Nat) (hq : lc[q]? = some (i, vI a)) (hn : i < nL) (hl' : (i, vI (a + d)) :: lc.filter (fun q => !(q.1 == i) && !(q.1 + 1 == i && q.2.category == 2)) = lc') (hd : decode cc pc = .ok (.iinc i d, 3)) (kk : jW X nL k n ws lc' (pc + 3) st) : jW X nL k n ws lc pc st := by
  obtain ⟨p, l, e, R, s, m, args, below, meth, c, Q, D', Y', A, H0, RO'⟩ := X
  obtain ⟨⟨hx, hb, hml, hown, hts⟩, hK, hA, ⟨rfl, rfl, rfl, rfl⟩, hR, hRA, hN⟩ := C
  intro H locs ls hP hD hS hl
  exact lv_iinc hx hb hd hl hq (Int32.ofInt_add a d).symm hn hl' (fun ls hl => kk H locs ls hP hD hS hl)
theorem j_goto (C : jC X cc nL own Ts rm D Y RO) {off : Int} (tgt : Nat) (ht : (pc : Int) + off = (tgt : Int)) (hd : decode cc pc = .ok (.goto off, 3)) (kk : jW X nL k n ws lc tgt st) : jW X nL k n ws lc pc st := by
  obtain ⟨p, l, e, R, s, m, args, below, meth, c, Q, D', Y', A, H0, RO'⟩ := X
  obtain ⟨⟨hx, hb, hml, hown, hts⟩, hK, hA, ⟨rfl, rfl, rfl, rfl⟩, hR, hRA, hN⟩ := C
  intro H locs ls hP hD hS hl
  exact lv_goto hx hb hd ht (kk H locs ls hP hD hS hl)
theorem j_icmp_eq (C : jC X cc nL own Ts rm D Y RO) {a b off : Int} (tgt : Nat) (ht : (pc : Int) + off = (tgt : Int)) (hr : (-2147483648 ≤ a ∧ a ≤ 2147483647) ∧ (-2147483648 ≤ b ∧ b ≤ 2147483647)) (hd : decode cc pc = .ok (.if_icmp .eq off, 3)) (kt : a = b → jW X nL k n ws lc tgt st) (kf : ¬ a = b → jW X nL k n ws lc (pc + 3) st) : jW X nL k n ws lc pc (vI b :: vI a :: st) := by
  obtain ⟨p, l, e, R, s, m, args, below, meth, c, Q, D', Y', A, H0, RO'⟩ := X
  obtain ⟨⟨hx, hb, hml, hown, hts⟩, hK, hA, ⟨rfl, rfl, rfl, rfl⟩, hR, hRA, hN⟩ := C
  intro H locs ls hP hD hS hl
  exact lv_icmp_eq hx hb hd ht (fun h => kt (nj_eqT hr h) H locs ls hP hD hS hl) (fun h => kf (nj_eqF hr h) H locs ls hP hD hS hl)
theorem j_if_eq (C : jC X cc nL own Ts rm D Y RO) {a off : Int} (tgt : Nat) (ht : (pc : Int) + off = (tgt : Int)) (hr : -2147483648 ≤ a ∧ a ≤ 2147483647) (hd : decode cc pc = .ok (.ifCond .eq off, 3)) (kt : a = 0 → jW X nL k n ws lc tgt st) (kf : ¬ a = 0 → jW X nL k n ws lc (pc + 3) st) : jW X nL k n ws lc pc (vI a :: st) := by
  obtain ⟨p, l, e, R, s, m, args, below, meth, c, Q, D', Y', A, H0, RO'⟩ := X
  obtain ⟨⟨hx, hb, hml, hown, hts⟩, hK, hA, ⟨rfl, rfl, rfl, rfl⟩, hR, hRA, hN⟩ := C
  intro H locs ls hP hD hS hl
  exact lv_if_eq hx hb hd ht (fun h => kt (nj_eqT ⟨hr, by decide⟩ h) H locs ls hP hD hS hl) (fun h => kf (nj_eqF ⟨hr, by decide⟩ h) H locs ls hP hD hS hl)
theorem j_icmp_ne (C : jC X cc nL own Ts rm D Y RO) {a b off : Int} (tgt : Nat) (ht : (pc : Int) + off = (tgt : Int)) (hr : (-2147483648 ≤ a ∧ a ≤ 2147483647) ∧ (-2147483648 ≤ b ∧ b ≤ 2147483647)) (hd : decode cc pc = .ok (.if_icmp .ne off, 3)) (kt : ¬ a = b → jW X nL k n ws lc tgt st) (kf : a = b → jW X nL k n ws lc (pc + 3) st) : jW X nL k n ws lc pc (vI b :: vI a :: st) := by
  obtain ⟨p, l, e, R, s, m, args, below, meth, c, Q, D', Y', A, H0, RO'⟩ := X
  obtain ⟨⟨hx, hb, hml, hown, hts⟩, hK, hA, ⟨rfl, rfl, rfl, rfl⟩, hR, hRA, hN⟩ := C
  intro H locs ls hP hD hS hl
  exact lv_icmp_ne hx hb hd ht (fun h => kt (nj_neT hr h) H locs ls hP hD hS hl) (fun h => kf (nj_neF hr h) H locs ls hP hD hS hl)
theorem j_if_ne (C : jC X cc nL own Ts rm D Y RO) {a off : Int} (tgt : Nat) (ht : (pc : Int) + off = (tgt : Int)) (hr : -2147483648 ≤ a ∧ a ≤ 2147483647) (hd : decode cc pc = .ok (.ifCond .ne off, 3)) (kt : ¬ a = 0 → jW X nL k n ws lc tgt st) (kf : a = 0 → jW X nL k n ws lc (pc + 3) st) : jW X nL k n ws lc pc (vI a :: st) := by
  obtain ⟨p, l, e, R, s, m, args, below, meth, c, Q, D', Y', A, H0, RO'⟩ := X
  obtain ⟨⟨hx, hb, hml, hown, hts⟩, hK, hA, ⟨rfl, rfl, rfl, rfl⟩, hR, hRA, hN⟩ := C
  intro H locs ls hP hD hS hl
  exact lv_if_ne hx hb hd ht (fun h => kt (nj_neT ⟨hr, by decide⟩ h) H locs ls hP hD hS hl) (fun h => kf (nj_neF ⟨hr, by decide⟩ h) H locs ls hP hD hS hl)
theorem j_icmp_lt (C : jC X cc nL own Ts rm D Y RO) {a b off : Int} (tgt : Nat) (ht : (pc : Int) + off = (tgt : Int)) (hr : (-2147483648 ≤ a ∧ a ≤ 2147483647) ∧ (-2147483648 ≤ b ∧ b ≤ 2147483647)) (hd : decode cc pc = .ok (.if_icmp .lt off, 3)) (kt : a < b → jW X nL k n ws lc tgt st) (kf : b ≤ a → jW X nL k n ws lc (pc + 3) st) : jW X nL k n ws lc pc (vI b :: vI a :: st) := by
  obtain ⟨p, l, e, R, s, m, args, below, meth, c, Q, D', Y', A, H0, RO'⟩ := X
  obtain ⟨⟨hx, hb, hml, hown, hts⟩, hK, hA, ⟨rfl, rfl, rfl, rfl⟩, hR, hRA, hN⟩ := C
  intro H locs ls hP hD hS hl
  exact lv_icmp_lt hx hb hd ht (fun h => kt (nj_ltT hr h) H locs ls hP hD hS hl) (fun h => kf (nj_ltF hr h) H locs ls hP hD hS hl)
theorem j_if_lt (C : jC X cc nL own Ts rm D Y RO) {a off : Int} (tgt : Nat) (ht : (pc : Int) + off = (tgt : Int)) (hr : -2147483648 ≤ a ∧ a ≤ 2147483647) (hd : decode cc pc = .ok (.ifCond .lt off, 3)) (kt : a < 0 → jW X nL k n ws lc tgt st) (kf : 0 ≤ a → jW X nL k n ws lc (pc + 3) st) : jW X nL k n ws lc pc (vI a :: st) := by
  obtain ⟨p, l, e, R, s, m, args, below, meth, c, Q, D', Y', A, H0, RO'⟩ := X
  obtain ⟨⟨hx, hb, hml, hown, hts⟩, hK, hA, ⟨rfl, rfl, rfl, rfl⟩, hR, hRA, hN⟩ := C
  intro H locs ls hP hD hS hl
  exact lv_if_lt hx hb hd ht (fun h => kt (nj_ltT ⟨hr, by decide⟩ h) H locs ls hP hD hS hl) (fun h => kf (nj_ltF ⟨hr, by decide⟩ h) H locs ls hP hD hS hl)
theorem j_icmp_ge (C : jC X cc nL own Ts rm D Y RO) {a b off : Int} (tgt : Nat) (ht : (pc : Int) + off = (tgt : Int)) (hr : (-2147483648 ≤ a ∧ a ≤ 2147483647) ∧ (-2147483648 ≤ b ∧ b ≤ 2147483647)) (hd : decode cc pc = .ok (.if_icmp .ge off, 3)) (kt : b ≤ a → jW X nL k n ws lc tgt st) (kf : a < b → jW X nL k n ws lc (pc + 3) st) : jW X nL k n ws lc pc (vI b :: vI a :: st) := by
  obtain ⟨p, l, e, R, s, m, args, below, meth, c, Q, D', Y', A, H0, RO'⟩ := X
  obtain ⟨⟨hx, hb, hml, hown, hts⟩, hK, hA, ⟨rfl, rfl, rfl, rfl⟩, hR, hRA, hN⟩ := C
  intro H locs ls hP hD hS hl
  exact lv_icmp_ge hx hb hd ht (fun h => kt (nj_geT hr h) H locs ls hP hD hS hl) (fun h => kf (nj_geF hr h) H locs ls hP hD hS hl)
theorem j_if_ge (C : jC X cc nL own Ts rm D Y RO) {a off : Int} (tgt : Nat) (ht : (pc : Int) + off = (tgt : Int)) (hr : -2147483648 ≤ a ∧ a ≤ 2147483647) (hd : decode cc pc = .ok (.ifCond .ge off, 3)) (kt : 0 ≤ a → jW X nL k n ws lc tgt st) (kf : a < 0 → jW X nL k n ws lc (pc + 3) st) : jW X nL k n ws lc pc (vI a :: st) := by
  obtain ⟨p, l, e, R, s, m, args, below, meth, c, Q, D', Y', A, H0, RO'⟩ := X
  obtain ⟨⟨hx, hb, hml, hown, hts⟩, hK, hA, ⟨rfl, rfl, rfl, rfl⟩, hR, hRA, hN⟩ := C
  intro H locs ls hP hD hS hl
  exact lv_if_ge hx hb hd ht (fun h => kt (nj_geT ⟨hr, by decide⟩ h) H locs ls hP hD hS hl) (fun h => kf (nj_geF ⟨hr, by decide⟩ h) H locs ls hP hD hS hl)
theorem j_icmp_gt (C : jC X cc nL own Ts rm D Y RO) {a b off : Int} (tgt : Nat) (ht : (pc : Int) + off = (tgt : Int)) (hr : (-2147483648 ≤ a ∧ a ≤ 2147483647) ∧ (-2147483648 ≤ b ∧ b ≤ 2147483647)) (hd : decode cc pc = .ok (.if_icmp .gt off, 3)) (kt : b < a → jW X nL k n ws lc tgt st) (kf : a ≤ b → jW X nL k n ws lc (pc + 3) st) : jW X nL k n ws lc pc (vI b :: vI a :: st) := by
  obtain ⟨p, l, e, R, s, m, args, below, meth, c, Q, D', Y', A, H0, RO'⟩ := X
  obtain ⟨⟨hx, hb, hml, hown, hts⟩, hK, hA, ⟨rfl, rfl, rfl, rfl⟩, hR, hRA, hN⟩ := C
  intro H locs ls hP hD hS hl
  exact lv_icmp_gt hx hb hd ht (fun h => kt (nj_gtT hr h) H locs ls hP hD hS hl) (fun h => kf (nj_gtF hr h) H locs ls hP hD hS hl)
theorem j_if_gt (C : jC X cc nL own Ts rm D Y RO) {a off : Int} (tgt : Nat) (ht : (pc : Int) + off = (tgt : Int)) (hr : -2147483648 ≤ a ∧ a ≤ 2147483647) (hd : decode cc pc = .ok (.ifCond .gt off, 3)) (kt : 0 < a → jW X nL k n ws lc tgt st) (kf : a ≤ 0 → jW X nL k n ws lc (pc + 3) st) : jW X nL k n ws lc pc (vI a :: st) := by
  obtain ⟨p, l, e, R, s, m, args, below, meth, c, Q, D', Y', A, H0, RO'⟩ := X
  obtain ⟨⟨hx, hb, hml, hown, hts⟩, hK, hA, ⟨rfl, rfl, rfl, rfl⟩, hR, hRA, hN⟩ := C
  intro H locs ls hP hD hS hl
  exact lv_if_gt hx hb hd ht (fun h => kt (nj_gtT ⟨hr, by decide⟩ h) H locs ls hP hD hS hl) (fun h => kf (nj_gtF ⟨hr, by decide⟩ h) H locs ls hP hD hS hl)
theorem j_icmp_le (C : jC X cc nL own Ts rm D Y RO) {a b off : Int} (tgt : Nat) (ht : (pc : Int) + off = (tgt : Int)) (hr : (-2147483648 ≤ a ∧ a ≤ 2147483647) ∧ (-2147483648 ≤ b ∧ b ≤ 2147483647)) (hd : decode cc pc = .ok (.if_icmp .le off, 3)) (kt : a ≤ b → jW X nL k n ws lc tgt st) (kf : b < a → jW X nL k n ws lc (pc + 3) st) : jW X nL k n ws lc pc (vI b :: vI a :: st) := by
  obtain ⟨p, l, e, R, s, m, args, below, meth, c, Q, D', Y', A, H0, RO'⟩ := X
  obtain ⟨⟨hx, hb, hml, hown, hts⟩, hK, hA, ⟨rfl, rfl, rfl, rfl⟩, hR, hRA, hN⟩ := C
  intro H locs ls hP hD hS hl
  exact lv_icmp_le hx hb hd ht (fun h => kt (nj_leT hr h) H locs ls hP hD hS hl) (fun h => kf (nj_leF hr h) H locs ls hP hD hS hl)
theorem j_if_le (C : jC X cc nL own Ts rm D Y RO) {a off : Int} (tgt : Nat) (ht : (pc : Int) + off = (tgt : Int)) (hr : -2147483648 ≤ a ∧ a ≤ 2147483647) (hd : decode cc pc = .ok (.ifCond .le off, 3)) (kt : a ≤ 0 → jW X nL k n ws lc tgt st) (kf : 0 < a → jW X nL k n ws lc (pc + 3) st) : jW X nL k n ws lc pc (vI a :: st) := by
  obtain ⟨p, l, e, R, s, m, args, below, meth, c, Q, D', Y', A, H0, RO'⟩ := X
  obtain ⟨⟨hx, hb, hml, hown, hts⟩, hK, hA, ⟨rfl, rfl, rfl, rfl⟩, hR, hRA, hN⟩ := C
  intro H locs ls hP hD hS hl
  exact lv_if_le hx hb hd ht (fun h => kt (nj_leT ⟨hr, by decide⟩ h) H locs ls hP hD hS hl) (fun h => kf (nj_leF ⟨hr, by decide⟩ h) H locs ls hP hD hS hl)
theorem j_if_eqb (C : jC X cc nL own Ts rm D Y RO) {P : Prop} [Decidable P] {off : Int} (tgt : Nat) (ht : (pc : Int) + off = (tgt : Int)) (hd : decode cc pc = .ok (.ifCond .eq off, 3)) (kt : ¬ P → jW X nL k n ws lc tgt st) (kf : P → jW X nL k n ws lc (pc + 3) st) : jW X nL k n ws lc pc (vI (if P then 1 else 0) :: st) := by
  refine j_if_eq C tgt ht (by split <;> decide) hd (fun h => kt ?_) (fun h => kf ?_)
  · by_cases q : P <;> simp_all
  · by_cases q : P <;> simp_all
theorem j_if_neb (C : jC X cc nL own Ts rm D Y RO) {P : Prop} [Decidable P] {off : Int} (tgt : Nat) (ht : (pc : Int) + off = (tgt : Int)) (hd : decode cc pc = .ok (.ifCond .ne off, 3)) (kt : P → jW X nL k n ws lc tgt st) (kf : ¬ P → jW X nL k n ws lc (pc + 3) st) : jW X nL k n ws lc pc (vI (if P then 1 else 0) :: st) := by
  refine j_if_ne C tgt ht (by split <;> decide) hd (fun h => kt ?_) (fun h => kf ?_)
  · by_cases q : P <;> simp_all
  · by_cases q : P <;> simp_all
theorem j_ifnull (C : jC X cc nL own Ts rm D Y RO) {a : Nat} {off : Int} (hd : decode cc pc = .ok (.ifnull off, 3)) (kk : jW X nL k n ws lc (pc + 3) st) : jW X nL k n ws lc pc (.ref a :: st) := by
  obtain ⟨p, l, e, R, s, m, args, below, meth, c, Q, D', Y', A, H0, RO'⟩ := X
  obtain ⟨⟨hx, hb, hml, hown, hts⟩, hK, hA, ⟨rfl, rfl, rfl, rfl⟩, hR, hRA, hN⟩ := C
  intro H locs ls hP hD hS hl
  exact lv_ifnull hx hb hd (kk H locs ls hP hD hS hl)
theorem j_ifnonnull (C : jC X cc nL own Ts rm D Y RO) {a : Nat} {off : Int} (tgt : Nat) (ht : (pc : Int) + off = (tgt : Int)) (hd : decode cc pc = .ok (.ifnonnull off, 3)) (kk : jW X nL k n ws lc tgt st) : jW X nL k n ws lc pc (.ref a :: st) := by
  obtain ⟨p, l, e, R, s, m, args, below, meth, c, Q, D', Y', A, H0, RO'⟩ := X
  obtain ⟨⟨hx, hb, hml, hown, hts⟩, hK, hA, ⟨rfl, rfl, rfl, rfl⟩, hR, hRA, hN⟩ := C
  intro H locs ls hP hD hS hl
  exact lv_ifnonnull hx hb hd ht (kk H locs ls hP hD hS hl)
theorem j_ifnullN (C : jC X cc nL own Ts rm D Y RO) {off : Int} (tgt : Nat) (ht : (pc : Int) + off = (tgt : Int)) (hd : decode cc pc = .ok (.ifnull off, 3)) (kk : jW X nL k n ws lc tgt st) : jW X nL k n ws lc pc (.null :: st) := by
  obtain ⟨p, l, e, R, s, m, args, below, meth, c, Q, D', Y', A, H0, RO'⟩ := X
  obtain ⟨⟨hx, hb, hml, hown, hts⟩, hK, hA, ⟨rfl, rfl, rfl, rfl⟩, hR, hRA, hN⟩ := C
  intro H locs ls hP hD hS hl
  exact lv_ifnullN hx hb hd ht (kk H locs ls hP hD hS hl)
theorem j_ifnonnullN (C : jC X cc nL own Ts rm D Y RO) {off : Int} (hd : decode cc pc = .ok (.ifnonnull off, 3)) (kk : jW X nL k n ws lc (pc + 3) st) : jW X nL k n ws lc pc (.null :: st) := by
  obtain ⟨p, l, e, R, s, m, args, below, meth, c, Q, D', Y', A, H0, RO'⟩ := X
  obtain ⟨⟨hx, hb, hml, hown, hts⟩, hK, hA, ⟨rfl, rfl, rfl, rfl⟩, hR, hRA, hN⟩ := C
  intro H locs ls hP hD hS hl
  exact lv_ifnonnullN hx hb hd (kk H locs ls hP hD hS hl)
theorem j_astore_nN (C : jC X cc nL own Ts rm D Y RO) {f : Fin 4} {lc' : List (Nat × Value)} (i : Nat) (hi : (f : Nat) = i) (hn : i < nL) (hl' : (i, Value.null) :: lc.filter (fun q => !(q.1 == i) && !(q.1 + 1 == i && q.2.category == 2)) = lc') (hd : decode cc pc = .ok (.astore_n f, 1)) (kk : jW X nL k n ws lc' (pc + 1) st) : jW X nL k n ws lc pc (.null :: st) := by
  obtain ⟨p, l, e, R, s, m, args, below, meth, c, Q, D', Y', A, H0, RO'⟩ := X
  obtain ⟨⟨hx, hb, hml, hown, hts⟩, hK, hA, ⟨rfl, rfl, rfl, rfl⟩, hR, hRA, hN⟩ := C
  intro H locs ls hP hD hS hl
  exact lv_astore_nN hx hb hd hi hl hn hl' (fun ls hl => kk H locs ls hP hD hS hl)
theorem j_astoreN (C : jC X cc nL own Ts rm D Y RO) {lc' : List (Nat × Value)} {i : Nat} (hn : i < nL) (hl' : (i, Value.null) :: lc.filter (fun q => !(q.1 == i) && !(q.1 + 1 == i && q.2.category == 2)) = lc') (hd : decode cc pc = .ok (.astore i, 2)) (kk : jW X nL k n ws lc' (pc + 2) st) : jW X nL k n ws lc pc (.null :: st) := by
  obtain ⟨p, l, e, R, s, m, args, below, meth, c, Q, D', Y', A, H0, RO'⟩ := X
  obtain ⟨⟨hx, hb, hml, hown, hts⟩, hK, hA, ⟨rfl, rfl, rfl, rfl⟩, hR, hRA, hN⟩ := C
  intro H locs ls hP hD hS hl
  exact lv_astoreN hx hb hd hl hn hl' (fun ls hl => kk H locs ls hP hD hS hl)
theorem j_tableC (C : jC X cc nL own Ts rm D Y RO) {dflt lo hi a : Int} {offs : Array Int} {len : Nat} {off : Int} (v : Int) (tgt : Nat) (h : a = v) (hr : (-2147483648 ≤ v ∧ v ≤ 2147483647) ∧ lo ≤ v ∧ v ≤ hi) (ho : offs[(v - lo).toNat]? = some off) (ht : (pc : Int) + off = (tgt : Int)) (hd : decode cc pc = .ok (.tableswitch dflt lo hi offs, len)) (kk : jW X nL k n ws lc tgt st) : jW X nL k n ws lc pc (vI a :: st) := by
  obtain ⟨p, l, e, R, s, m, args, below, meth, c, Q, D', Y', A, H0, RO'⟩ := X
  obtain ⟨⟨hx, hb, hml, hown, hts⟩, hK, hA, ⟨rfl, rfl, rfl, rfl⟩, hR, hRA, hN⟩ := C
  intro H locs ls hP hD hS hl
  subst h
  have e : (Int32.ofInt a).toInt = a := Int32.toInt_ofInt_of_le (by omega) (by omega)
  exact lv_tableIn hx hb hd (by rw [e]; omega) (by rw [e]; omega) (by rw [e]; exact ho) ht (kk H locs ls hP hD hS hl)
theorem j_tableD (C : jC X cc nL own Ts rm D Y RO) {dflt lo hi a : Int} {offs : Array Int} {len : Nat} (tgt : Nat) (hr : -2147483648 ≤ a ∧ a ≤ 2147483647) (h : a < lo ∨ hi < a) (ht : (pc : Int) + dflt = (tgt : Int)) (hd : decode cc pc = .ok (.tableswitch dflt lo hi offs, len)) (kk : jW X nL k n ws lc tgt st) : jW X nL k n ws lc pc (vI a :: st) := by
  obtain ⟨p, l, e, R, s, m, args, below, meth, c, Q, D', Y', A, H0, RO'⟩ := X
  obtain ⟨⟨hx, hb, hml, hown, hts⟩, hK, hA, ⟨rfl, rfl, rfl, rfl⟩, hR, hRA, hN⟩ := C
  intro H locs ls hP hD hS hl
  have e : (Int32.ofInt a).toInt = a := Int32.toInt_ofInt_of_le (by omega) (by omega)
  exact lv_tableOut hx hb hd (by rw [e]; exact h) ht (kk H locs ls hP hD hS hl)
theorem j_get (C : jC X cc nL own Ts rm D Y RO) {ci index N : Nat} {Cn ref : String} {T : u_T} {fs : List Value} {a : Nat} {v : Value} (hq : (a, oC ci fs) ∈ ws ∨ (a, oC ci fs) ∈ RO) (hc : vwCl[ci]? = some (Cn, T, N)) (hin : ∀ w ∈ u_ws Cn T N, w ∈ Ts) (kf : Nat) (hk : kf < N) (hlink : Cond.fieldLink own index ref (T kf).2.1 (T kf).2.2.1 ∈ Ts) (hsame : (T kf).1 = ref ∨ Cond.sameField ref (T kf).1 (T kf).2.1 (T kf).2.2.1 ∈ Ts) (hv : fs[kf]? = some v) (hd : decode cc pc = .ok (.getfield index, 3)) (kk : jW X nL k n ws lc (pc + 3) (v :: st)) : jW X nL k n ws lc pc (.ref a :: st) := by
  obtain ⟨p, l, e, R, s, m, args, below, meth, c, Q, D', Y', A, H0, RO'⟩ := X
  obtain ⟨⟨hx, hb, hml, hown, hts⟩, hK, hA, ⟨rfl, rfl, rfl, rfl⟩, hR, hRA, hN⟩ := C
  intro H locs ls hP hD hS hl
  exact va_get hx hb hts hin hown hK (j_cell hq hP hR hRA hS) 0 rfl hc kf hk (hts _ hlink) (j_same hts hsame) hv hd (kk H locs ls hP hD hS hl)
theorem j_put (C : jC X cc nL own Ts rm D Y RO) {ci index N : Nat} {Cn ref : String} {T : u_T} {ty0 : Nat → FieldType} {fs : List Value} {a : Nat} {v : Value} {ty : FieldType} {ws' : va_W} (q0 : Nat) (he : ws[q0]? = some (a, oC ci fs)) (hc : vwCl[ci]? = some (Cn, T, N)) (hin : ∀ w ∈ u_ws Cn T N, w ∈ Ts) (hty : ∀ k, k < N → parseFieldDescriptor (T k).2.2.1 = some (ty0 k)) (hnm : ∀ a, a < N → ∀ b, b < N → a ≠ b → (T a).2.1 ≠ (T b).2.1) (kf : Nat) (hk : kf < N) (hlink : Cond.fieldLink own index ref (T kf).2.1 (T kf).2.2.1 ∈ Ts) (hsame : (T kf).1 = ref ∨ Cond.sameField ref (T kf).1 (T kf).2.1 (T kf).2.2.1 ∈ Ts) (hfin : (T kf).2.2.2 = false) (hdd : ty0 kf = ty) (hn : narrow ty v = v) (hfit : fits ty v = true) (hl0 : kf < fs.length) (hw : ws.set q0 (a, oC ci (fs.set kf v)) = ws') (hd : decode cc pc = .ok (.putfield index, 3)) (kk : jW X nL k n ws' lc (pc + 3) st) : jW X nL k n ws lc pc (v :: .ref a :: st) := by
  obtain ⟨p, l, e, R, s, m, args, below, meth, c, Q, D', Y', A, H0, RO'⟩ := X
  obtain ⟨⟨hx, hb, hml, hown, hts⟩, hK, hA, ⟨rfl, rfl, rfl, rfl⟩, hR, hRA, hN⟩ := C
  intro H locs ls hP hD hS hl
  subst hw hdd
  exact va_put hx hb hts hin ty0 hty hnm hown hK hP hD hS q0 he hc kf hk (hts _ hlink) (j_same hts hsame) hfin (hty kf hk) hn hfit hl0 hd (fun H1 locs1 hP hD hS => kk H1 locs1 ls hP hD hS hl)
theorem j_iald (C : jC X cc nL own Ts rm D Y RO) {cA : ClassId} {m0 : Nat} {g : Int → Int} {a : Nat} {i : Int} (hq : (a, aI cA m0 g) ∈ ws ∨ (a, aI cA m0 g) ∈ RO) (hcA : cA = Y 0) (hi : 0 ≤ i ∧ i < (m0 : Int)) (hm : m0 < 2147483648) (hd : decode cc pc = .ok (.iaload, 1)) (kk : jW X nL k n ws lc (pc + 1) (vI (g i) :: st)) : jW X nL k n ws lc pc (vI i :: .ref a :: st) := by
  obtain ⟨p, l, e, R, s, m, args, below, meth, c, Q, D', Y', A, H0, RO'⟩ := X
  obtain ⟨⟨hx, hb, hml, hown, hts⟩, hK, hA, ⟨rfl, rfl, rfl, rfl⟩, hR, hRA, hN⟩ := C
  intro H locs ls hP hD hS hl
  subst hcA
  refine va_iald hx hb hK (j_cell hq hP hR hRA hS) 0 0 (cA := Y' 0) (n := m0) (f := fun k : Nat => Int32.ofInt (g (k : Int))) rfl rfl (nj_in hi hm) hd ?_
  rw [nj_to (by omega)]
  exact (kk H locs ls hP hD hS hl)
theorem j_bald (C : jC X cc nL own Ts rm D Y RO) {cA : ClassId} {m0 : Nat} {g : Int → Int} {a : Nat} {i : Int} (hq : (a, aI cA m0 g) ∈ ws ∨ (a, aI cA m0 g) ∈ RO) (hcA : cA = Y 1) (hi : 0 ≤ i ∧ i < (m0 : Int)) (hm : m0 < 2147483648) (hd : decode cc pc = .ok (.baload, 1)) (kk : jW X nL k n ws lc (pc + 1) (vI (g i) :: st)) : jW X nL k n ws lc pc (vI i :: .ref a :: st) := by
  obtain ⟨p, l, e, R, s, m, args, below, meth, c, Q, D', Y', A, H0, RO'⟩ := X
  obtain ⟨⟨hx, hb, hml, hown, hts⟩, hK, hA, ⟨rfl, rfl, rfl, rfl⟩, hR, hRA, hN⟩ := C
  intro H locs ls hP hD hS hl
  subst hcA
  refine va_bald hx hb hK (j_cell hq hP hR hRA hS) 0 1 (cA := Y' 1) (n := m0) (f := fun k : Nat => Int32.ofInt (g (k : Int))) rfl rfl (nj_in hi hm) hd ?_
  rw [nj_to (by omega)]
  exact (kk H locs ls hP hD hS hl)
theorem j_aaldP (C : jC X cc nL own Ts rm D Y RO) {cA : ClassId} {m0 : Nat} {g : Int → Option Nat} {a : Nat} {i : Int} (hq : (a, aQ cA m0 g) ∈ ws ∨ (a, aQ cA m0 g) ∈ RO) (hcA : cA = Y 3) (hi : 0 ≤ i ∧ i < (m0 : Int)) (hm : m0 < 2147483648) (hd : decode cc pc = .ok (.aaload, 1)) (kk : jW X nL k n ws lc (pc + 1) (va_rf (g i) :: st)) : jW X nL k n ws lc pc (vI i :: .ref a :: st) := by
  obtain ⟨p, l, e, R, s, m, args, below, meth, c, Q, D', Y', A, H0, RO'⟩ := X
  obtain ⟨⟨hx, hb, hml, hown, hts⟩, hK, hA, ⟨rfl, rfl, rfl, rfl⟩, hR, hRA, hN⟩ := C
  intro H locs ls hP hD hS hl
  subst hcA
  refine va_aldq (C := RX5) hx hb hK (j_cell hq hP hR hRA hS) 0 3 (cA := Y' 3) (n := m0) (f := fun k : Nat => g (k : Int)) rfl rfl (nj_in hi hm) hd ?_
  rw [nj_to (by omega)]
  exact (kk H locs ls hP hD hS hl)
theorem j_aaldC (C : jC X cc nL own Ts rm D Y RO) {cA : ClassId} {m0 : Nat} {g : Int → Option Nat} {a : Nat} {i : Int} (hq : (a, aQ cA m0 g) ∈ ws ∨ (a, aQ cA m0 g) ∈ RO) (hcA : cA = Y 2) (hi : 0 ≤ i ∧ i < (m0 : Int)) (hm : m0 < 2147483648) (hd : decode cc pc = .ok (.aaload, 1)) (kk : jW X nL k n ws lc (pc + 1) (va_rf (g i) :: st)) : jW X nL k n ws lc pc (vI i :: .ref a :: st) := by
  obtain ⟨p, l, e, R, s, m, args, below, meth, c, Q, D', Y', A, H0, RO'⟩ := X
  obtain ⟨⟨hx, hb, hml, hown, hts⟩, hK, hA, ⟨rfl, rfl, rfl, rfl⟩, hR, hRA, hN⟩ := C
  intro H locs ls hP hD hS hl
  subst hcA
  refine va_aldq (C := RX1) hx hb hK (j_cell hq hP hR hRA hS) 0 2 (cA := Y' 2) (n := m0) (f := fun k : Nat => g (k : Int)) rfl rfl (nj_in hi hm) hd ?_
  rw [nj_to (by omega)]
  exact (kk H locs ls hP hD hS hl)
theorem j_iast (C : jC X cc nL own Ts rm D Y RO) {cA : ClassId} {m0 : Nat} {g : Int → Int} {a : Nat} {i x : Int} {ws' : va_W} (q0 : Nat) (he : ws[q0]? = some (a, aI cA m0 g)) (hcA : cA = Y 0) (hi : 0 ≤ i ∧ i < (m0 : Int)) (hm : m0 < 2147483648) (hw : ws.set q0 (a, aI cA m0 (up g i x)) = ws') (hd : decode cc pc = .ok (.iastore, 1)) (kk : jW X nL k n ws' lc (pc + 1) st) : jW X nL k n ws lc pc (vI x :: vI i :: .ref a :: st) := by
  obtain ⟨p, l, e, R, s, m, args, below, meth, c, Q, D', Y', A, H0, RO'⟩ := X
  obtain ⟨⟨hx, hb, hml, hown, hts⟩, hK, hA, ⟨rfl, rfl, rfl, rfl⟩, hR, hRA, hN⟩ := C
  intro H locs ls hP hD hS hl
  subst hcA hw
  refine va_iast hx hb hK hP hD hS q0 0 (cA := Y' 0) (n := m0) (f := fun k : Nat => Int32.ofInt (g (k : Int))) he rfl (nj_in hi hm) hd (fun H1 locs1 hP hD hS => ?_)
  rw [nj_up (by omega)] at hP hD
  exact kk H1 locs1 ls hP hD hS hl
theorem j_bast (C : jC X cc nL own Ts rm D Y RO) {cA : ClassId} {m0 : Nat} {g : Int → Int} {a : Nat} {i x : Int} {ws' : va_W} (q0 : Nat) (he : ws[q0]? = some (a, aI cA m0 g)) (hcA : cA = Y 1) (hi : 0 ≤ i ∧ i < (m0 : Int)) (hm : m0 < 2147483648) (hx0 : vp_nar .byte (Int32.ofInt x) = Int32.ofInt x) (hw : ws.set q0 (a, aI cA m0 (up g i x)) = ws') (hd : decode cc pc = .ok (.bastore, 1)) (kk : jW X nL k n ws' lc (pc + 1) st) : jW X nL k n ws lc pc (vI x :: vI i :: .ref a :: st) := by
  obtain ⟨p, l, e, R, s, m, args, below, meth, c, Q, D', Y', A, H0, RO'⟩ := X
  obtain ⟨⟨hx, hb, hml, hown, hts⟩, hK, hA, ⟨rfl, rfl, rfl, rfl⟩, hR, hRA, hN⟩ := C
  intro H locs ls hP hD hS hl
  subst hcA hw
  refine va_bast hx hb hK hP hD hS q0 1 (cA := Y' 1) (n := m0) (f := fun k : Nat => Int32.ofInt (g (k : Int))) he rfl (nj_in hi hm) hd (fun H1 locs1 hP hD hS => ?_)
  rw [hx0, nj_up (by omega)] at hP hD
  exact kk H1 locs1 ls hP hD hS hl
theorem j_alenI (C : jC X cc nL own Ts rm D Y RO) {cA : ClassId} {m0 : Nat} {g : Int → Int} {a : Nat} (hq : (a, aI cA m0 g) ∈ ws ∨ (a, aI cA m0 g) ∈ RO) (hcA : cA = Y 0) (hd : decode cc pc = .ok (.arraylength, 1)) (kk : jW X nL k n ws lc (pc + 1) (vI (m0 : Int) :: st)) : jW X nL k n ws lc pc (.ref a :: st) := by
  obtain ⟨p, l, e, R, s, m, args, below, meth, c, Q, D', Y', A, H0, RO'⟩ := X
  obtain ⟨⟨hx, hb, hml, hown, hts⟩, hK, hA, ⟨rfl, rfl, rfl, rfl⟩, hR, hRA, hN⟩ := C
  intro H locs ls hP hD hS hl
  subst hcA
  exact va_alen hx hb hK (j_cell hq hP hR hRA hS) 0 0 rfl rfl (show Int32.ofNat m0 = Int32.ofInt (m0 : Int) from Int32.ofInt_eq_ofNat.symm) hd (kk H locs ls hP hD hS hl)
theorem j_alenP (C : jC X cc nL own Ts rm D Y RO) {cA : ClassId} {m0 : Nat} {g : Int → Option Nat} {a : Nat} (hq : (a, aQ cA m0 g) ∈ ws ∨ (a, aQ cA m0 g) ∈ RO) (hcA : cA = Y 3) (hd : decode cc pc = .ok (.arraylength, 1)) (kk : jW X nL k n ws lc (pc + 1) (vI (m0 : Int) :: st)) : jW X nL k n ws lc pc (.ref a :: st) := by
  obtain ⟨p, l, e, R, s, m, args, below, meth, c, Q, D', Y', A, H0, RO'⟩ := X
  obtain ⟨⟨hx, hb, hml, hown, hts⟩, hK, hA, ⟨rfl, rfl, rfl, rfl⟩, hR, hRA, hN⟩ := C
  intro H locs ls hP hD hS hl
  subst hcA
  exact va_alen hx hb hK (j_cell hq hP hR hRA hS) 0 3 rfl rfl (show Int32.ofNat m0 = Int32.ofInt (m0 : Int) from Int32.ofInt_eq_ofNat.symm) hd (kk H locs ls hP hD hS hl)
theorem j_locals {lc' : List (Nat × Value)} (ks : List Nat) (h : lv_pick lc ks = lc') (kk : jW X nL k n ws lc' pc st) : jW X nL k n ws lc pc st := by
  obtain ⟨p, l, e, R, s, m, args, below, meth, c, Q, D', Y', A, H0, RO'⟩ := X
  intro H locs ls hP hD hS hl
  exact kk H locs ls hP hD hS (lv_sub hl ks h)
theorem j_st {ws' : va_W} {lc' : List (Nat × Value)} {st' : List Value} (h1 : ws = ws') (h2 : lc = lc') (h3 : st = st') (kk : jW X nL k n ws' lc' pc st') : jW X nL k n ws lc pc st := by subst h1 h2 h3; exact kk
theorem j_widen {k' n' : Nat} (h1 : k ≤ k') (h2 : n ≤ n') (kk : jW X nL k' n' ws lc pc st) : jW X nL k n ws lc pc st := by
  obtain ⟨p, l, e, R, s, m, args, below, meth, c, Q, D', Y', A, H0, RO'⟩ := X
  intro H locs ls hP hD hS hl
  exact W.widen h1 h2 (kk H locs ls hP hD hS hl)
end JROWS
/-- what a method's start asks: its own cells w0, those that it reads RO, the tables -/
def jPre (D : va_G) (Y : Nat → ClassId) (w0 RO : va_W) (sz : Nat) : State → Prop := fun U => U.heap.size = sz ∧ va_P D vwCl w0 U.heap ∧ va_K D vwCl (jT Y) U ∧ va_D (fun _ => True) w0 ∧ va_P D vwCl RO U.heap ∧ (∀ a ∈ RO, ∀ b ∈ w0, a.1 ≠ b.1) ∧ jN U
def jB (D : va_G) (w0 : va_W) (sz : Nat) : va_W → State → Prop := fun w1 t => va_P D vwCl w1 t.heap ∧ va_D (va_A w0 sz) w1
/-- contracts: the method returns; post tells the answer and the cells behind it -/
def jMv (l : Launch) (y : MethodName) (wl : List Cond) (rm : Room) (D : va_G) (Y : Nat → ClassId) (RO : va_W) (av : List Value) (w0 : va_W) (post : va_W → Prop) : Prop := ∀ sz : Nat, Met l y wl rm (va_Pc av (jPre D Y w0 RO sz)) (va_Qv (fun w1 : va_W => post w1) (jB D w0 sz) (va_A w0 sz)) rm.cells rm.slots (va_A w0 sz)
def jMi (l : Launch) (y : MethodName) (wl : List Cond) (rm : Room) (D : va_G) (Y : Nat → ClassId) (RO : va_W) (av : List Value) (w0 : va_W) (post : Int → va_W → Prop) : Prop := ∀ sz : Nat, Met l y wl rm (va_Pc av (jPre D Y w0 RO sz)) (va_Qi (fun (r : Int32) (w1 : va_W) => ∃ e : Int, r = Int32.ofInt e ∧ post e w1) (jB D w0 sz) (va_A w0 sz)) rm.cells rm.slots (va_A w0 sz)
def jMl (l : Launch) (y : MethodName) (wl : List Cond) (rm : Room) (D : va_G) (Y : Nat → ClassId) (RO : va_W) (av : List Value) (w0 : va_W) (post : Int → va_W → Prop) : Prop := ∀ sz : Nat, Met l y wl rm (va_Pc av (jPre D Y w0 RO sz)) (va_Ql (fun (r : Int64) (w1 : va_W) => ∃ e : Int, r = Int64.ofInt e ∧ post e w1) (jB D w0 sz) (va_A w0 sz)) rm.cells rm.slots (va_A w0 sz)
def jMr (l : Launch) (y : MethodName) (wl : List Cond) (rm : Room) (D : va_G) (Y : Nat → ClassId) (RO : va_W) (av : List Value) (w0 : va_W) (post : Option Nat → va_W → Prop) : Prop := ∀ sz : Nat, Met l y wl rm (va_Pc av (jPre D Y w0 RO sz)) (va_Qq (fun (r : Option Nat) (w1 : va_W) => post r w1) (jB D w0 sz) (va_A w0 sz)) rm.cells rm.slots (va_A w0 sz)
theorem jPre.blind {D : va_G} {Y : Nat → ClassId} {w0 RO : va_W} {sz : Nat} {av : List Value} : FrameBlind (va_Pc av (jPre D Y w0 RO sz)) := by
  intro a U g mk q
  obtain ⟨q0, q1, qP, qK, qD, qR, qd, qN⟩ := q
  exact ⟨q0, q1, qP, va_K.moved (u := U) (U := U.calling g mk a) (Vm.Alike.refl U.vm) qK, qD, qR, qd, qN.same rfl⟩
theorem j_ros {w0 RO : va_W} {D : va_G} {H : Heap} {sz : Nat} (hsz : H.size = sz) (hR : va_P D vwCl RO H) (hd : ∀ a ∈ RO, ∀ b ∈ w0, a.1 ≠ b.1) : ∀ q ∈ RO, ¬ va_A w0 sz q.1 := by
  intro q hq h
  rcases h with ⟨k, e, h⟩ | h
  · exact hd q hq (q.1, e) (List.mem_of_getElem? h) rfl
  · obtain ⟨k, hk⟩ := List.mem_iff_getElem?.mp hq
    have := (hR k q hk).lt
    omega
theorem j_sub {D : va_G} {ws wc : va_W} {H : Heap} (hP : va_P D vwCl ws H) (is : List Nat) (hC : is.map (fun i => ws[i]?) = wc.map some) : va_P D vwCl wc H := by
  intro k q hq
  have h1 : (is.map (fun i => ws[i]?))[k]? = some (some q) := by rw [hC, List.getElem?_map, hq]; rfl
  rw [List.getElem?_map] at h1
  cases hi : is[k]? with
  | none => rw [hi] at h1; cases h1
  | some i => rw [hi] at h1; exact hP i q (Option.some.inj h1)
theorem j_at' {ws wc : va_W} {is : List Nat} (hC : is.map (fun i => ws[i]?) = wc.map some) {q : Nat × va_E} (hq : q ∈ wc) : ∃ i ∈ is, ws[i]? = some q := by
  obtain ⟨k, hk⟩ := List.mem_iff_getElem?.mp hq
  have h1 : (is.map (fun i => ws[i]?))[k]? = some (some q) := by rw [hC, List.getElem?_map, hk]; rfl
  rw [List.getElem?_map] at h1
  cases hi : is[k]? with
  | none => rw [hi] at h1; cases h1
  | some i => rw [hi] at h1; exact ⟨i, List.mem_of_getElem? hi, Option.some.inj h1⟩
theorem j_ro2 {D : va_G} {ws wr RO : va_W} {A : Nat → Prop} {H0 H : Heap} {locs : List Loc} (hP : va_P D vwCl ws H) (hR : va_P D vwCl RO H0) (hRA : ∀ q ∈ RO, ¬ A q.1) (hS : va_S A H0 H locs) (is : List Nat) (hC : is.map (fun i => ws[i]?) = wr.map some) : va_P D vwCl (wr ++ RO) H := by
  intro k q hq
  have hq1 : q ∈ wr ∨ q ∈ RO := List.mem_append.mp (List.mem_of_getElem? hq)
  exact j_cell hq1 (j_sub hP is hC) hR hRA hS 0 q rfl
theorem j_ap {ws wc wr RO : va_W} {A : Nat → Prop} (hD : va_D A ws) (hRA : ∀ q ∈ RO, ¬ A q.1) (isC isR : List Nat) (hC : isC.map (fun i => ws[i]?) = wc.map some) (hR : isR.map (fun i => ws[i]?) = wr.map some) (hdis : ∀ i ∈ isR, i ∉ isC) : ∀ a ∈ wr ++ RO, ∀ b ∈ wc, a.1 ≠ b.1 := by
  intro a ha b hb e
  obtain ⟨j, hj, hj2⟩ := j_at' hC hb
  rcases List.mem_append.mp ha with ha | ha
  · obtain ⟨i, hi, hi2⟩ := j_at' hR ha
    have := hD.1 i j a b hi2 hj2 e
    subst this
    exact hdis i hi hj
  · exact hRA a ha (e ▸ hD.2 j b hj2)
theorem j_perm {X : jX} {nL k n : Nat} {ws ws' : va_W} {lc : List (Nat × Value)} {pc : Nat} {st : List Value} (is : List Nat) (hn : va_nd is = true) (h : is.map (fun i => ws[i]?) = ws'.map some) (kk : jW X nL k n ws' lc pc st) : jW X nL k n ws lc pc st := by
  obtain ⟨p, l, e, R, s, m, args, below, meth, c, Q, D', Y', A, H0, RO'⟩ := X
  intro H locs ls hP hD hS hl
  exact kk H locs ls (j_sub hP is h) (hD.sub is hn h) hS hl
def jRv (X : jX) (cc : ByteArray) (nL mc ms : Nat) (post : va_W → Prop) : Prop := ∀ (k n : Nat) (w1 : va_W) (lc : List (Nat × Value)) (pc : Nat), k ≤ mc → n ≤ ms → post w1 → decode cc pc = .ok (.return_, 1) → jW X nL k n w1 lc pc []
/-- we are in a constructor -/
def jI (X : jX) : Prop := match X with
  | (p, l, e, R, s, m, args, below, meth, c, Q, D, _, A, H0, _) => meth.name = "<init>"
theorem j_ofv {l : Launch} {y : MethodName} {wl ws' : List Cond} {rm : Room} {D : va_G} {Y : Nat → ClassId} {RO w0 : va_W} {av : List Value} {post : va_W → Prop} {cc : ByteArray} {maxL : Nat} (own : String) (hy : plainName y.cls = true) (hw : wl = Cond.code y cc maxL none :: ws') (ho : y.cls = own) (hlen : (lg_sl av).length ≤ maxL) (body : ∀ X : jX, jC X cc maxL own wl rm D Y RO → jRv X cc maxL rm.cells rm.slots post → (y.name = "<init>" → jI X) → jW X maxL 0 0 w0 (lv_args 0 av) 0 []) : jMv l y wl rm D Y RO av w0 post := by
  intro sz
  refine Met.ofW (cc := cc) (maxL := maxL) (ret := none) hy hw ?_
  intro p e s m args below meth c s₁ B hml hv
  obtain ⟨rfl, hsz, hP, hK, hD0, hRO, hdis, hN⟩ := hv
  have hx := B.exec
  have hb := B.bytes
  have hr := B.returns
  have hts := atoms_spec (ws := wl) B.pre
  have hown : s.vm.findClass own = some m.cls := ho ▸ findClass_of_methodNamed B.named
  have hlocks := B.notSynchronized
  have hRA := j_ros hsz hRO hdis
  subst hsz
  have hD := hD0.self (sz := s.heap.size)
  rw [lg_entry_eq]
  have hl := lv_entry av (n := maxL) hlen
  refine body (p, l, e, (headSpec wl rm).room, s, m, av.toArray, below, meth, c, MQ below (_) av.toArray s rm.cells rm.slots (va_A w0 s.heap.size), D, Y, va_A w0 s.heap.size, s.heap, RO) ⟨⟨hx, hb, hml, hown, hts⟩, hK, fun q h => Or.inr h, ⟨rfl, rfl, rfl, rfl⟩, hRO, hRA, hN⟩ ?_ (fun hy => (name_of_methodNamed B.named B.method).1.trans hy) s.heap [] _ hP hD va_S.rf hl
  intro k n w1 lc pc hk hn hp hd H locs ls hP hD hS hl
  exact W.widen hk hn (W.vret hx hb hr (fun t ht hW => ⟨⟨w1, rfl, hp, by rw [ht]; exact hP, hD⟩, hS.F ht⟩) hS.2.2 hd hlocks)
def jRi (X : jX) (cc : ByteArray) (nL mc ms : Nat) (post : Int → va_W → Prop) : Prop := ∀ (k n : Nat) (w1 : va_W) (lc : List (Nat × Value)) (pc : Nat) (e : Int), k ≤ mc → n ≤ ms → post e w1 → decode cc pc = .ok (.ireturn, 1) → jW X nL k n w1 lc pc [vI e]
theorem j_ofi {l : Launch} {y : MethodName} {wl ws' : List Cond} {rm : Room} {D : va_G} {Y : Nat → ClassId} {RO w0 : va_W} {av : List Value} {post : Int → va_W → Prop} {cc : ByteArray} {maxL : Nat} (own : String) (hy : plainName y.cls = true) (hw : wl = Cond.code y cc maxL (some .int) :: ws') (ho : y.cls = own) (hlen : (lg_sl av).length ≤ maxL) (body : ∀ X : jX, jC X cc maxL own wl rm D Y RO → jRi X cc maxL rm.cells rm.slots post → jW X maxL 0 0 w0 (lv_args 0 av) 0 []) : jMi l y wl rm D Y RO av w0 post := by
  intro sz
  refine Met.ofW (cc := cc) (maxL := maxL) (ret := (some .int)) hy hw ?_
  intro p e s m args below meth c s₁ B hml hv
  obtain ⟨rfl, hsz, hP, hK, hD0, hRO, hdis, hN⟩ := hv
  have hx := B.exec
  have hb := B.bytes
  have hr := B.returns
  have hts := atoms_spec (ws := wl) B.pre
  have hown : s.vm.findClass own = some m.cls := ho ▸ findClass_of_methodNamed B.named
  have hlocks := B.notSynchronized
  have hRA := j_ros hsz hRO hdis
  subst hsz
  have hD := hD0.self (sz := s.heap.size)
  rw [lg_entry_eq]
  have hl := lv_entry av (n := maxL) hlen
  refine body (p, l, e, (headSpec wl rm).room, s, m, av.toArray, below, meth, c, MQ below (_) av.toArray s rm.cells rm.slots (va_A w0 s.heap.size), D, Y, va_A w0 s.heap.size, s.heap, RO) ⟨⟨hx, hb, hml, hown, hts⟩, hK, fun q h => Or.inr h, ⟨rfl, rfl, rfl, rfl⟩, hRO, hRA, hN⟩ ?_ s.heap [] _ hP hD va_S.rf hl
  intro k n w1 lc pc ev hk hn hp hd H locs ls hP hD hS hl
  exact W.widen hk hn (W.iret hx hb hr (fun t ht hW => ⟨⟨_, w1, rfl, ⟨ev, rfl, hp⟩, by rw [ht]; exact hP, hD⟩, hS.F ht⟩) hS.2.2 hd hlocks)
def jRz (X : jX) (cc : ByteArray) (nL mc ms : Nat) (post : Int → va_W → Prop) : Prop := ∀ (k n : Nat) (w1 : va_W) (lc : List (Nat × Value)) (pc : Nat) (e : Int), k ≤ mc → n ≤ ms → (e = 0 ∨ e = 1) → post e w1 → decode cc pc = .ok (.ireturn, 1) → jW X nL k n w1 lc pc [vI e]
theorem j_ofz {l : Launch} {y : MethodName} {wl ws' : List Cond} {rm : Room} {D : va_G} {Y : Nat → ClassId} {RO w0 : va_W} {av : List Value} {post : Int → va_W → Prop} {cc : ByteArray} {maxL : Nat} (own : String) (hy : plainName y.cls = true) (hw : wl = Cond.code y cc maxL (some .boolean) :: ws') (ho : y.cls = own) (hlen : (lg_sl av).length ≤ maxL) (body : ∀ X : jX, jC X cc maxL own wl rm D Y RO → jRz X cc maxL rm.cells rm.slots post → jW X maxL 0 0 w0 (lv_args 0 av) 0 []) : jMi l y wl rm D Y RO av w0 post := by
  intro sz
  refine Met.ofW (cc := cc) (maxL := maxL) (ret := (some .boolean)) hy hw ?_
  intro p e s m args below meth c s₁ B hml hv
  obtain ⟨rfl, hsz, hP, hK, hD0, hRO, hdis, hN⟩ := hv
  have hx := B.exec
  have hb := B.bytes
  have hr := B.returns
  have hts := atoms_spec (ws := wl) B.pre
  have hown : s.vm.findClass own = some m.cls := ho ▸ findClass_of_methodNamed B.named
  have hlocks := B.notSynchronized
  have hRA := j_ros hsz hRO hdis
  subst hsz
  have hD := hD0.self (sz := s.heap.size)
  rw [lg_entry_eq]
  have hl := lv_entry av (n := maxL) hlen
  refine body (p, l, e, (headSpec wl rm).room, s, m, av.toArray, below, meth, c, MQ below (_) av.toArray s rm.cells rm.slots (va_A w0 s.heap.size), D, Y, va_A w0 s.heap.size, s.heap, RO) ⟨⟨hx, hb, hml, hown, hts⟩, hK, fun q h => Or.inr h, ⟨rfl, rfl, rfl, rfl⟩, hRO, hRA, hN⟩ ?_ s.heap [] _ hP hD va_S.rf hl
  intro k n w1 lc pc ev hk hn hz hp hd H locs ls hP hD hS hl
  exact W.widen hk hn (W.zret hx hb hr (by rcases hz with rfl | rfl <;> rfl) (fun t ht hW => ⟨⟨_, w1, rfl, ⟨ev, rfl, hp⟩, by rw [ht]; exact hP, hD⟩, hS.F ht⟩) hS.2.2 hd hlocks)
def jRl (X : jX) (cc : ByteArray) (nL mc ms : Nat) (post : Int → va_W → Prop) : Prop := ∀ (k n : Nat) (w1 : va_W) (lc : List (Nat × Value)) (pc : Nat) (e : Int), k ≤ mc → n ≤ ms → post e w1 → decode cc pc = .ok (.lreturn, 1) → jW X nL k n w1 lc pc [vL e]
theorem j_ofl {l : Launch} {y : MethodName} {wl ws' : List Cond} {rm : Room} {D : va_G} {Y : Nat → ClassId} {RO w0 : va_W} {av : List Value} {post : Int → va_W → Prop} {cc : ByteArray} {maxL : Nat} (own : String) (hy : plainName y.cls = true) (hw : wl = Cond.code y cc maxL (some .long) :: ws') (ho : y.cls = own) (hlen : (lg_sl av).length ≤ maxL) (body : ∀ X : jX, jC X cc maxL own wl rm D Y RO → jRl X cc maxL rm.cells rm.slots post → jW X maxL 0 0 w0 (lv_args 0 av) 0 []) : jMl l y wl rm D Y RO av w0 post := by
  intro sz
  refine Met.ofW (cc := cc) (maxL := maxL) (ret := (some .long)) hy hw ?_
  intro p e s m args below meth c s₁ B hml hv
  obtain ⟨rfl, hsz, hP, hK, hD0, hRO, hdis, hN⟩ := hv
  have hx := B.exec
  have hb := B.bytes
  have hr := B.returns
  have hts := atoms_spec (ws := wl) B.pre
  have hown : s.vm.findClass own = some m.cls := ho ▸ findClass_of_methodNamed B.named
  have hlocks := B.notSynchronized
  have hRA := j_ros hsz hRO hdis
  subst hsz
  have hD := hD0.self (sz := s.heap.size)
  rw [lg_entry_eq]
  have hl := lv_entry av (n := maxL) hlen
  refine body (p, l, e, (headSpec wl rm).room, s, m, av.toArray, below, meth, c, MQ below (_) av.toArray s rm.cells rm.slots (va_A w0 s.heap.size), D, Y, va_A w0 s.heap.size, s.heap, RO) ⟨⟨hx, hb, hml, hown, hts⟩, hK, fun q h => Or.inr h, ⟨rfl, rfl, rfl, rfl⟩, hRO, hRA, hN⟩ ?_ s.heap [] _ hP hD va_S.rf hl
  intro k n w1 lc pc ev hk hn hp hd H locs ls hP hD hS hl
  exact W.widen hk hn (W.lret hx hb hr (fun t ht hW => ⟨⟨_, w1, rfl, ⟨ev, rfl, hp⟩, by rw [ht]; exact hP, hD⟩, hS.F ht⟩) hS.2.2 hd hlocks)
def jRr (X : jX) (cc : ByteArray) (nL mc ms : Nat) (post : Option Nat → va_W → Prop) : Prop := ∀ (k n : Nat) (w1 : va_W) (lc : List (Nat × Value)) (pc : Nat) (e : Option Nat), k ≤ mc → n ≤ ms → post e w1 → decode cc pc = .ok (.areturn, 1) → jW X nL k n w1 lc pc [va_rf e]
theorem j_ofr {l : Launch} {y : MethodName} {wl ws' : List Cond} {rm : Room} {D : va_G} {Y : Nat → ClassId} {RO w0 : va_W} {av : List Value} {post : Option Nat → va_W → Prop} {cc : ByteArray} {maxL : Nat} {rt : String} (own : String) (hy : plainName y.cls = true) (hw : wl = Cond.code y cc maxL (some (.object rt)) :: ws') (ho : y.cls = own) (hlen : (lg_sl av).length ≤ maxL) (body : ∀ X : jX, jC X cc maxL own wl rm D Y RO → jRr X cc maxL rm.cells rm.slots post → jW X maxL 0 0 w0 (lv_args 0 av) 0 []) : jMr l y wl rm D Y RO av w0 post := by
  intro sz
  refine Met.ofW (cc := cc) (maxL := maxL) (ret := (some (.object rt))) hy hw ?_
  intro p e s m args below meth c s₁ B hml hv
  obtain ⟨rfl, hsz, hP, hK, hD0, hRO, hdis, hN⟩ := hv
  have hx := B.exec
  have hb := B.bytes
  have hr := B.returns
  have hts := atoms_spec (ws := wl) B.pre
  have hown : s.vm.findClass own = some m.cls := ho ▸ findClass_of_methodNamed B.named
  have hlocks := B.notSynchronized
  have hRA := j_ros hsz hRO hdis
  subst hsz
  have hD := hD0.self (sz := s.heap.size)
  rw [lg_entry_eq]
  have hl := lv_entry av (n := maxL) hlen
  refine body (p, l, e, (headSpec wl rm).room, s, m, av.toArray, below, meth, c, MQ below (_) av.toArray s rm.cells rm.slots (va_A w0 s.heap.size), D, Y, va_A w0 s.heap.size, s.heap, RO) ⟨⟨hx, hb, hml, hown, hts⟩, hK, fun q h => Or.inr h, ⟨rfl, rfl, rfl, rfl⟩, hRO, hRA, hN⟩ ?_ s.heap [] _ hP hD va_S.rf hl
  intro k n w1 lc pc ev hk hn hp hd H locs ls hP hD hS hl
  exact W.widen hk hn (W.aret hx hb hr (Or.inl ⟨_, rfl⟩) (by cases ev with | none => exact Or.inl rfl | some a => exact Or.inr ⟨a, rfl⟩) (fun t ht hW => ⟨⟨ev, w1, rfl, hp, by rw [ht]; exact hP, hD⟩, hS.F ht⟩) hS.2.2 hd hlocks)
theorem j_cell2 {D : va_G} {wc RO : va_W} {H : Heap} {q : Nat × va_E} (hq : q ∈ wc ∨ q ∈ RO) (hP : va_P D vwCl wc H) (hR : va_P D vwCl RO H) : va_P D vwCl [q] H := by
  have hat : va_at D vwCl q H := by
    rcases hq with hq | hq
    · obtain ⟨k, hk⟩ := List.mem_iff_getElem?.mp hq
      exact hP k q hk
    · obtain ⟨k, hk⟩ := List.mem_iff_getElem?.mp hq
      exact hR k q hk
  intro k r hr
  cases k with
  | zero => cases hr; exact hat
  | succ k => simp at hr
theorem j_callVv {X : jX} {cc : ByteArray} {nL : Nat} {own : String} {Ts : List Cond} {rm : Room} {D : va_G} {Y : Nat → ClassId} {RO : va_W} {k n : Nat} {ws : va_W} {lc : List (Nat × Value)} {pc : Nat} {st stk As : List Value} {b : Nat} {y : MethodName} {wl wl' : List Cond} {rm' : Room} {post : va_W → Prop} {bytes : ByteArray} {maxL index : Nat} (C : jC X cc nL own Ts rm D Y RO) (isC isR : List Nat) {wc wr : va_W} (hM : ∀ l, jMv l y wl rm' D Y (wr ++ RO) (.ref b :: As) wc post) (hC : isC.map (fun i => ws[i]?) = wc.map some) (hR0 : isR.map (fun i => ws[i]?) = wr.map some) (hnC : va_nd isC = true) (hnR : va_nd isR = true) (hdis : ∀ i ∈ isR, i ∉ isC) {ret : Option FieldType} (hw : wl = Cond.code y bytes maxL ret :: wl') {Cn : String} {T : u_T} {N ci : Nat} {fs : List Value} (hq : (b, oC ci fs) ∈ wc ∨ (b, oC ci fs) ∈ wr ++ RO) (hci : vwCl[ci]? = some (Cn, T, N)) (g : GoodIn Ts (wsV own index Cn y wl)) (hd0 : y.cls = Cn ∧ y.cls ≠ "java/lang/invoke/MethodHandle" ∧ y.cls ≠ "java/lang/invoke/VarHandle" ∧ (parseMethodDescriptor y.desc).map (fun d => d.parameters.length) = some As.length) (hRm : rm'.frames + 1 ≤ rm.frames ∧ 8 + (maxL + 11) + rm'.locals ≤ rm.locals) (hstk : stk = As.reverse ++ .ref b :: st) (hcat : (st.map fun v => v.category).sum ≤ 8) (hroom : k + rm'.cells ≤ rm.cells ∧ n + rm'.slots ≤ rm.slots) (hd : decode cc pc = .ok (.invokevirtual index, 3)) (kk : ∀ w1 : va_W, post w1 → jW X nL (k + rm'.cells) (n + rm'.slots) (wr ++ w1) lc (pc + 3) st) : jW X nL k n ws lc pc stk := by
  obtain ⟨p, l, e, R, s, m, args, below, meth, c, Q, D', Y', A, H0, RO'⟩ := X
  obtain ⟨⟨hx, hb, hml, hown, hts⟩, hK, hA, ⟨rfl, rfl, rfl, rfl⟩, hR, hRA, hN⟩ := C
  intro H locs ls hP hD hS hl
  subst hstk
  have hPc := j_sub hP isC hC
  have hDc := hD.sub isC hnC hC
  have hFc := va_free hD hS hA isC hC
  have hROc := j_ro2 hP hR hRA hS isR hR0
  have hap := j_ap hD hRA isC isR hC hR0 hdis
  refine va_callv (va_runV (As := As) (rest := st) ⟨hx, hb, hml, hown, hts⟩ (hM l _) (cwV As.length hts g hw rfl rfl hd0 hRm) ⟨jPre.blind, va_recv hK (j_cell2 hq hPc hROc) hci (q0 := 0) rfl, fun U hU hW => ⟨rfl, by rw [hU], by rw [hU]; exact hPc, va_K.moved hW.alike hK, hDc.weaken (fun _ _ _ _ => trivial), by rw [hU]; exact hROc, hap, hN.warm hW⟩⟩ rfl rfl hl.1 rfl (lv_room hcat) hd hroom) hS (fun q _ h => hFc q h) hFc (fun w1 t H1 locs1 ht hvm hw1 hB hz1 hk1 hS => ?_)
  obtain ⟨hP1, hD1⟩ := hB
  rw [ht] at hP1
  obtain ⟨hP, hD⟩ := va_join hP hD isC isR hC hR0 hnR hdis hk1 hFc hP1 hD1
  exact kk w1 hw1 H1 locs1 ls hP hD hS hl
theorem j_callVi {X : jX} {cc : ByteArray} {nL : Nat} {own : String} {Ts : List Cond} {rm : Room} {D : va_G} {Y : Nat → ClassId} {RO : va_W} {k n : Nat} {ws : va_W} {lc : List (Nat × Value)} {pc : Nat} {st stk As : List Value} {b : Nat} {y : MethodName} {wl wl' : List Cond} {rm' : Room} {post : Int → va_W → Prop} {bytes : ByteArray} {maxL index : Nat} (C : jC X cc nL own Ts rm D Y RO) (isC isR : List Nat) {wc wr : va_W} (hM : ∀ l, jMi l y wl rm' D Y (wr ++ RO) (.ref b :: As) wc post) (hC : isC.map (fun i => ws[i]?) = wc.map some) (hR0 : isR.map (fun i => ws[i]?) = wr.map some) (hnC : va_nd isC = true) (hnR : va_nd isR = true) (hdis : ∀ i ∈ isR, i ∉ isC) {ret : Option FieldType} (hw : wl = Cond.code y bytes maxL ret :: wl') {Cn : String} {T : u_T} {N ci : Nat} {fs : List Value} (hq : (b, oC ci fs) ∈ wc ∨ (b, oC ci fs) ∈ wr ++ RO) (hci : vwCl[ci]? = some (Cn, T, N)) (g : GoodIn Ts (wsV own index Cn y wl)) (hd0 : y.cls = Cn ∧ y.cls ≠ "java/lang/invoke/MethodHandle" ∧ y.cls ≠ "java/lang/invoke/VarHandle" ∧ (parseMethodDescriptor y.desc).map (fun d => d.parameters.length) = some As.length) (hRm : rm'.frames + 1 ≤ rm.frames ∧ 8 + (maxL + 11) + rm'.locals ≤ rm.locals) (hstk : stk = As.reverse ++ .ref b :: st) (hcat : (st.map fun v => v.category).sum ≤ 8) (hroom : k + rm'.cells ≤ rm.cells ∧ n + rm'.slots ≤ rm.slots) (hd : decode cc pc = .ok (.invokevirtual index, 3)) (kk : ∀ (ev : Int) (w1 : va_W), post ev w1 → jW X nL (k + rm'.cells) (n + rm'.slots) (wr ++ w1) lc (pc + 3) (vI ev :: st)) : jW X nL k n ws lc pc stk := by
  obtain ⟨p, l, e, R, s, m, args, below, meth, c, Q, D', Y', A, H0, RO'⟩ := X
  obtain ⟨⟨hx, hb, hml, hown, hts⟩, hK, hA, ⟨rfl, rfl, rfl, rfl⟩, hR, hRA, hN⟩ := C
  intro H locs ls hP hD hS hl
  subst hstk
  have hPc := j_sub hP isC hC
  have hDc := hD.sub isC hnC hC
  have hFc := va_free hD hS hA isC hC
  have hROc := j_ro2 hP hR hRA hS isR hR0
  have hap := j_ap hD hRA isC isR hC hR0 hdis
  refine va_calli (va_runV (As := As) (rest := st) ⟨hx, hb, hml, hown, hts⟩ (hM l _) (cwV As.length hts g hw rfl rfl hd0 hRm) ⟨jPre.blind, va_recv hK (j_cell2 hq hPc hROc) hci (q0 := 0) rfl, fun U hU hW => ⟨rfl, by rw [hU], by rw [hU]; exact hPc, va_K.moved hW.alike hK, hDc.weaken (fun _ _ _ _ => trivial), by rw [hU]; exact hROc, hap, hN.warm hW⟩⟩ rfl rfl hl.1 rfl (lv_room hcat) hd hroom) hS (fun q _ h => hFc q h) hFc (fun r w1 t H1 locs1 ht hvm hw1 hB hz1 hk1 hS => ?_)
  obtain ⟨hP1, hD1⟩ := hB
  rw [ht] at hP1
  obtain ⟨hP, hD⟩ := va_join hP hD isC isR hC hR0 hnR hdis hk1 hFc hP1 hD1
  obtain ⟨ev, rfl, hp⟩ := hw1
  exact kk ev w1 hp H1 locs1 ls hP hD hS hl
theorem j_callVl {X : jX} {cc : ByteArray} {nL : Nat} {own : String} {Ts : List Cond} {rm : Room} {D : va_G} {Y : Nat → ClassId} {RO : va_W} {k n : Nat} {ws : va_W} {lc : List (Nat × Value)} {pc : Nat} {st stk As : List Value} {b : Nat} {y : MethodName} {wl wl' : List Cond} {rm' : Room} {post : Int → va_W → Prop} {bytes : ByteArray} {maxL index : Nat} (C : jC X cc nL own Ts rm D Y RO) (isC isR : List Nat) {wc wr : va_W} (hM : ∀ l, jMl l y wl rm' D Y (wr ++ RO) (.ref b :: As) wc post) (hC : isC.map (fun i => ws[i]?) = wc.map some) (hR0 : isR.map (fun i => ws[i]?) = wr.map some) (hnC : va_nd isC = true) (hnR : va_nd isR = true) (hdis : ∀ i ∈ isR, i ∉ isC) {ret : Option FieldType} (hw : wl = Cond.code y bytes maxL ret :: wl') {Cn : String} {T : u_T} {N ci : Nat} {fs : List Value} (hq : (b, oC ci fs) ∈ wc ∨ (b, oC ci fs) ∈ wr ++ RO) (hci : vwCl[ci]? = some (Cn, T, N)) (g : GoodIn Ts (wsV own index Cn y wl)) (hd0 : y.cls = Cn ∧ y.cls ≠ "java/lang/invoke/MethodHandle" ∧ y.cls ≠ "java/lang/invoke/VarHandle" ∧ (parseMethodDescriptor y.desc).map (fun d => d.parameters.length) = some As.length) (hRm : rm'.frames + 1 ≤ rm.frames ∧ 8 + (maxL + 11) + rm'.locals ≤ rm.locals) (hstk : stk = As.reverse ++ .ref b :: st) (hcat : (st.map fun v => v.category).sum ≤ 8) (hroom : k + rm'.cells ≤ rm.cells ∧ n + rm'.slots ≤ rm.slots) (hd : decode cc pc = .ok (.invokevirtual index, 3)) (kk : ∀ (ev : Int) (w1 : va_W), post ev w1 → jW X nL (k + rm'.cells) (n + rm'.slots) (wr ++ w1) lc (pc + 3) (vL ev :: st)) : jW X nL k n ws lc pc stk := by
  obtain ⟨p, l, e, R, s, m, args, below, meth, c, Q, D', Y', A, H0, RO'⟩ := X
  obtain ⟨⟨hx, hb, hml, hown, hts⟩, hK, hA, ⟨rfl, rfl, rfl, rfl⟩, hR, hRA, hN⟩ := C
  intro H locs ls hP hD hS hl
  subst hstk
  have hPc := j_sub hP isC hC
  have hDc := hD.sub isC hnC hC
  have hFc := va_free hD hS hA isC hC
  have hROc := j_ro2 hP hR hRA hS isR hR0
  have hap := j_ap hD hRA isC isR hC hR0 hdis
  refine va_calll (va_runV (As := As) (rest := st) ⟨hx, hb, hml, hown, hts⟩ (hM l _) (cwV As.length hts g hw rfl rfl hd0 hRm) ⟨jPre.blind, va_recv hK (j_cell2 hq hPc hROc) hci (q0 := 0) rfl, fun U hU hW => ⟨rfl, by rw [hU], by rw [hU]; exact hPc, va_K.moved hW.alike hK, hDc.weaken (fun _ _ _ _ => trivial), by rw [hU]; exact hROc, hap, hN.warm hW⟩⟩ rfl rfl hl.1 rfl (lv_room hcat) hd hroom) hS (fun q _ h => hFc q h) hFc (fun r w1 t H1 locs1 ht hvm hw1 hB hz1 hk1 hS => ?_)
  obtain ⟨hP1, hD1⟩ := hB
  rw [ht] at hP1
  obtain ⟨hP, hD⟩ := va_join hP hD isC isR hC hR0 hnR hdis hk1 hFc hP1 hD1
  obtain ⟨ev, rfl, hp⟩ := hw1
  exact kk ev w1 hp H1 locs1 ls hP hD hS hl
theorem j_callVr {X : jX} {cc : ByteArray} {nL : Nat} {own : String} {Ts : List Cond} {rm : Room} {D : va_G} {Y : Nat → ClassId} {RO : va_W} {k n : Nat} {ws : va_W} {lc : List (Nat × Value)} {pc : Nat} {st stk As : List Value} {b : Nat} {y : MethodName} {wl wl' : List Cond} {rm' : Room} {post : Option Nat → va_W → Prop} {bytes : ByteArray} {maxL index : Nat} (C : jC X cc nL own Ts rm D Y RO) (isC isR : List Nat) {wc wr : va_W} (hM : ∀ l, jMr l y wl rm' D Y (wr ++ RO) (.ref b :: As) wc post) (hC : isC.map (fun i => ws[i]?) = wc.map some) (hR0 : isR.map (fun i => ws[i]?) = wr.map some) (hnC : va_nd isC = true) (hnR : va_nd isR = true) (hdis : ∀ i ∈ isR, i ∉ isC) {ret : Option FieldType} (hw : wl = Cond.code y bytes maxL ret :: wl') {Cn : String} {T : u_T} {N ci : Nat} {fs : List Value} (hq : (b, oC ci fs) ∈ wc ∨ (b, oC ci fs) ∈ wr ++ RO) (hci : vwCl[ci]? = some (Cn, T, N)) (g : GoodIn Ts (wsV own index Cn y wl)) (hd0 : y.cls = Cn ∧ y.cls ≠ "java/lang/invoke/MethodHandle" ∧ y.cls ≠ "java/lang/invoke/VarHandle" ∧ (parseMethodDescriptor y.desc).map (fun d => d.parameters.length) = some As.length) (hRm : rm'.frames + 1 ≤ rm.frames ∧ 8 + (maxL + 11) + rm'.locals ≤ rm.locals) (hstk : stk = As.reverse ++ .ref b :: st) (hcat : (st.map fun v => v.category).sum ≤ 8) (hroom : k + rm'.cells ≤ rm.cells ∧ n + rm'.slots ≤ rm.slots) (hd : decode cc pc = .ok (.invokevirtual index, 3)) (kk : ∀ (ev : Option Nat) (w1 : va_W), post ev w1 → jW X nL (k + rm'.cells) (n + rm'.slots) (wr ++ w1) lc (pc + 3) (va_rf ev :: st)) : jW X nL k n ws lc pc stk := by
  obtain ⟨p, l, e, R, s, m, args, below, meth, c, Q, D', Y', A, H0, RO'⟩ := X
  obtain ⟨⟨hx, hb, hml, hown, hts⟩, hK, hA, ⟨rfl, rfl, rfl, rfl⟩, hR, hRA, hN⟩ := C
  intro H locs ls hP hD hS hl
  subst hstk
  have hPc := j_sub hP isC hC
  have hDc := hD.sub isC hnC hC
  have hFc := va_free hD hS hA isC hC
  have hROc := j_ro2 hP hR hRA hS isR hR0
  have hap := j_ap hD hRA isC isR hC hR0 hdis
  refine va_callq (va_runV (As := As) (rest := st) ⟨hx, hb, hml, hown, hts⟩ (hM l _) (cwV As.length hts g hw rfl rfl hd0 hRm) ⟨jPre.blind, va_recv hK (j_cell2 hq hPc hROc) hci (q0 := 0) rfl, fun U hU hW => ⟨rfl, by rw [hU], by rw [hU]; exact hPc, va_K.moved hW.alike hK, hDc.weaken (fun _ _ _ _ => trivial), by rw [hU]; exact hROc, hap, hN.warm hW⟩⟩ rfl rfl hl.1 rfl (lv_room hcat) hd hroom) hS (fun q _ h => hFc q h) hFc (fun r w1 t H1 locs1 ht hvm hw1 hB hz1 hk1 hS => ?_)
  obtain ⟨hP1, hD1⟩ := hB
  rw [ht] at hP1
  obtain ⟨hP, hD⟩ := va_join hP hD isC isR hC hR0 hnR hdis hk1 hFc hP1 hD1
  exact kk r w1 hw1 H1 locs1 ls hP hD hS hl
theorem j_callUi {X : jX} {cc : ByteArray} {nL : Nat} {own : String} {Ts : List Cond} {rm : Room} {D : va_G} {Y : Nat → ClassId} {RO : va_W} {k n : Nat} {ws : va_W} {lc : List (Nat × Value)} {pc : Nat} {st stk As : List Value} {b : Nat} {y : MethodName} {wl wl' : List Cond} {rm' : Room} {post : Int → va_W → Prop} {bytes : ByteArray} {maxL index : Nat} (C : jC X cc nL own Ts rm D Y RO) (isC isR : List Nat) {wc wr : va_W} (hM : ∀ l, jMi l y wl rm' D Y (wr ++ RO) (.ref b :: As) wc post) (hC : isC.map (fun i => ws[i]?) = wc.map some) (hR0 : isR.map (fun i => ws[i]?) = wr.map some) (hnC : va_nd isC = true) (hnR : va_nd isR = true) (hdis : ∀ i ∈ isR, i ∉ isC) {ret : Option FieldType} (hw : wl = Cond.code y bytes maxL ret :: wl') {Cn owner : String} {x0 : MethodName} {T : u_T} {N ci : Nat} {fs : List Value} (hq : (b, oC ci fs) ∈ wc ∨ (b, oC ci fs) ∈ wr ++ RO) (hci : vwCl[ci]? = some (Cn, T, N)) (g : GoodIn Ts (va_wsU own index Cn owner x0 y wl)) (hyx : y = ⟨owner, x0.name, x0.desc⟩) (hd0 : owner ≠ "java/lang/invoke/MethodHandle" ∧ owner ≠ "java/lang/invoke/VarHandle" ∧ (parseMethodDescriptor x0.desc).map (fun d => d.parameters.length) = some As.length) (hRm : rm'.frames + 1 ≤ rm.frames ∧ 8 + (maxL + 11) + rm'.locals ≤ rm.locals) (hstk : stk = As.reverse ++ .ref b :: st) (hcat : (st.map fun v => v.category).sum ≤ 8) (hroom : k + rm'.cells ≤ rm.cells ∧ n + rm'.slots ≤ rm.slots) (hd : decode cc pc = .ok (.invokevirtual index, 3)) (kk : ∀ (ev : Int) (w1 : va_W), post ev w1 → jW X nL (k + rm'.cells) (n + rm'.slots) (wr ++ w1) lc (pc + 3) (vI ev :: st)) : jW X nL k n ws lc pc stk := by
  obtain ⟨p, l, e, R, s, m, args, below, meth, c, Q, D', Y', A, H0, RO'⟩ := X
  obtain ⟨⟨hx, hb, hml, hown, hts⟩, hK, hA, ⟨rfl, rfl, rfl, rfl⟩, hR, hRA, hN⟩ := C
  intro H locs ls hP hD hS hl
  subst hstk
  have hPc := j_sub hP isC hC
  have hDc := hD.sub isC hnC hC
  have hFc := va_free hD hS hA isC hC
  have hROc := j_ro2 hP hR hRA hS isR hR0
  have hap := j_ap hD hRA isC isR hC hR0 hdis
  refine va_calli (va_runU (As := As) (rest := st) ⟨hx, hb, hml, hown, hts⟩ (hM l _) (va_cwU As.length hts g hw rfl rfl hyx hd0 hRm) ⟨jPre.blind, va_recv hK (j_cell2 hq hPc hROc) hci (q0 := 0) rfl, fun U hU hW => ⟨rfl, by rw [hU], by rw [hU]; exact hPc, va_K.moved hW.alike hK, hDc.weaken (fun _ _ _ _ => trivial), by rw [hU]; exact hROc, hap, hN.warm hW⟩⟩ rfl rfl hl.1 rfl (lv_room hcat) hd hroom) hS (fun q _ h => hFc q h) hFc (fun r w1 t H1 locs1 ht hvm hw1 hB hz1 hk1 hS => ?_)
  obtain ⟨hP1, hD1⟩ := hB
  rw [ht] at hP1
  obtain ⟨hP, hD⟩ := va_join hP hD isC isR hC hR0 hnR hdis hk1 hFc hP1 hD1
  obtain ⟨ev, rfl, hp⟩ := hw1
  exact kk ev w1 hp H1 locs1 ls hP hD hS hl
theorem j_callOi {X : jX} {cc : ByteArray} {nL : Nat} {own : String} {Ts : List Cond} {rm : Room} {D : va_G} {Y : Nat → ClassId} {RO : va_W} {k n : Nat} {ws : va_W} {lc : List (Nat × Value)} {pc : Nat} {st stk As : List Value} {b : Nat} {y : MethodName} {wl wl' : List Cond} {rm' : Room} {post : Int → va_W → Prop} {bytes : ByteArray} {maxL index : Nat} (C : jC X cc nL own Ts rm D Y RO) (isC isR : List Nat) {wc wr : va_W} (hM : ∀ l, jMi l y wl rm' D Y (wr ++ RO) (.ref b :: As) wc post) (hC : isC.map (fun i => ws[i]?) = wc.map some) (hR0 : isR.map (fun i => ws[i]?) = wr.map some) (hnC : va_nd isC = true) (hnR : va_nd isR = true) (hdis : ∀ i ∈ isR, i ∉ isC) {ret : Option FieldType} (hw : wl = Cond.code y bytes maxL ret :: wl') {Cn owner : String} {x0 : MethodName} {T : u_T} {N ci : Nat} {fs : List Value} {b0 : ByteArray} {m0 : Nat} {r0 : Option FieldType} (hq : (b, oC ci fs) ∈ wc ∨ (b, oC ci fs) ∈ wr ++ RO) (hci : vwCl[ci]? = some (Cn, T, N)) (g : GoodIn Ts (va_wsO own index Cn owner x0 y wl)) (h0 : Cond.code ⟨owner, x0.name, x0.desc⟩ b0 m0 r0 ∈ Ts) (hd0 : owner ≠ "java/lang/invoke/MethodHandle" ∧ owner ≠ "java/lang/invoke/VarHandle" ∧ (parseMethodDescriptor x0.desc).map (fun d => d.parameters.length) = some As.length) (hRm : rm'.frames + 1 ≤ rm.frames ∧ 8 + (maxL + 11) + rm'.locals ≤ rm.locals) (hstk : stk = As.reverse ++ .ref b :: st) (hcat : (st.map fun v => v.category).sum ≤ 8) (hroom : k + rm'.cells ≤ rm.cells ∧ n + rm'.slots ≤ rm.slots) (hd : decode cc pc = .ok (.invokevirtual index, 3)) (kk : ∀ (ev : Int) (w1 : va_W), post ev w1 → jW X nL (k + rm'.cells) (n + rm'.slots) (wr ++ w1) lc (pc + 3) (vI ev :: st)) : jW X nL k n ws lc pc stk := by
  obtain ⟨p, l, e, R, s, m, args, below, meth, c, Q, D', Y', A, H0, RO'⟩ := X
  obtain ⟨⟨hx, hb, hml, hown, hts⟩, hK, hA, ⟨rfl, rfl, rfl, rfl⟩, hR, hRA, hN⟩ := C
  intro H locs ls hP hD hS hl
  subst hstk
  have hPc := j_sub hP isC hC
  have hDc := hD.sub isC hnC hC
  have hFc := va_free hD hS hA isC hC
  have hROc := j_ro2 hP hR hRA hS isR hR0
  have hap := j_ap hD hRA isC isR hC hR0 hdis
  refine va_calli (va_runU (As := As) (rest := st) ⟨hx, hb, hml, hown, hts⟩ (hM l _) (va_cwO As.length hts g hw rfl rfl h0 hd0 hRm) ⟨jPre.blind, va_recv hK (j_cell2 hq hPc hROc) hci (q0 := 0) rfl, fun U hU hW => ⟨rfl, by rw [hU], by rw [hU]; exact hPc, va_K.moved hW.alike hK, hDc.weaken (fun _ _ _ _ => trivial), by rw [hU]; exact hROc, hap, hN.warm hW⟩⟩ rfl rfl hl.1 rfl (lv_room hcat) hd hroom) hS (fun q _ h => hFc q h) hFc (fun r w1 t H1 locs1 ht hvm hw1 hB hz1 hk1 hS => ?_)
  obtain ⟨hP1, hD1⟩ := hB
  rw [ht] at hP1
  obtain ⟨hP, hD⟩ := va_join hP hD isC isR hC hR0 hnR hdis hk1 hFc hP1 hD1
  obtain ⟨ev, rfl, hp⟩ := hw1
  exact kk ev w1 hp H1 locs1 ls hP hD hS hl
theorem j_callSv {X : jX} {cc : ByteArray} {nL : Nat} {own : String} {Ts : List Cond} {rm : Room} {D : va_G} {Y : Nat → ClassId} {RO : va_W} {k n : Nat} {ws : va_W} {lc : List (Nat × Value)} {pc : Nat} {st stk As : List Value} {y : MethodName} {wl wl' : List Cond} {rm' : Room} {post : va_W → Prop} {bytes : ByteArray} {maxL index : Nat} (C : jC X cc nL own Ts rm D Y RO) (isC isR : List Nat) {wc wr : va_W} (hM : ∀ l, jMv l y wl rm' D Y (wr ++ RO) As wc post) (hC : isC.map (fun i => ws[i]?) = wc.map some) (hR0 : isR.map (fun i => ws[i]?) = wr.map some) (hnC : va_nd isC = true) (hnR : va_nd isR = true) (hdis : ∀ i ∈ isR, i ∉ isC) {ret : Option FieldType} (hw : wl = Cond.code y bytes maxL ret :: wl') (g : GoodIn Ts (va_wsS own index y wl)) (hd0 : y.cls ≠ "java/lang/invoke/MethodHandle" ∧ y.cls ≠ "java/lang/invoke/VarHandle" ∧ (parseMethodDescriptor y.desc).map (fun d => d.parameters.length) = some As.length) (hRm : rm'.frames + 1 ≤ rm.frames ∧ 8 + (maxL + 11) + rm'.locals ≤ rm.locals) (hstk : stk = As.reverse ++ st) (hcat : (st.map fun v => v.category).sum ≤ 8) (hroom : k + rm'.cells ≤ rm.cells ∧ n + rm'.slots ≤ rm.slots) (hd : decode cc pc = .ok (.invokestatic index, 3)) (kk : ∀ w1 : va_W, post w1 → jW X nL (k + rm'.cells) (n + rm'.slots) (wr ++ w1) lc (pc + 3) st) : jW X nL k n ws lc pc stk := by
  obtain ⟨p, l, e, R, s, m, args, below, meth, c, Q, D', Y', A, H0, RO'⟩ := X
  obtain ⟨⟨hx, hb, hml, hown, hts⟩, hK, hA, ⟨rfl, rfl, rfl, rfl⟩, hR, hRA, hN⟩ := C
  intro H locs ls hP hD hS hl
  subst hstk
  have hPc := j_sub hP isC hC
  have hDc := hD.sub isC hnC hC
  have hFc := va_free hD hS hA isC hC
  have hROc := j_ro2 hP hR hRA hS isR hR0
  have hap := j_ap hD hRA isC isR hC hR0 hdis
  refine va_callv (va_runS (As := As) (rest := st) ⟨hx, hb, hml, hown, hts⟩ (hM l _) (va_cwS As.length hts g hw rfl rfl hd0 hRm) ⟨jPre.blind, fun U hU hW => ⟨rfl, by rw [hU], by rw [hU]; exact hPc, va_K.moved hW.alike hK, hDc.weaken (fun _ _ _ _ => trivial), by rw [hU]; exact hROc, hap, hN.warm hW⟩⟩ rfl rfl hl.1 rfl (lv_room hcat) hd hroom) hS (fun q _ h => hFc q h) hFc (fun w1 t H1 locs1 ht hvm hw1 hB hz1 hk1 hS => ?_)
  obtain ⟨hP1, hD1⟩ := hB
  rw [ht] at hP1
  obtain ⟨hP, hD⟩ := va_join hP hD isC isR hC hR0 hnR hdis hk1 hFc hP1 hD1
  exact kk w1 hw1 H1 locs1 ls hP hD hS hl
theorem j_callSi {X : jX} {cc : ByteArray} {nL : Nat} {own : String} {Ts : List Cond} {rm : Room} {D : va_G} {Y : Nat → ClassId} {RO : va_W} {k n : Nat} {ws : va_W} {lc : List (Nat × Value)} {pc : Nat} {st stk As : List Value} {y : MethodName} {wl wl' : List Cond} {rm' : Room} {post : Int → va_W → Prop} {bytes : ByteArray} {maxL index : Nat} (C : jC X cc nL own Ts rm D Y RO) (isC isR : List Nat) {wc wr : va_W} (hM : ∀ l, jMi l y wl rm' D Y (wr ++ RO) As wc post) (hC : isC.map (fun i => ws[i]?) = wc.map some) (hR0 : isR.map (fun i => ws[i]?) = wr.map some) (hnC : va_nd isC = true) (hnR : va_nd isR = true) (hdis : ∀ i ∈ isR, i ∉ isC) {ret : Option FieldType} (hw : wl = Cond.code y bytes maxL ret :: wl') (g : GoodIn Ts (va_wsS own index y wl)) (hd0 : y.cls ≠ "java/lang/invoke/MethodHandle" ∧ y.cls ≠ "java/lang/invoke/VarHandle" ∧ (parseMethodDescriptor y.desc).map (fun d => d.parameters.length) = some As.length) (hRm : rm'.frames + 1 ≤ rm.frames ∧ 8 + (maxL + 11) + rm'.locals ≤ rm.locals) (hstk : stk = As.reverse ++ st) (hcat : (st.map fun v => v.category).sum ≤ 8) (hroom : k + rm'.cells ≤ rm.cells ∧ n + rm'.slots ≤ rm.slots) (hd : decode cc pc = .ok (.invokestatic index, 3)) (kk : ∀ (ev : Int) (w1 : va_W), post ev w1 → jW X nL (k + rm'.cells) (n + rm'.slots) (wr ++ w1) lc (pc + 3) (vI ev :: st)) : jW X nL k n ws lc pc stk := by
  obtain ⟨p, l, e, R, s, m, args, below, meth, c, Q, D', Y', A, H0, RO'⟩ := X
  obtain ⟨⟨hx, hb, hml, hown, hts⟩, hK, hA, ⟨rfl, rfl, rfl, rfl⟩, hR, hRA, hN⟩ := C
  intro H locs ls hP hD hS hl
  subst hstk
  have hPc := j_sub hP isC hC
  have hDc := hD.sub isC hnC hC
  have hFc := va_free hD hS hA isC hC
  have hROc := j_ro2 hP hR hRA hS isR hR0
  have hap := j_ap hD hRA isC isR hC hR0 hdis
  refine va_calli (va_runS (As := As) (rest := st) ⟨hx, hb, hml, hown, hts⟩ (hM l _) (va_cwS As.length hts g hw rfl rfl hd0 hRm) ⟨jPre.blind, fun U hU hW => ⟨rfl, by rw [hU], by rw [hU]; exact hPc, va_K.moved hW.alike hK, hDc.weaken (fun _ _ _ _ => trivial), by rw [hU]; exact hROc, hap, hN.warm hW⟩⟩ rfl rfl hl.1 rfl (lv_room hcat) hd hroom) hS (fun q _ h => hFc q h) hFc (fun r w1 t H1 locs1 ht hvm hw1 hB hz1 hk1 hS => ?_)
  obtain ⟨hP1, hD1⟩ := hB
  rw [ht] at hP1
  obtain ⟨hP, hD⟩ := va_join hP hD isC isR hC hR0 hnR hdis hk1 hFc hP1 hD1
  obtain ⟨ev, rfl, hp⟩ := hw1
  exact kk ev w1 hp H1 locs1 ls hP hD hS hl
theorem j_callSl {X : jX} {cc : ByteArray} {nL : Nat} {own : String} {Ts : List Cond} {rm : Room} {D : va_G} {Y : Nat → ClassId} {RO : va_W} {k n : Nat} {ws : va_W} {lc : List (Nat × Value)} {pc : Nat} {st stk As : List Value} {y : MethodName} {wl wl' : List Cond} {rm' : Room} {post : Int → va_W → Prop} {bytes : ByteArray} {maxL index : Nat} (C : jC X cc nL own Ts rm D Y RO) (isC isR : List Nat) {wc wr : va_W} (hM : ∀ l, jMl l y wl rm' D Y (wr ++ RO) As wc post) (hC : isC.map (fun i => ws[i]?) = wc.map some) (hR0 : isR.map (fun i => ws[i]?) = wr.map some) (hnC : va_nd isC = true) (hnR : va_nd isR = true) (hdis : ∀ i ∈ isR, i ∉ isC) {ret : Option FieldType} (hw : wl = Cond.code y bytes maxL ret :: wl') (g : GoodIn Ts (va_wsS own index y wl)) (hd0 : y.cls ≠ "java/lang/invoke/MethodHandle" ∧ y.cls ≠ "java/lang/invoke/VarHandle" ∧ (parseMethodDescriptor y.desc).map (fun d => d.parameters.length) = some As.length) (hRm : rm'.frames + 1 ≤ rm.frames ∧ 8 + (maxL + 11) + rm'.locals ≤ rm.locals) (hstk : stk = As.reverse ++ st) (hcat : (st.map fun v => v.category).sum ≤ 8) (hroom : k + rm'.cells ≤ rm.cells ∧ n + rm'.slots ≤ rm.slots) (hd : decode cc pc = .ok (.invokestatic index, 3)) (kk : ∀ (ev : Int) (w1 : va_W), post ev w1 → jW X nL (k + rm'.cells) (n + rm'.slots) (wr ++ w1) lc (pc + 3) (vL ev :: st)) : jW X nL k n ws lc pc stk := by
  obtain ⟨p, l, e, R, s, m, args, below, meth, c, Q, D', Y', A, H0, RO'⟩ := X
  obtain ⟨⟨hx, hb, hml, hown, hts⟩, hK, hA, ⟨rfl, rfl, rfl, rfl⟩, hR, hRA, hN⟩ := C
  intro H locs ls hP hD hS hl
  subst hstk
  have hPc := j_sub hP isC hC
  have hDc := hD.sub isC hnC hC
  have hFc := va_free hD hS hA isC hC
  have hROc := j_ro2 hP hR hRA hS isR hR0
  have hap := j_ap hD hRA isC isR hC hR0 hdis
  refine va_calll (va_runS (As := As) (rest := st) ⟨hx, hb, hml, hown, hts⟩ (hM l _) (va_cwS As.length hts g hw rfl rfl hd0 hRm) ⟨jPre.blind, fun U hU hW => ⟨rfl, by rw [hU], by rw [hU]; exact hPc, va_K.moved hW.alike hK, hDc.weaken (fun _ _ _ _ => trivial), by rw [hU]; exact hROc, hap, hN.warm hW⟩⟩ rfl rfl hl.1 rfl (lv_room hcat) hd hroom) hS (fun q _ h => hFc q h) hFc (fun r w1 t H1 locs1 ht hvm hw1 hB hz1 hk1 hS => ?_)
  obtain ⟨hP1, hD1⟩ := hB
  rw [ht] at hP1
  obtain ⟨hP, hD⟩ := va_join hP hD isC isR hC hR0 hnR hdis hk1 hFc hP1 hD1
  obtain ⟨ev, rfl, hp⟩ := hw1
  exact kk ev w1 hp H1 locs1 ls hP hD hS hl
theorem j_callSr {X : jX} {cc : ByteArray} {nL : Nat} {own : String} {Ts : List Cond} {rm : Room} {D : va_G} {Y : Nat → ClassId} {RO : va_W} {k n : Nat} {ws : va_W} {lc : List (Nat × Value)} {pc : Nat} {st stk As : List Value} {y : MethodName} {wl wl' : List Cond} {rm' : Room} {post : Option Nat → va_W → Prop} {bytes : ByteArray} {maxL index : Nat} (C : jC X cc nL own Ts rm D Y RO) (isC isR : List Nat) {wc wr : va_W} (hM : ∀ l, jMr l y wl rm' D Y (wr ++ RO) As wc post) (hC : isC.map (fun i => ws[i]?) = wc.map some) (hR0 : isR.map (fun i => ws[i]?) = wr.map some) (hnC : va_nd isC = true) (hnR : va_nd isR = true) (hdis : ∀ i ∈ isR, i ∉ isC) {ret : Option FieldType} (hw : wl = Cond.code y bytes maxL ret :: wl') (g : GoodIn Ts (va_wsS own index y wl)) (hd0 : y.cls ≠ "java/lang/invoke/MethodHandle" ∧ y.cls ≠ "java/lang/invoke/VarHandle" ∧ (parseMethodDescriptor y.desc).map (fun d => d.parameters.length) = some As.length) (hRm : rm'.frames + 1 ≤ rm.frames ∧ 8 + (maxL + 11) + rm'.locals ≤ rm.locals) (hstk : stk = As.reverse ++ st) (hcat : (st.map fun v => v.category).sum ≤ 8) (hroom : k + rm'.cells ≤ rm.cells ∧ n + rm'.slots ≤ rm.slots) (hd : decode cc pc = .ok (.invokestatic index, 3)) (kk : ∀ (ev : Option Nat) (w1 : va_W), post ev w1 → jW X nL (k + rm'.cells) (n + rm'.slots) (wr ++ w1) lc (pc + 3) (va_rf ev :: st)) : jW X nL k n ws lc pc stk := by
  obtain ⟨p, l, e, R, s, m, args, below, meth, c, Q, D', Y', A, H0, RO'⟩ := X
  obtain ⟨⟨hx, hb, hml, hown, hts⟩, hK, hA, ⟨rfl, rfl, rfl, rfl⟩, hR, hRA, hN⟩ := C
  intro H locs ls hP hD hS hl
  subst hstk
  have hPc := j_sub hP isC hC
  have hDc := hD.sub isC hnC hC
  have hFc := va_free hD hS hA isC hC
  have hROc := j_ro2 hP hR hRA hS isR hR0
  have hap := j_ap hD hRA isC isR hC hR0 hdis
  refine va_callq (va_runS (As := As) (rest := st) ⟨hx, hb, hml, hown, hts⟩ (hM l _) (va_cwS As.length hts g hw rfl rfl hd0 hRm) ⟨jPre.blind, fun U hU hW => ⟨rfl, by rw [hU], by rw [hU]; exact hPc, va_K.moved hW.alike hK, hDc.weaken (fun _ _ _ _ => trivial), by rw [hU]; exact hROc, hap, hN.warm hW⟩⟩ rfl rfl hl.1 rfl (lv_room hcat) hd hroom) hS (fun q _ h => hFc q h) hFc (fun r w1 t H1 locs1 ht hvm hw1 hB hz1 hk1 hS => ?_)
  obtain ⟨hP1, hD1⟩ := hB
  rw [ht] at hP1
  obtain ⟨hP, hD⟩ := va_join hP hD isC isR hC hR0 hnR hdis hk1 hFc hP1 hD1
  exact kk r w1 hw1 H1 locs1 ls hP hD hS hl
theorem j_callSNi {X : jX} {cc : ByteArray} {nL : Nat} {own : String} {Ts : List Cond} {rm : Room} {D : va_G} {Y : Nat → ClassId} {RO : va_W} {k n : Nat} {ws : va_W} {lc : List (Nat × Value)} {pc : Nat} {st stk As : List Value} {y : MethodName} {wl wl' : List Cond} {rm' : Room} {post : Int → va_W → Prop} {bytes : ByteArray} {maxL index : Nat} (C : jC X cc nL own Ts rm D Y RO) (isC isR : List Nat) {wc wr : va_W} (hM : ∀ l, jMi l y wl rm' D Y (wr ++ RO) As wc post) (hC : isC.map (fun i => ws[i]?) = wc.map some) (hR0 : isR.map (fun i => ws[i]?) = wr.map some) (hnC : va_nd isC = true) (hnR : va_nd isR = true) (hdis : ∀ i ∈ isR, i ∉ isC) {ret : Option FieldType} (hw : wl = Cond.code y bytes maxL ret :: wl') {host : String} (g : GoodIn Ts wl) (hst : Cond.static y ∈ Ts) (hini : Cond.initialized y.cls ∈ Ts) (hnw : ∀ U, jN U → va_Nw (.methodLinkNest own index y host) U) (hd0 : y.cls ≠ "java/lang/invoke/MethodHandle" ∧ y.cls ≠ "java/lang/invoke/VarHandle" ∧ (parseMethodDescriptor y.desc).map (fun d => d.parameters.length) = some As.length) (hRm : rm'.frames + 1 ≤ rm.frames ∧ 8 + (maxL + 11) + rm'.locals ≤ rm.locals) (hstk : stk = As.reverse ++ st) (hcat : (st.map fun v => v.category).sum ≤ 8) (hroom : k + rm'.cells ≤ rm.cells ∧ n + rm'.slots ≤ rm.slots) (hd : decode cc pc = .ok (.invokestatic index, 3)) (kk : ∀ (ev : Int) (w1 : va_W), post ev w1 → jW X nL (k + rm'.cells) (n + rm'.slots) (wr ++ w1) lc (pc + 3) (vI ev :: st)) : jW X nL k n ws lc pc stk := by
  obtain ⟨p, l, e, R, s, m, args, below, meth, c, Q, D', Y', A, H0, RO'⟩ := X
  obtain ⟨⟨hx, hb, hml, hown, hts⟩, hK, hA, ⟨rfl, rfl, rfl, rfl⟩, hR, hRA, hN⟩ := C
  intro H locs ls hP hD hS hl
  subst hstk
  have hPc := j_sub hP isC hC
  have hDc := hD.sub isC hnC hC
  have hFc := va_free hD hS hA isC hC
  have hROc := j_ro2 hP hR hRA hS isR hR0
  have hap := j_ap hD hRA isC isR hC hR0 hdis
  refine va_calli (va_runSN (As := As) (rest := st) ⟨hx, hb, hml, hown, hts⟩ (hM l _) ⟨va_cnB As.length hts g hw rfl rfl (hnw s hN) (hts _ hini) hd0 hRm, hts _ hst, trivial⟩ ⟨jPre.blind, fun U hU hW => ⟨rfl, by rw [hU], by rw [hU]; exact hPc, va_K.moved hW.alike hK, hDc.weaken (fun _ _ _ _ => trivial), by rw [hU]; exact hROc, hap, hN.warm hW⟩⟩ rfl rfl hl.1 rfl (lv_room hcat) hd hroom) hS (fun q _ h => hFc q h) hFc (fun r w1 t H1 locs1 ht hvm hw1 hB hz1 hk1 hS => ?_)
  obtain ⟨hP1, hD1⟩ := hB
  rw [ht] at hP1
  obtain ⟨hP, hD⟩ := va_join hP hD isC isR hC hR0 hnR hdis hk1 hFc hP1 hD1
  obtain ⟨ev, rfl, hp⟩ := hw1
  exact kk ev w1 hp H1 locs1 ls hP hD hS hl
theorem j_callIv {X : jX} {cc : ByteArray} {nL : Nat} {own : String} {Ts : List Cond} {rm : Room} {D : va_G} {Y : Nat → ClassId} {RO : va_W} {k n : Nat} {ws : va_W} {lc : List (Nat × Value)} {pc : Nat} {st stk As : List Value} {b : Nat} {y : MethodName} {wl wl' : List Cond} {rm' : Room} {post : va_W → Prop} {bytes : ByteArray} {maxL index : Nat} (C : jC X cc nL own Ts rm D Y RO) (isC isR : List Nat) {wc wr : va_W} (hM : ∀ l, jMv l y wl rm' D Y (wr ++ RO) (.ref b :: As) wc post) (hC : isC.map (fun i => ws[i]?) = wc.map some) (hR0 : isR.map (fun i => ws[i]?) = wr.map some) (hnC : va_nd isC = true) (hnR : va_nd isR = true) (hdis : ∀ i ∈ isR, i ∉ isC) (hw : wl = Cond.code y bytes maxL none :: wl') (g : GoodIn Ts wl) (hini : Cond.initialized y.cls ∈ Ts) (hlk : Cond.methodLink own index y ∈ Ts) (hinst : Cond.instanceMethod y ∈ Ts) (hy1 : y.name = "<init>") (hd0 : y.cls ≠ "java/lang/invoke/MethodHandle" ∧ y.cls ≠ "java/lang/invoke/VarHandle" ∧ (parseMethodDescriptor y.desc).map (fun d => d.parameters.length) = some As.length) (hRm : rm'.frames + 1 ≤ rm.frames ∧ 8 + (maxL + 11) + rm'.locals ≤ rm.locals) (hstk : stk = As.reverse ++ .ref b :: st) (hcat : (st.map fun v => v.category).sum ≤ 8) (hroom : k + rm'.cells ≤ rm.cells ∧ n + rm'.slots ≤ rm.slots) (hd : decode cc pc = .ok (.invokespecial index, 3)) (kk : ∀ w1 : va_W, post w1 → jW X nL (k + rm'.cells) (n + rm'.slots) (wr ++ w1) lc (pc + 3) st) : jW X nL k n ws lc pc stk := by
  obtain ⟨p, l, e, R, s, m, args, below, meth, c, Q, D', Y', A, H0, RO'⟩ := X
  obtain ⟨⟨hx, hb, hml, hown, hts⟩, hK, hA, ⟨rfl, rfl, rfl, rfl⟩, hR, hRA, hN⟩ := C
  intro H locs ls hP hD hS hl
  subst hstk
  have hPc := j_sub hP isC hC
  have hDc := hD.sub isC hnC hC
  have hFc := va_free hD hS hA isC hC
  have hROc := j_ro2 hP hR hRA hS isR hR0
  have hap := j_ap hD hRA isC isR hC hR0 hdis
  refine va_callv (va_runI (As := As) (rest := st) ⟨hx, hb, hml, hown, hts⟩ (hM l _) (cwI As.length hts g hw rfl rfl (hts _ hini) (hts _ hlk) (hts _ hinst) hy1 hd0 hRm) ⟨jPre.blind, fun U hU hW => ⟨rfl, by rw [hU], by rw [hU]; exact hPc, va_K.moved hW.alike hK, hDc.weaken (fun _ _ _ _ => trivial), by rw [hU]; exact hROc, hap, hN.warm hW⟩⟩ rfl rfl hl.1 rfl (lv_room hcat) hd hroom) hS (fun q _ h => hFc q h) hFc (fun w1 t H1 locs1 ht hvm hw1 hB hz1 hk1 hS => ?_)
  obtain ⟨hP1, hD1⟩ := hB
  rw [ht] at hP1
  obtain ⟨hP, hD⟩ := va_join hP hD isC isR hC hR0 hnR hdis hk1 hFc hP1 hD1
  exact kk w1 hw1 H1 locs1 ls hP hD hS hl
theorem j_callINv {X : jX} {cc : ByteArray} {nL : Nat} {own : String} {Ts : List Cond} {rm : Room} {D : va_G} {Y : Nat → ClassId} {RO : va_W} {k n : Nat} {ws : va_W} {lc : List (Nat × Value)} {pc : Nat} {st stk As : List Value} {b : Nat} {y : MethodName} {wl wl' : List Cond} {rm' : Room} {post : va_W → Prop} {bytes : ByteArray} {maxL index : Nat} (C : jC X cc nL own Ts rm D Y RO) (isC isR : List Nat) {wc wr : va_W} (hM : ∀ l, jMv l y wl rm' D Y (wr ++ RO) (.ref b :: As) wc post) (hC : isC.map (fun i => ws[i]?) = wc.map some) (hR0 : isR.map (fun i => ws[i]?) = wr.map some) (hnC : va_nd isC = true) (hnR : va_nd isR = true) (hdis : ∀ i ∈ isR, i ∉ isC) (hw : wl = Cond.code y bytes maxL none :: wl') {host : String} (g : GoodIn Ts wl) (hini : Cond.initialized y.cls ∈ Ts) (hinst : Cond.instanceMethod y ∈ Ts) (hnw : ∀ U, jN U → va_Nw (.methodLinkNest own index y host) U) (hy1 : y.name = "<init>") (hd0 : y.cls ≠ "java/lang/invoke/MethodHandle" ∧ y.cls ≠ "java/lang/invoke/VarHandle" ∧ (parseMethodDescriptor y.desc).map (fun d => d.parameters.length) = some As.length) (hRm : rm'.frames + 1 ≤ rm.frames ∧ 8 + (maxL + 11) + rm'.locals ≤ rm.locals) (hstk : stk = As.reverse ++ .ref b :: st) (hcat : (st.map fun v => v.category).sum ≤ 8) (hroom : k + rm'.cells ≤ rm.cells ∧ n + rm'.slots ≤ rm.slots) (hd : decode cc pc = .ok (.invokespecial index, 3)) (kk : ∀ w1 : va_W, post w1 → jW X nL (k + rm'.cells) (n + rm'.slots) (wr ++ w1) lc (pc + 3) st) : jW X nL k n ws lc pc stk := by
  obtain ⟨p, l, e, R, s, m, args, below, meth, c, Q, D', Y', A, H0, RO'⟩ := X
  obtain ⟨⟨hx, hb, hml, hown, hts⟩, hK, hA, ⟨rfl, rfl, rfl, rfl⟩, hR, hRA, hN⟩ := C
  intro H locs ls hP hD hS hl
  subst hstk
  have hPc := j_sub hP isC hC
  have hDc := hD.sub isC hnC hC
  have hFc := va_free hD hS hA isC hC
  have hROc := j_ro2 hP hR hRA hS isR hR0
  have hap := j_ap hD hRA isC isR hC hR0 hdis
  refine va_callv (va_runIN (As := As) (rest := st) ⟨hx, hb, hml, hown, hts⟩ (hM l _) ⟨va_cnB As.length hts g hw rfl rfl (hnw s hN) (hts _ hini) hd0 hRm, hy1, hts _ hinst⟩ ⟨jPre.blind, fun U hU hW => ⟨rfl, by rw [hU], by rw [hU]; exact hPc, va_K.moved hW.alike hK, hDc.weaken (fun _ _ _ _ => trivial), by rw [hU]; exact hROc, hap, hN.warm hW⟩⟩ rfl rfl hl.1 rfl (lv_room hcat) hd hroom) hS (fun q _ h => hFc q h) hFc (fun w1 t H1 locs1 ht hvm hw1 hB hz1 hk1 hS => ?_)
  obtain ⟨hP1, hD1⟩ := hB
  rw [ht] at hP1
  obtain ⟨hP, hD⟩ := va_join hP hD isC isR hC hR0 hnR hdis hk1 hFc hP1 hD1
  exact kk w1 hw1 H1 locs1 ls hP hD hS hl
end
section
theorem va_P_cong {D : va_G} {ws : va_W} {H : Heap} {q1 a : Nat} {cA : ClassId} {x x' : vp_A} (he : vp_cell cA x = vp_cell cA x') (h : va_P D vwCl (ws.set q1 (a, .inl (cA, x))) H) : va_P D vwCl (ws.set q1 (a, .inl (cA, x'))) H := by
  intro k q hk
  by_cases e : q1 = k
  · subst e
    by_cases hl : q1 < ws.length
    · rw [List.getElem?_set_self hl] at hk
      cases hk
      have := h q1 (a, .inl (cA, x)) (List.getElem?_set_self hl)
      show H[a]? = some (vp_cell cA x')
      rw [← he]
      exact this
    · rw [List.getElem?_eq_none (by rw [List.length_set]; omega)] at hk
      cases hk
  · rw [List.getElem?_set_ne e] at hk
    exact h k q (by rw [List.getElem?_set_ne e]; exact hk)
theorem arrV_cong {cA : ClassId} {n : Nat} {f g : Nat → Value} (h : ∀ k, k < n → f k = g k) : arrV cA n f = arrV cA n g := by
  unfold arrV
  congr 1
  congr 1
  funext j
  exact h j.val j.isLt
theorem j_copy {X : jX} {cc : ByteArray} {nL : Nat} {own : String} {Ts : List Cond} {rm : Room} {D : va_G} {Y : Nat → ClassId} {RO : va_W} {k n : Nat} {ws ws' : va_W} {lc : List (Nat × Value)} {pc index : Nat} {st : List Value} (C : jC X cc nL own Ts rm D Y RO) (q0 q1 : Nat) {cA : ClassId} {m0 : Nat} {f g : Int → Int} {a0 a : Nat} (ha0 : ws[q0]? = some (a0, aI cA m0 f)) (ha1 : ws[q1]? = some (a, aI cA m0 g)) (hcA : cA = Y 0) (hm : m0 < 2147483648) {t : Int} (ht : t = (m0 : Int)) (hlink : Cond.methodLink own index arraycopyName ∈ Ts) (hnat : Cond.native arraycopyName ∈ Ts) (hstat : Cond.static arraycopyName ∈ Ts) (hini : Cond.initialized "java/lang/System" ∈ Ts) (hfr : 1 ≤ rm.frames) (hlo : (st.map fun v => v.category).sum + (nativeFrameWords "java/lang/System" "arraycopy" 5 + 11) ≤ rm.locals) (hw : ws.set q1 (a, aI cA m0 f) = ws') (hd : decode cc pc = .ok (.invokestatic index, 3)) (kk : jW X nL k n ws' lc (pc + 3) st) : jW X nL k n ws lc pc (vI t :: vI 0 :: .ref a :: vI 0 :: .ref a0 :: st) := by
  obtain ⟨p, l, e, R, s, m, args, below, meth, c, Q, D', Y', A, H0, RO'⟩ := X
  obtain ⟨⟨hx, hb, hml, hown, hts⟩, hK, hA, ⟨rfl, rfl, rfl, rfl⟩, hR, hRA, hN⟩ := C
  intro H locs ls hP hD hS hl
  subst hcA hw ht
  have e0 : (Int32.ofInt 0).toNatClampNeg = 0 := rfl
  have en : (Int32.ofInt (m0 : Int)).toNatClampNeg = m0 := by rw [nj_cl (by omega)]; omega
  have z0 : ¬ Int32.ofInt 0 < 0 := by decide
  have zn : ¬ Int32.ofInt (m0 : Int) < 0 := by rw [nj_z, nj_lt (by omega)]; omega
  refine va_copyi hx hb (by rw [hml]; exact hl.1.symm) hown (hts _ hlink) (hts _ hnat) (hts _ hstat) (hts _ hini) hK hP hD hS q0 q1 0 0 (c0 := Y' 0) (c1 := Y' 0) (n0 := m0) (n1 := m0) (f := fun k : Nat => Int32.ofInt (f (k : Int))) (g := fun k : Nat => Int32.ofInt (g (k : Int))) ha0 ha1 rfl rfl rfl z0 z0 zn (by rw [e0, en]; omega) (by rw [e0, en]; omega) (fun _ _ => rfl) hfr hlo hd (fun H1 locs1 hP1 hD1 hS1 => ?_)
  refine kk H1 locs1 ls (va_P_cong ?_ hP1) (hD.set ha1) hS1 hl
  rw [vp_cell_i, vp_cell_i]
  refine arrV_cong (fun k hk => ?_)
  unfold va_cpy
  rw [e0, en, if_pos (by omega)]
  simp
theorem j_mmin {X : jX} {cc : ByteArray} {nL : Nat} {own : String} {Ts : List Cond} {rm : Room} {D : va_G} {Y : Nat → ClassId} {RO : va_W} {k n : Nat} {ws : va_W} {lc : List (Nat × Value)} {pc index : Nat} {st : List Value} (C : jC X cc nL own Ts rm D Y RO) {a b : Int} (hr : (-2147483648 ≤ a ∧ a ≤ 2147483647) ∧ (-2147483648 ≤ b ∧ b ≤ 2147483647)) (hlink : Cond.methodLink own index Lib.Math.min.name ∈ Ts) (hstat : Cond.static Lib.Math.min.name ∈ Ts) (hini : Cond.initialized "java/lang/Math" ∈ Ts) (hcode : Cond.code Lib.Math.min.name Lib.Math.min.code 2 (some .int) ∈ Ts) (hfr : 1 ≤ rm.frames) (hlo : (st.map fun v => v.category).sum + 13 ≤ rm.locals) (hcl : k ≤ rm.cells ∧ n ≤ rm.slots) (hd : decode cc pc = .ok (.invokestatic index, 3)) (kk : jW X nL k n ws lc (pc + 3) (vI (if b < a then b else a) :: st)) : jW X nL k n ws lc pc (vI b :: vI a :: st) := by
  obtain ⟨p, l, e, R, s, m, args, below, meth, c, Q, D', Y', A, H0, RO'⟩ := X
  obtain ⟨⟨hx, hb, hml, hown, hts⟩, hK, hA, ⟨rfl, rfl, rfl, rfl⟩, hR, hRA, hN⟩ := C
  intro H locs ls hP hD hS hl
  refine va_mmin hx hb (by rw [hml]; exact hl.1.symm) hown (hts _ hlink) (hts _ hstat) (hts _ hini) (hts _ hcode) hfr hlo hcl.1 hcl.2 hd ?_
  have e1 : (if Int32.ofInt b < Int32.ofInt a then Int32.ofInt b else Int32.ofInt a) = Int32.ofInt (if b < a then b else a) := by
    by_cases q : b < a
    · rw [if_pos ((nj_lt hr.symm).mpr q), if_pos q]
    · rw [if_neg (fun h => q ((nj_lt hr.symm).mp h)), if_neg q]
  rw [e1]
  exact kk H locs ls hP hD hS hl
theorem j_mabs {X : jX} {cc : ByteArray} {nL : Nat} {own : String} {Ts : List Cond} {rm : Room} {D : va_G} {Y : Nat → ClassId} {RO : va_W} {k n : Nat} {ws : va_W} {lc : List (Nat × Value)} {pc index : Nat} {st : List Value} (C : jC X cc nL own Ts rm D Y RO) {a : Int} (hr : -2147483648 ≤ a ∧ a ≤ 2147483647) (hlink : Cond.methodLink own index Lib.Math.abs.name ∈ Ts) (hstat : Cond.static Lib.Math.abs.name ∈ Ts) (hini : Cond.initialized "java/lang/Math" ∈ Ts) (hcode : Cond.code Lib.Math.abs.name Lib.Math.abs.code 1 (some .int) ∈ Ts) (hfr : 1 ≤ rm.frames) (hlo : (st.map fun v => v.category).sum + 13 ≤ rm.locals) (hcl : k ≤ rm.cells ∧ n ≤ rm.slots) (hd : decode cc pc = .ok (.invokestatic index, 3)) (kk : jW X nL k n ws lc (pc + 3) (vI (if 0 ≤ a then a else -a) :: st)) : jW X nL k n ws lc pc (vI a :: st) := by
  obtain ⟨p, l, e, R, s, m, args, below, meth, c, Q, D', Y', A, H0, RO'⟩ := X
  obtain ⟨⟨hx, hb, hml, hown, hts⟩, hK, hA, ⟨rfl, rfl, rfl, rfl⟩, hR, hRA, hN⟩ := C
  intro H locs ls hP hD hS hl
  refine va_mabs hx hb (by rw [hml]; exact hl.1.symm) hown (hts _ hlink) (hts _ hstat) (hts _ hini) (hts _ hcode) hfr hlo hcl.1 hcl.2 hd ?_
  have e1 : (if 0 ≤ Int32.ofInt a then Int32.ofInt a else 0 - Int32.ofInt a) = Int32.ofInt (if 0 ≤ a then a else -a) := by
    have h0 : (0 : Int32) ≤ Int32.ofInt a ↔ 0 ≤ a := by rw [nj_z]; exact nj_le ⟨by decide, hr⟩
    by_cases q : 0 ≤ a
    · rw [if_pos (h0.mpr q), if_pos q]
    · rw [if_neg (fun h => q (h0.mp h)), if_neg q, nj_z, ← Int32.ofInt_sub]; congr 1; omega
  rw [e1]
  exact kk H locs ls hP hD hS hl
theorem j_putF {X : jX} {cc : ByteArray} {nL : Nat} {own : String} {Ts : List Cond} {rm : Room} {D : va_G} {Y : Nat → ClassId} {RO : va_W} {k n : Nat} {ws : va_W} {lc : List (Nat × Value)} {pc : Nat} {st : List Value} (C : jC X cc nL own Ts rm D Y RO) {ci index N : Nat} {Cn ref : String} {T : u_T} {ty0 : Nat → FieldType} {fs : List Value} {a : Nat} {v : Value} {ty : FieldType} {ws' : va_W} (q0 : Nat) (he : ws[q0]? = some (a, oC ci fs)) (hc : vwCl[ci]? = some (Cn, T, N)) (hin : ∀ w ∈ u_ws Cn T N, w ∈ Ts) (hty : ∀ k, k < N → parseFieldDescriptor (T k).2.2.1 = some (ty0 k)) (hnm : ∀ a, a < N → ∀ b, b < N → a ≠ b → (T a).2.1 ≠ (T b).2.1) (kf : Nat) (hk : kf < N) (hlink : Cond.fieldLink own index ref (T kf).2.1 (T kf).2.2.1 ∈ Ts) (hsame : (T kf).1 = ref ∨ Cond.sameField ref (T kf).1 (T kf).2.1 (T kf).2.2.1 ∈ Ts) (hfin : (T kf).2.2.2 = true) (hI : jI X) (hdecl : (T kf).1 = own) (hdd : ty0 kf = ty) (hn : narrow ty v = v) (hfit : fits ty v = true) (hl0 : kf < fs.length) (hw : ws.set q0 (a, oC ci (fs.set kf v)) = ws') (hd : decode cc pc = .ok (.putfield index, 3)) (kk : jW X nL k n ws' lc (pc + 3) st) : jW X nL k n ws lc pc (v :: .ref a :: st) := by
  obtain ⟨p, l, e, R, s, m, args, below, meth, c, Q, D', Y', A, H0, RO'⟩ := X
  obtain ⟨⟨hx, hb, hml, hown, hts⟩, hK, hA, ⟨rfl, rfl, rfl, rfl⟩, hR, hRA, hN⟩ := C
  intro H locs ls hP hD hS hl
  subst hw hdd
  exact va_putF hx hb hts hin ty0 hty hnm hown hK hP hD hS q0 he hc kf hk (hts _ hlink) (j_same hts hsame) hfin hI hdecl (hty kf hk) hn hfit hl0 hd (fun H1 locs1 hP hD hS => kk H1 locs1 ls hP hD hS hl)
theorem j_objInit {X : jX} {cc : ByteArray} {nL : Nat} {own : String} {Ts : List Cond} {rm : Room} {D : va_G} {Y : Nat → ClassId} {RO : va_W} {k n : Nat} {ws : va_W} {lc : List (Nat × Value)} {pc : Nat} {st : List Value} (C : jC X cc nL own Ts rm D Y RO) {idx a : Nat} (hlink : Cond.methodLink own idx objectInit ∈ Ts) (hinst : Cond.instanceMethod objectInit ∈ Ts) (hcode : Cond.code objectInit ⟨#[0xb1]⟩ 1 none ∈ Ts) (hfr : 1 ≤ rm.frames) (hlo : (st.map fun v => v.category).sum + 12 ≤ rm.locals) (hd : decode cc pc = .ok (.invokespecial idx, 3)) (kk : jW X nL k n ws lc (pc + 3) st) : jW X nL k n ws lc pc (.ref a :: st) := by
  obtain ⟨p, l, e, R, s, m, args, below, meth, c, Q, D', Y', A, H0, RO'⟩ := X
  obtain ⟨⟨hx, hb, hml, hown, hts⟩, hK, hA, ⟨rfl, rfl, rfl, rfl⟩, hR, hRA, hN⟩ := C
  intro H locs ls hP hD hS hl
  exact W.objInit hx hb hown (hts _ hlink) (hts _ hinst) (hts _ hcode) rfl (by rw [hml]; exact hl.1) rfl hd hfr (by show 2 * 0 + _ + 12 ≤ _; omega) (kk H locs ls hP hD hS hl)
theorem j_new {X : jX} {cc : ByteArray} {nL : Nat} {own : String} {Ts : List Cond} {rm : Room} {D : va_G} {Y : Nat → ClassId} {RO : va_W} {k n : Nat} {ws : va_W} {lc : List (Nat × Value)} {pc : Nat} {st : List Value} (C : jC X cc nL own Ts rm D Y RO) {ci index N : Nat} {Cn : String} {T : u_T} (fs : List Value) {ty0 : Nat → FieldType} (hc : vwCl[ci]? = some (Cn, T, N)) (hin : ∀ w ∈ u_ws Cn T N, w ∈ Ts) (hty : ∀ k, k < N → parseFieldDescriptor (T k).2.2.1 = some (ty0 k)) (hcl : Cond.classLink own index Cn ∈ Ts) (hinst : Cond.instantiable Cn N ∈ Ts) (hini : Cond.initialized Cn ∈ Ts) (hfs : ∀ j, j < N → defaultValue (ty0 j) = vp_V fs j) (hroom : k + 1 ≤ rm.cells ∧ n + N ≤ rm.slots) (hd : decode cc pc = .ok (.new index, 3)) (kk : ∀ q : Nat, jW X nL (k + 1) (n + N) (ws ++ [(q, oC ci fs)]) lc (pc + 3) (.ref q :: st)) : jW X nL k n ws lc pc st := by
  obtain ⟨p, l, e, R, s, m, args, below, meth, c, Q, D', Y', A, H0, RO'⟩ := X
  obtain ⟨⟨hx, hb, hml, hown, hts⟩, hK, hA, ⟨rfl, rfl, rfl, rfl⟩, hR, hRA, hN⟩ := C
  intro H locs ls hP hD hS hl
  exact va_new hx hb hts hin ty0 hty hown (hts _ hcl) (hts _ hinst) (hts _ hini) hK hP hD hS hA hc hfs hroom.1 hroom.2 hd (fun q H1 hP hD hS => kk q H1 locs ls hP hD hS hl)
end
section
/-! what the calls do, over whole numbers -/
def foldI {σ : Type} (f : Int → σ → σ) : Nat → σ → σ
  | 0, s => s
  | k + 1, s => f (k : Int) (foldI f k s)
/-- f over 0, 1 .. n-1 -/
def fo {σ : Type} (f : Int → σ → σ) (n : Int) (s : σ) : σ := foldI f n.toNat s
theorem fo_zero {σ : Type} (f : Int → σ → σ) (s : σ) : fo f 0 s = s := rfl
theorem fo_succ {σ : Type} (f : Int → σ → σ) {n : Int} (h : 0 ≤ n) (s : σ) : fo f (n + 1) s = f n (fo f n s) := by
  unfold fo
  have e : (n + 1).toNat = n.toNat + 1 := by omega
  rw [e]
  show f ((n.toNat : Nat) : Int) _ = _
  rw [show ((n.toNat : Nat) : Int) = n by omega]
theorem fo_neg {σ : Type} (f : Int → σ → σ) {n : Int} (h : n ≤ 0) (s : σ) : fo f n s = s := by
  unfold fo
  rw [show n.toNat = 0 by omega]
  rfl
/-- what holds at the start and is kept holds in the end -/
theorem fo_ind {σ : Type} {f : Int → σ → σ} (P : Int → σ → Prop) {n : Int} (hn : 0 ≤ n) {s : σ} (h0 : P 0 s) (hs : ∀ (k : Int) (t : σ), 0 ≤ k → k < n → P k t → P (k + 1) (f k t)) : P n (fo f n s) := by
  have go : ∀ m : Nat, (m : Int) ≤ n → P (m : Int) (foldI f m s) := by
    intro m
    induction m with
    | zero => intro _; exact h0
    | succ m ih =>
      intro hm
      have := hs (m : Int) _ (by omega) (by omega) (ih (by omega))
      rw [show ((m + 1 : Nat) : Int) = (m : Int) + 1 by omega]
      exact this
  have := go n.toNat (by omega)
  rwa [show ((n.toNat : Nat) : Int) = n by omega] at this
theorem up_self {α : Type} (g : Int → α) (i : Int) : up g i (g i) = g := by
  funext j
  unfold up
  by_cases h : j = i
  · rw [if_pos h, h]
  · rw [if_neg h]
/-- the moor: heights, marks, week, last, seed, laid, taken, spilt -/
abbrev MS : Type := (Int → Int) × (Int → Int) × Int × Int × Int × Int × Int × Int
abbrev ms_h (S : MS) : Int → Int := S.1
abbrev ms_m (S : MS) : Int → Int := S.2.1
abbrev ms_w (S : MS) : Int := S.2.2.1
abbrev ms_l (S : MS) : Int := S.2.2.2.1
abbrev ms_s (S : MS) : Int := S.2.2.2.2.1
abbrev ms_a (S : MS) : Int := S.2.2.2.2.2.1
abbrev ms_t (S : MS) : Int := S.2.2.2.2.2.2.1
abbrev ms_p (S : MS) : Int := S.2.2.2.2.2.2.2
def okS (S : MS) : Prop := (∀ i : Int, 0 ≤ i ∧ i < 7 → 0 ≤ ms_h S i ∧ ms_h S i ≤ 60) ∧ (∀ j : Int, 0 ≤ ms_m S j ∧ ms_m S j ≤ ms_w S) ∧ (0 ≤ ms_l S ∧ ms_l S < 7) ∧ (0 ≤ ms_s S ∧ ms_s S ≤ 2147483647)
theorem okS.w {S : MS} (h : okS S) : 0 ≤ ms_w S := by have := h.2.1 0; omega
/-- a pebble with its mark comes upon a cairn -/
def putS (c x : Int) (S : MS) : MS := if ms_h S c = 60 then (ms_h S, ms_m S, ms_w S, ms_l S, ms_s S, ms_a S, ms_t S, ms_p S + 1) else (up (ms_h S) c (ms_h S c + 1), up (ms_m S) (60 * c + ms_h S c) x, ms_w S, ms_l S, ms_s S, ms_a S, ms_t S, ms_p S)
theorem putS_full {c x : Int} {S : MS} (h : ms_h S c = 60) : putS c x S = (ms_h S, ms_m S, ms_w S, ms_l S, ms_s S, ms_a S, ms_t S, ms_p S + 1) := if_pos h
theorem putS_not {c x : Int} {S : MS} (h : ¬ ms_h S c = 60) : putS c x S = (up (ms_h S) c (ms_h S c + 1), up (ms_m S) (60 * c + ms_h S c) x, ms_w S, ms_l S, ms_s S, ms_a S, ms_t S, ms_p S) := if_neg h
theorem putS_w (c x : Int) (S : MS) : ms_w (putS c x S) = ms_w S := by unfold putS; split <;> rfl
theorem putS_l (c x : Int) (S : MS) : ms_l (putS c x S) = ms_l S := by unfold putS; split <;> rfl
theorem putS_s (c x : Int) (S : MS) : ms_s (putS c x S) = ms_s S := by unfold putS; split <;> rfl
theorem putS_a (c x : Int) (S : MS) : ms_a (putS c x S) = ms_a S := by unfold putS; split <;> rfl
theorem putS_t (c x : Int) (S : MS) : ms_t (putS c x S) = ms_t S := by unfold putS; split <;> rfl
theorem okS_put {c x : Int} {S : MS} (h : okS S) (hc : 0 ≤ c ∧ c < 7) (hx : 0 ≤ x ∧ x ≤ ms_w S) : okS (putS c x S) := by
  by_cases hf : ms_h S c = 60
  · rw [putS_full hf]; exact h
  · rw [putS_not hf]
    refine ⟨fun i hi => ?_, fun j => ?_, h.2.2⟩
    · show 0 ≤ up (ms_h S) c _ i ∧ up (ms_h S) c _ i ≤ 60
      unfold up
      have h1 := h.1 i hi
      have h2 := h.1 c hc
      split <;> omega
    · show 0 ≤ up (ms_m S) _ x j ∧ up (ms_m S) _ x j ≤ ms_w S
      unfold up
      split
      · exact hx
      · exact h.2.1 j
def setA (S : MS) (v : Int) : MS := (ms_h S, ms_m S, ms_w S, ms_l S, ms_s S, v, ms_t S, ms_p S)
def setL (S : MS) (v : Int) : MS := (ms_h S, ms_m S, ms_w S, v, ms_s S, ms_a S, ms_t S, ms_p S)
def setW (S : MS) (v : Int) : MS := (ms_h S, ms_m S, v, ms_l S, ms_s S, ms_a S, ms_t S, ms_p S)
def setD (S : MS) (v : Int) : MS := (ms_h S, ms_m S, ms_w S, ms_l S, v, ms_a S, ms_t S, ms_p S)
def setH (S : MS) (v : Int → Int) : MS := (v, ms_m S, ms_w S, ms_l S, ms_s S, ms_a S, ms_t S, ms_p S)
def putW (c : Int) (S : MS) : MS := putS c (ms_w S) S
def putN (c n : Int) (S : MS) : MS := fo (fun _ T => putW c T) n S
/-- so many new pebbles are laid on a cairn -/
def layS (c n : Int) (S : MS) : MS := setA (putN c n S) (ms_a (putN c n S) + n)
theorem okS_putN {c n : Int} {S : MS} (h : okS S) (hc : 0 ≤ c ∧ c < 7) (hn : 0 ≤ n) : okS (putN c n S) ∧ ms_w (putN c n S) = ms_w S ∧ ms_a (putN c n S) = ms_a S := by
  refine fo_ind (P := fun _ T => okS T ∧ ms_w T = ms_w S ∧ ms_a T = ms_a S) hn ⟨h, rfl, rfl⟩ (fun k T _ _ hT => ?_)
  exact ⟨okS_put hT.1 hc ⟨hT.1.w, Int.le_refl _⟩, (putS_w _ _ _).trans hT.2.1, (putS_a _ _ _).trans hT.2.2⟩
theorem okS_lay {c n : Int} {S : MS} (h : okS S) (hc : 0 ≤ c ∧ c < 7) (hn : 0 ≤ n) : okS (layS c n S) := (okS_putN h hc hn).1
theorem layS_w {c n : Int} {S : MS} (h : okS S) (hc : 0 ≤ c ∧ c < 7) (hn : 0 ≤ n) : ms_w (layS c n S) = ms_w S := (okS_putN h hc hn).2.1
theorem putS_setA (c x v : Int) (S : MS) : putS c x (setA S v) = setA (putS c x S) v := by
  by_cases h : ms_h S c = 60
  · rw [putS_full (S := setA S v) h, putS_full h]; rfl
  · rw [putS_not (S := setA S v) h, putS_not h]; rfl
theorem putN_setA (c n v : Int) (S : MS) : putN c n (setA S v) = setA (putN c n S) v := by
  unfold putN fo
  induction n.toNat with
  | zero => rfl
  | succ k ih => show putW c (foldI _ k _) = setA (putW c (foldI _ k _)) v; rw [ih]; exact putS_setA c _ v _
/-- so many taken off a cairn, as far as there are some -/
def offS (c n : Int) (S : MS) : Int := if ms_h S c < n then ms_h S c else n
def takeS (c n : Int) (S : MS) : MS := (up (ms_h S) c (ms_h S c - offS c n S), ms_m S, ms_w S, ms_l S, ms_s S, ms_a S, ms_t S + offS c n S, ms_p S)
theorem okS_take {c n : Int} {S : MS} (h : okS S) (hc : 0 ≤ c ∧ c < 7) (hn : 0 ≤ n) : okS (takeS c n S) := by
  refine ⟨fun i hi => ?_, h.2.1, h.2.2⟩
  show 0 ≤ up (ms_h S) c _ i ∧ up (ms_h S) c _ i ≤ 60
  have h1 := h.1 i hi
  have h2 := h.1 c hc
  unfold up offS
  split <;> (try split) <;> omega
/-- the cairn with most, with fewest (of like ones the least) -/
def mostF (h : Int → Int) (i b : Int) : Int := if h b < h i then i else b
def leastF (h : Int → Int) (i b : Int) : Int := if h i < h b then i else b
def mostI (h : Int → Int) : Int := fo (mostF h) 7 0
def leastI (h : Int → Int) : Int := fo (leastF h) 7 0
theorem mostI_in (h : Int → Int) : 0 ≤ mostI h ∧ mostI h < 7 := by
  have := fo_ind (f := mostF h) (s := 0) (n := 7) (P := fun k b => 0 ≤ b ∧ (b < k ∨ (k = 0 ∧ b = 0))) (by decide) (by decide) (fun k b hk _ hb => by unfold mostF; split <;> omega)
  unfold mostI; omega
theorem leastI_in (h : Int → Int) : 0 ≤ leastI h ∧ leastI h < 7 := by
  have := fo_ind (f := leastF h) (s := 0) (n := 7) (P := fun k b => 0 ≤ b ∧ (b < k ∨ (k = 0 ∧ b = 0))) (by decide) (by decide) (fun k b hk _ hb => by unfold leastF; split <;> omega)
  unfold leastI; omega
def sumF (h : Int → Int) (i s : Int) : Int := s + h i
def sumI (h : Int → Int) (n : Int) : Int := fo (sumF h) n 0
/-- a draw -/
def drawS (S : MS) : MS := setD S ((1103515245 * ms_s S + 12345) % 2147483648)
def drawV (S : MS) : Int := (ms_s S / 65536) % 10
theorem okS_draw {S : MS} (h : okS S) : okS (drawS S) := ⟨h.1, h.2.1, h.2.2.1, by show 0 ≤ (1103515245 * ms_s S + 12345) % 2147483648 ∧ (1103515245 * ms_s S + 12345) % 2147483648 ≤ 2147483647; omega⟩
/-- a rule's cairn -/
def ruleS (r num : Int) (S : MS) : Int := if r = 7 then mostI (ms_h S) else if r = 8 then leastI (ms_h S) else if r = 9 then num else if r = 10 then (ms_l S + 1) % 7 else r
def okR (r : Int) : Prop := 0 ≤ r ∧ r ≤ 10
theorem ruleS_in {r num : Int} {S : MS} (hr : okR r) (hn : 0 ≤ num ∧ num < 7) (h : okS S) : 0 ≤ ruleS r num S ∧ ruleS r num S < 7 := by
  unfold ruleS
  have h1 := mostI_in (ms_h S)
  have h2 := leastI_in (ms_h S)
  have h3 := h.2.2.1
  unfold okR at hr
  split
  · exact h1
  split
  · exact h2
  split
  · exact hn
  split
  · omega
  · omega
/-- a parish: kind, n, walkers, wish, sin; a custom: the rule of a wish, of a sin, every -/
abbrev PT : Type := Int × Int × Int × Int × Int
abbrev pk (P : PT) : Int := P.1
abbrev pn (P : PT) : Int := P.2.1
abbrev pw (P : PT) : Int := P.2.2.1
abbrev pi (P : PT) : Int := P.2.2.2.1
abbrev pz (P : PT) : Int := P.2.2.2.2
abbrev CT : Type := Int × Int × Int
abbrev cw (C : CT) : Int := C.1
abbrev cz (C : CT) : Int := C.2.1
abbrev ce (C : CT) : Int := C.2.2
def okP (P : PT) : Prop := (0 ≤ pk P ∧ pk P ≤ 3) ∧ (pk P = 0 → pn P = 0) ∧ (pk P = 1 → 2 ≤ pn P ∧ pn P ≤ 4) ∧ (2 ≤ pk P → 0 ≤ pn P ∧ pn P < 7) ∧ (1 ≤ pw P ∧ pw P ≤ 9) ∧ (0 ≤ pi P ∧ pi P ≤ 10) ∧ (0 ≤ pz P ∧ pz P ≤ 10)
def okC (C : CT) : Prop := okR (cw C) ∧ okR (cz C) ∧ (0 ≤ ce C ∧ ce C ≤ 9)
def giftP (P : PT) : Int := if pk P = 1 then pn P else 1
def lossP (P : PT) : Int := if 2 ≤ pk P then 0 else 1
def hideP (P : PT) : Int := if 2 ≤ pk P then pn P else -1
theorem giftP_in {P : PT} (h : okP P) : 1 ≤ giftP P ∧ giftP P ≤ 4 := by
  unfold giftP
  have := h.2.2.1
  split
  · have := this (by assumption); omega
  · omega
theorem lossP_in (P : PT) : 0 ≤ lossP P ∧ lossP P ≤ 1 := by unfold lossP; split <;> omega
theorem hideP_in {P : PT} (h : okP P) : -1 ≤ hideP P ∧ hideP P < 7 := by
  unfold hideP
  have := h.2.2.2.1
  split
  · have := this (by assumption); omega
  · omega
/-- the mark so deep in a cairn -/
def markS (c d : Int) (S : MS) : Int := if 0 ≤ d ∧ d < ms_h S c then ms_m S (60 * c + (ms_h S c - 1 - d)) else -1
def wishS (C : CT) (P : PT) (num : Int) (S : MS) : MS := setL (layS (ruleS (cw C) num S) (giftP P) S) (ruleS (cw C) num S)
def stealS (c to : Int) (S : MS) : MS := if to = -1 then takeS c 1 S else if ms_h S c = 0 then S else putS to (markS c 0 S) (setH S (up (ms_h S) c (ms_h S c - 1)))
def fromS (C : CT) (P : PT) (num : Int) (S : MS) : Int := if pk P = 3 then mostI (ms_h S) else ruleS (cz C) num S
def sinS (C : CT) (P : PT) (num : Int) (S : MS) : MS := setL (stealS (fromS C P num S) (hideP P) S) (fromS C P num S)
def walkS (C : CT) (P : PT) (num : Int) (S : MS) : MS := if drawV (drawS S) < pi P then wishS C P num (drawS S) else if drawV (drawS (drawS S)) < pz P then sinS C P num (drawS (drawS S)) else drawS (drawS S)
def parS (C : CT) (P : PT) (num n : Int) (S : MS) : MS := fo (fun _ T => walkS C P num T) n S
def allS (C : CT) (ps : Int → PT) (np : Int) (S : MS) : MS := fo (fun p T => parS C (ps p) p (pw (ps p)) T) np S
def floodP (C : CT) (w : Int) : Prop := 0 < ce C ∧ w % ce C = 0
def drownS (S : MS) : MS := takeS (leastI (ms_h S)) ((ms_h S (leastI (ms_h S)) + 1) / 2) S
def floodS (C : CT) (S : MS) : MS := if 0 < ce C ∧ ms_w S % ce C = 0 then drownS S else S
def goS (C : CT) (ps : Int → PT) (np : Int) (S : MS) : MS := floodS C (allS C ps np (setW S (ms_w S + 1)))
def weeksS (C : CT) (ps : Int → PT) (np n : Int) (S : MS) : MS := fo (fun _ T => goS C ps np T) n S
theorem okS_L {S : MS} (h : okS S) {c : Int} (hc : 0 ≤ c ∧ c < 7) : okS (setL S c) := ⟨h.1, h.2.1, hc, h.2.2.2⟩
theorem okS_W {S : MS} (h : okS S) : okS (setW S (ms_w S + 1)) := ⟨h.1, fun j => by have := h.2.1 j; show 0 ≤ ms_m S j ∧ ms_m S j ≤ ms_w S + 1; omega, h.2.2⟩
theorem okS_H {S : MS} (h : okS S) {c : Int} (hc : 0 ≤ c ∧ c < 7) (h0 : ¬ ms_h S c = 0) : okS (setH S (up (ms_h S) c (ms_h S c - 1))) := by
  refine ⟨fun i hi => ?_, h.2.1, h.2.2⟩
  show 0 ≤ up (ms_h S) c _ i ∧ up (ms_h S) c _ i ≤ 60
  have h1 := h.1 i hi
  have h2 := h.1 c hc
  unfold up
  split <;> omega
theorem markS_in {c d : Int} {S : MS} (h : okS S) : -1 ≤ markS c d S ∧ markS c d S ≤ ms_w S := by
  unfold markS
  have := h.w
  split
  · have := h.2.1 (60 * c + (ms_h S c - 1 - d)); omega
  · omega
theorem okS_steal {c to : Int} {S : MS} (h : okS S) (hc : 0 ≤ c ∧ c < 7) (ht : -1 ≤ to ∧ to < 7) : okS (stealS c to S) ∧ ms_w (stealS c to S) = ms_w S := by
  unfold stealS
  split
  · exact ⟨okS_take h hc (by decide), rfl⟩
  split
  · exact ⟨h, rfl⟩
  · next h1 h2 =>
    refine ⟨okS_put (okS_H h hc h2) (by omega) ?_, putS_w _ _ _⟩
    have h3 := h.1 c hc
    unfold markS
    rw [if_pos (by omega)]
    exact h.2.1 _
theorem fromS_in {C : CT} {P : PT} {num : Int} {S : MS} (h : okS S) (hC : okC C) (hn : 0 ≤ num ∧ num < 7) : 0 ≤ fromS C P num S ∧ fromS C P num S < 7 := by
  unfold fromS
  split
  · exact mostI_in _
  · exact ruleS_in hC.2.1 hn h
theorem okS_walk {C : CT} {P : PT} {num : Int} {S : MS} (h : okS S) (hC : okC C) (hP : okP P) (hn : 0 ≤ num ∧ num < 7) : okS (walkS C P num S) ∧ ms_w (walkS C P num S) = ms_w S := by
  have h1 := okS_draw h
  have h2 := okS_draw h1
  unfold walkS
  split
  · have hr := ruleS_in hC.1 hn h1
    have hg := giftP_in hP
    exact ⟨okS_L (okS_lay h1 hr (by omega)) hr, layS_w h1 hr (by omega)⟩
  split
  · have hr := fromS_in (P := P) h2 hC hn
    have := okS_steal h2 hr (hideP_in hP)
    exact ⟨okS_L this.1 hr, this.2⟩
  · exact ⟨h2, rfl⟩
theorem okS_par {C : CT} {P : PT} {num n : Int} {S : MS} (h : okS S) (hC : okC C) (hP : okP P) (hn : 0 ≤ num ∧ num < 7) (h0 : 0 ≤ n) : okS (parS C P num n S) ∧ ms_w (parS C P num n S) = ms_w S := by
  refine fo_ind (P := fun _ T => okS T ∧ ms_w T = ms_w S) h0 ⟨h, rfl⟩ (fun k T _ _ hT => ?_)
  have := okS_walk (num := num) hT.1 hC hP hn
  exact ⟨this.1, this.2.trans hT.2⟩
theorem okS_all {C : CT} {ps : Int → PT} {np : Int} {S : MS} (h : okS S) (hC : okC C) (hp : ∀ i, 0 ≤ i ∧ i < np → okP (ps i)) (hn : 0 ≤ np ∧ np ≤ 6) : okS (allS C ps np S) ∧ ms_w (allS C ps np S) = ms_w S := by
  refine fo_ind (P := fun _ T => okS T ∧ ms_w T = ms_w S) hn.1 ⟨h, rfl⟩ (fun k T h0 h1 hT => ?_)
  have hk := hp k ⟨h0, h1⟩
  have := okS_par (num := k) hT.1 hC hk (by omega) (n := pw (ps k)) (by have := hk.2.2.2.2.1; omega)
  exact ⟨this.1, this.2.trans hT.2⟩
theorem okS_flood {C : CT} {S : MS} (h : okS S) : okS (floodS C S) ∧ ms_w (floodS C S) = ms_w S := by
  unfold floodS
  split
  · have hl := leastI_in (ms_h S)
    have := h.1 _ hl
    exact ⟨okS_take h hl (by omega), rfl⟩
  · exact ⟨h, rfl⟩
theorem okS_go {C : CT} {ps : Int → PT} {np : Int} {S : MS} (h : okS S) (hC : okC C) (hp : ∀ i, 0 ≤ i ∧ i < np → okP (ps i)) (hn : 0 ≤ np ∧ np ≤ 6) : okS (goS C ps np S) ∧ ms_w (goS C ps np S) = ms_w S + 1 := by
  have h1 := okS_all (okS_W h) hC hp hn
  have h2 := okS_flood (C := C) h1.1
  exact ⟨h2.1, h2.2.trans h1.2⟩
theorem okS_weeks {C : CT} {ps : Int → PT} {np n : Int} {S : MS} (h : okS S) (hC : okC C) (hp : ∀ i, 0 ≤ i ∧ i < np → okP (ps i)) (hn : 0 ≤ np ∧ np ≤ 6) (h0 : 0 ≤ n) : okS (weeksS C ps np n S) ∧ ms_w (weeksS C ps np n S) = ms_w S + n := by
  refine fo_ind (P := fun k T => okS T ∧ ms_w T = ms_w S + k) h0 ⟨h, by omega⟩ (fun k T _ _ hT => ?_)
  have := okS_go hT.1 hC hp hn
  exact ⟨this.1, by rw [this.2, hT.2]; omega⟩
/-- the class's cells of a parish, of a custom; the row of the parishes -/
def pcl (kd : Int) : Nat := if kd = 0 then 4 else if kd = 1 then 5 else if kd = 2 then 6 else 0
def pC (a : Nat) (P : PT) : Nat × va_E := (a, oC (pcl (pk P)) [vI (pn P), vI (pw P), vI (pi P), vI (pz P)])
def cC (a : Nat) (C : CT) : Nat × va_E := (a, oC 1 [vI (cw C), vI (cz C), vI (ce C)])
def orow (n : Int) (ad : Int → Nat) : Int → Option Nat := fun i => if 0 ≤ i ∧ i < n then some (ad i) else none
theorem orow_in {n i : Int} {ad : Int → Nat} (h : 0 ≤ i ∧ i < n) : orow n ad i = some (ad i) := if_pos h
theorem orow_out {n i : Int} {ad : Int → Nat} (h : ¬ (0 ≤ i ∧ i < n)) : orow n ad i = none := if_neg h
theorem pC_0 {a : Nat} {P : PT} (h : pk P = 0) : pC a P = (a, oC 4 [vI (pn P), vI (pw P), vI (pi P), vI (pz P)]) := by unfold pC pcl; rw [if_pos h]
theorem pC_1 {a : Nat} {P : PT} (h : pk P = 1) : pC a P = (a, oC 5 [vI (pn P), vI (pw P), vI (pi P), vI (pz P)]) := by unfold pC pcl; rw [if_neg (by omega), if_pos h]
theorem pC_2 {a : Nat} {P : PT} (h : pk P = 2) : pC a P = (a, oC 6 [vI (pn P), vI (pw P), vI (pi P), vI (pz P)]) := by unfold pC pcl; rw [if_neg (by omega), if_neg (by omega), if_pos h]
theorem pC_3 {a : Nat} {P : PT} (h : pk P = 3) : pC a P = (a, oC 0 [vI (pn P), vI (pw P), vI (pi P), vI (pz P)]) := by unfold pC pcl; rw [if_neg (by omega), if_neg (by omega), if_neg (by omega)]
theorem j_getP {X : jX} {cc : ByteArray} {nL : Nat} {own : String} {Ts : List Cond} {rm : Room} {D : va_G} {Y : Nat → ClassId} {RO : va_W} {k n : Nat} {ws : va_W} {lc : List (Nat × Value)} {pc index : Nat} {st : List Value} (C : jC X cc nL own Ts rm D Y RO) {a : Nat} {P : PT} {v : Value} (hq : pC a P ∈ ws ∨ pC a P ∈ RO) (hk : 0 ≤ pk P ∧ pk P ≤ 3) (h4 : ∀ w ∈ u_ws RX5 TX5 4, w ∈ Ts) (h5 : ∀ w ∈ u_ws RX6 TX6 4, w ∈ Ts) (h6 : ∀ w ∈ u_ws RX7 TX7 4, w ∈ Ts) (h0 : ∀ w ∈ u_ws RX0 TX0 4, w ∈ Ts) (kf : Nat) (hkf : kf < 4) (hlink : Cond.fieldLink own index "KneelingStones$Parish" (TX5 kf).2.1 (TX5 kf).2.2.1 ∈ Ts) (hv : [vI (pn P), vI (pw P), vI (pi P), vI (pz P)][kf]? = some v) (hd : decode cc pc = .ok (.getfield index, 3)) (kk : jW X nL k n ws lc (pc + 3) (v :: st)) : jW X nL k n ws lc pc (.ref a :: st) := by
  have e6 : TX6 = TX5 := rfl
  have e7 : TX7 = TX5 := rfl
  have e0 : TX0 = TX5 := rfl
  have hd5 : (TX5 kf).1 = "KneelingStones$Parish" := by rcases (show kf = 0 ∨ kf = 1 ∨ kf = 2 ∨ kf = 3 by omega) with h | h | h | h <;> subst h <;> rfl
  rcases (show pk P = 0 ∨ pk P = 1 ∨ pk P = 2 ∨ pk P = 3 by omega) with h | h | h | h
  · rw [pC_0 h] at hq
    exact j_get C hq rfl h4 kf hkf hlink (Or.inl hd5) hv hd kk
  · rw [pC_1 h] at hq
    exact j_get C (T := TX6) hq rfl h5 kf hkf hlink (Or.inl hd5) hv hd kk
  · rw [pC_2 h] at hq
    exact j_get C (T := TX7) hq rfl h6 kf hkf hlink (Or.inl hd5) hv hd kk
  · rw [pC_3 h] at hq
    exact j_get C (T := TX0) hq rfl h0 kf hkf hlink (Or.inl hd5) hv hd kk
end
section
set_option maxHeartbeats 4000000 in
set_option maxRecDepth 100000 in
theorem c_isCairn (l : Launch) (D : va_G) (Y : Nat → ClassId) (RO : va_W) (c : Int)  (hc : -2147483648 ≤ c ∧ c ≤ 2147483647) : jMi l yX9_isCairn wsX9_isCairn { frames := 0, cells := 0, slots := 0, locals := 0 } D Y RO [vI c] [] (fun e w1 => e = (if 0 ≤ c ∧ c < 7 then 1 else 0) ∧ w1 = []) := by
  refine j_ofz RX9 rfl rfl rfl (by decide) (fun X C Rt => ?_)
  refine j_iload_n (pc := 0) C 0 0 rfl rfl dX9_isCairn_0 ?_
  refine j_if_lt (pc := 1) C 14 rfl (by omega) dX9_isCairn_1 (fun h_1p1 => ?_) (fun h_1p1 => ?_)
  · skip
    refine j_iconst (pc := 14) C dX9_isCairn_14 ?_
    exact Rt _ _ _ _ _ _ (by decide) (by decide) (by decide) ⟨by split <;> omega, rfl⟩ dX9_isCairn_15
  · skip
    refine j_iload_n (pc := 4) C 0 0 rfl rfl dX9_isCairn_4 ?_
    refine j_bipush (pc := 5) (w := 7) C rfl dX9_isCairn_5 ?_
    refine j_icmp_ge (pc := 7) C 14 rfl (by omega) dX9_isCairn_7 (fun h_2p7 => ?_) (fun h_2p7 => ?_)
    · skip
      refine j_iconst (pc := 14) C dX9_isCairn_14 ?_
      exact Rt _ _ _ _ _ _ (by decide) (by decide) (by decide) ⟨by split <;> omega, rfl⟩ dX9_isCairn_15
    · skip
      refine j_iconst (pc := 10) C dX9_isCairn_10 ?_
      refine j_goto (pc := 11) C 15 rfl dX9_isCairn_11 ?_
      exact Rt _ _ _ _ _ _ (by decide) (by decide) (by decide) ⟨by split <;> omega, rfl⟩ dX9_isCairn_15

theorem fX2_put_X2 : ∀ w ∈ u_ws RX2 TX2 8, w ∈ wsX2_put := j_words [7, 8, 9, 10, 11, 12, 13, 14] (by decide +kernel)
set_option maxHeartbeats 4000000 in
set_option maxRecDepth 100000 in
theorem c_put (l : Launch) (D : va_G) (Y : Nat → ClassId) (RO : va_W) (h : Nat) (hh : Nat) (hm : Nat) (S : MS) (c : Int) (x : Int)  (hS : okS S) (hc : 0 ≤ c ∧ c < 7) : jMv l yX2_put wsX2_put { frames := 1, cells := 0, slots := 0, locals := 20 } D Y RO [.ref h, vI c, vI x] [(h, oC 2 [.ref hh, .ref hm, vI (ms_w S), vI (ms_l S), vI (ms_s S), vI (ms_a S), vI (ms_t S), vI (ms_p S)]), (hh, aI (Y 0) 7 (ms_h S)), (hm, aI (Y 0) 420 (ms_m S))] (fun w1 => w1 = [(h, oC 2 [.ref hh, .ref hm, vI (ms_w (putS c x S)), vI (ms_l (putS c x S)), vI (ms_s (putS c x S)), vI (ms_a (putS c x S)), vI (ms_t (putS c x S)), vI (ms_p (putS c x S))]), (hh, aI (Y 0) 7 (ms_h (putS c x S))), (hm, aI (Y 0) 420 (ms_m (putS c x S)))]) := by
  refine j_ofv RX2 rfl rfl rfl (by decide) (fun X C Rt hI => ?_)
  refine j_iload_n (pc := 0) C 1 1 rfl rfl dX2_put_0 ?_
  refine j_callSNi (pc := 1) (As := [vI c]) (st := []) C [] [0, 1, 2] (wr := [(h, oC 2 [.ref hh, .ref hm, vI (ms_w S), vI (ms_l S), vI (ms_s S), vI (ms_a S), vI (ms_t S), vI (ms_p S)]), (hh, aI (Y 0) 7 (ms_h S)), (hm, aI (Y 0) 420 (ms_m S))]) (fun l => c_isCairn l D Y _ c (by first | assumption | omega)) rfl rfl rfl rfl (by decide) rfl (host := "KneelingStones") gX2_put_X9_isCairn_n43 (List.mem_of_getElem? (i := 4) rfl) (List.mem_of_getElem? (i := 5) rfl) (fun _ h => h.1.1) (by decide +kernel) (by decide) rfl (by decide) (by decide) dX2_put_1 (fun e_1 w_2 h_3 => ?_)
  obtain ⟨rfl, rfl⟩ := h_3
  refine j_perm (ws' := [(h, oC 2 [.ref hh, .ref hm, vI (ms_w S), vI (ms_l S), vI (ms_s S), vI (ms_a S), vI (ms_t S), vI (ms_p S)]), (hh, aI (Y 0) 7 (ms_h S)), (hm, aI (Y 0) 420 (ms_m S))]) [0, 1, 2] rfl rfl ?_
  refine j_if_neb (pc := 4) C 8 rfl dX2_put_4 (fun h_4p4 => ?_) (fun h_4p4 => ?_)
  · skip
    refine j_aload_n (pc := 8) C 0 0 rfl rfl dX2_put_8 ?_
    refine j_get (pc := 9) C (Or.inl (List.mem_of_getElem? (i := 0) rfl)) rfl fX2_put_X2 0 (by decide) (List.mem_of_getElem? (i := 1) rfl) (Or.inl rfl) rfl dX2_put_9 ?_
    refine j_iload_n (pc := 12) C 1 1 rfl rfl dX2_put_12 ?_
    refine j_iald (pc := 13) C (Or.inl (List.mem_of_getElem? (i := 1) rfl)) rfl (by omega) (by decide) dX2_put_13 ?_
    have f_5 := hS.1 c (by omega)
    refine j_istore_n (pc := 14) (lc' := [(3, vI (ms_h S c)), (0, .ref h), (1, vI c), (2, vI x)]) C 3 rfl (by decide) rfl dX2_put_14 ?_
    refine j_iload_n (pc := 15) C 3 0 rfl rfl dX2_put_15 ?_
    refine j_if_lt (pc := 16) C 25 rfl (by omega) dX2_put_16 (fun h_6p16 => ?_) (fun h_6p16 => ?_)
    · skip
      refine j_aload_n (pc := 25) C 0 1 rfl rfl dX2_put_25 ?_
      refine j_dup (pc := 26) C rfl dX2_put_26 ?_
      refine j_get (pc := 27) C (Or.inl (List.mem_of_getElem? (i := 0) rfl)) rfl fX2_put_X2 7 (by decide) (List.mem_of_getElem? (i := 2) rfl) (Or.inl rfl) rfl dX2_put_27 ?_
      refine j_iconst (pc := 30) C dX2_put_30 ?_
      refine j_iadd (pc := 31) C dX2_put_31 ?_
      refine j_put (pc := 32) (ws' := [(h, oC 2 [.ref hh, .ref hm, vI (ms_w S), vI (ms_l S), vI (ms_s S), vI (ms_a S), vI (ms_t S), vI (ms_p S + 1)]), (hh, aI (Y 0) 7 (ms_h S)), (hm, aI (Y 0) 420 (ms_m S))]) C 0 rfl rfl fX2_put_X2 tyX2_ok nmX2 7 (by decide) (List.mem_of_getElem? (i := 2) rfl) (Or.inl rfl) rfl rfl rfl rfl (by decide) rfl dX2_put_32 ?_
      exact Rt _ _ _ _ _ (by decide) (by decide) (by rw [putS_full (by omega)]; first | done | rfl) dX2_put_35
    · skip
      refine j_iload_n (pc := 19) C 3 0 rfl rfl dX2_put_19 ?_
      refine j_bipush (pc := 20) (w := 60) C rfl dX2_put_20 ?_
      refine j_icmp_lt (pc := 22) C 36 rfl (by omega) dX2_put_22 (fun h_7p22 => ?_) (fun h_7p22 => ?_)
      · skip
        refine j_aload_n (pc := 36) C 0 1 rfl rfl dX2_put_36 ?_
        refine j_get (pc := 37) C (Or.inl (List.mem_of_getElem? (i := 0) rfl)) rfl fX2_put_X2 1 (by decide) (List.mem_of_getElem? (i := 3) rfl) (Or.inl rfl) rfl dX2_put_37 ?_
        refine j_iload_n (pc := 40) C 1 2 rfl rfl dX2_put_40 ?_
        refine j_bipush (pc := 41) (w := 60) C rfl dX2_put_41 ?_
        refine j_imul (pc := 43) C dX2_put_43 ?_
        rw [show ((c * 60) : Int) = (60 * c) from Int.mul_comm _ _]
        refine j_iload_n (pc := 44) C 3 0 rfl rfl dX2_put_44 ?_
        refine j_iadd (pc := 45) C dX2_put_45 ?_
        refine j_iload_n (pc := 46) C 2 3 rfl rfl dX2_put_46 ?_
        refine j_iast (pc := 47) (ws' := [(h, oC 2 [.ref hh, .ref hm, vI (ms_w S), vI (ms_l S), vI (ms_s S), vI (ms_a S), vI (ms_t S), vI (ms_p S)]), (hh, aI (Y 0) 7 (ms_h S)), (hm, aI (Y 0) 420 (up (ms_m S) ((60 * c) + ms_h S c) x))]) C 2 rfl rfl (by omega) (by decide) rfl dX2_put_47 ?_
        refine j_aload_n (pc := 48) C 0 1 rfl rfl dX2_put_48 ?_
        refine j_get (pc := 49) C (Or.inl (List.mem_of_getElem? (i := 0) rfl)) rfl fX2_put_X2 0 (by decide) (List.mem_of_getElem? (i := 1) rfl) (Or.inl rfl) rfl dX2_put_49 ?_
        refine j_iload_n (pc := 52) C 1 2 rfl rfl dX2_put_52 ?_
        refine j_iload_n (pc := 53) C 3 0 rfl rfl dX2_put_53 ?_
        refine j_iconst (pc := 54) C dX2_put_54 ?_
        refine j_iadd (pc := 55) C dX2_put_55 ?_
        refine j_iast (pc := 56) (ws' := [(h, oC 2 [.ref hh, .ref hm, vI (ms_w S), vI (ms_l S), vI (ms_s S), vI (ms_a S), vI (ms_t S), vI (ms_p S)]), (hh, aI (Y 0) 7 (up (ms_h S) c (ms_h S c + 1))), (hm, aI (Y 0) 420 (up (ms_m S) ((60 * c) + ms_h S c) x))]) C 1 rfl rfl (by omega) (by decide) rfl dX2_put_56 ?_
        exact Rt _ _ _ _ _ (by decide) (by decide) (by rw [putS_not (by omega)]; first | done | rfl) dX2_put_57
      · skip
        refine j_aload_n (pc := 25) C 0 1 rfl rfl dX2_put_25 ?_
        refine j_dup (pc := 26) C rfl dX2_put_26 ?_
        refine j_get (pc := 27) C (Or.inl (List.mem_of_getElem? (i := 0) rfl)) rfl fX2_put_X2 7 (by decide) (List.mem_of_getElem? (i := 2) rfl) (Or.inl rfl) rfl dX2_put_27 ?_
        refine j_iconst (pc := 30) C dX2_put_30 ?_
        refine j_iadd (pc := 31) C dX2_put_31 ?_
        refine j_put (pc := 32) (ws' := [(h, oC 2 [.ref hh, .ref hm, vI (ms_w S), vI (ms_l S), vI (ms_s S), vI (ms_a S), vI (ms_t S), vI (ms_p S + 1)]), (hh, aI (Y 0) 7 (ms_h S)), (hm, aI (Y 0) 420 (ms_m S))]) C 0 rfl rfl fX2_put_X2 tyX2_ok nmX2 7 (by decide) (List.mem_of_getElem? (i := 2) rfl) (Or.inl rfl) rfl rfl rfl rfl (by decide) rfl dX2_put_32 ?_
        exact Rt _ _ _ _ _ (by decide) (by decide) (by rw [putS_full (by omega)]; first | done | rfl) dX2_put_35
  · skip
    exact absurd hc h_4p4

theorem fX2_layNew_X2 : ∀ w ∈ u_ws RX2 TX2 8, w ∈ wsX2_layNew := j_words [14, 15, 16, 17, 18, 19, 20, 21] (by decide +kernel)
set_option maxHeartbeats 4000000 in
set_option maxRecDepth 100000 in
theorem c_layNew (l : Launch) (D : va_G) (Y : Nat → ClassId) (RO : va_W) (h : Nat) (hh : Nat) (hm : Nat) (S : MS) (c : Int) (n : Int)  (hS : okS S) (hc : 0 ≤ c ∧ c < 7) (hn : 0 ≤ n ∧ n ≤ 2147483646) : jMv l yX2_layNew wsX2_layNew { frames := 2, cells := 0, slots := 0, locals := 43 } D Y RO [.ref h, vI c, vI n] [(h, oC 2 [.ref hh, .ref hm, vI (ms_w S), vI (ms_l S), vI (ms_s S), vI (ms_a S), vI (ms_t S), vI (ms_p S)]), (hh, aI (Y 0) 7 (ms_h S)), (hm, aI (Y 0) 420 (ms_m S))] (fun w1 => w1 = [(h, oC 2 [.ref hh, .ref hm, vI (ms_w (layS c n S)), vI (ms_l (layS c n S)), vI (ms_s (layS c n S)), vI (ms_a (layS c n S)), vI (ms_t (layS c n S)), vI (ms_p (layS c n S))]), (hh, aI (Y 0) 7 (ms_h (layS c n S))), (hm, aI (Y 0) 420 (ms_m (layS c n S)))]) := by
  refine j_ofv RX2 rfl rfl rfl (by decide) (fun X C Rt hI => ?_)
  refine j_iconst (pc := 0) C dX2_layNew_0 ?_
  refine j_istore_n (pc := 1) (lc' := [(3, vI 0), (0, .ref h), (1, vI c), (2, vI n)]) C 3 rfl (by decide) rfl dX2_layNew_1 ?_
  have hL2 : ∀ (N2 : Nat) (i : Int) (T : MS), ((n - i).toNat) < N2 → (0 ≤ i ∧ i ≤ n) → (T = putN c i S) → (okS T) → jW X 4 0 0 [(h, oC 2 [.ref hh, .ref hm, vI (ms_w T), vI (ms_l T), vI (ms_s T), vI (ms_a T), vI (ms_t T), vI (ms_p T)]), (hh, aI (Y 0) 7 (ms_h T)), (hm, aI (Y 0) 420 (ms_m T))] [(0, .ref h), (1, vI c), (2, vI n), (3, vI i)] 2 [] := by
    intro N2
    induction N2 with
    | zero => intro i T hm2 i2_0 i2_1 i2_2; omega
    | succ N2 ih2 =>
      intro i T hm2 i2_0 i2_1 i2_2
      refine j_iload_n (pc := 2) C 3 3 rfl rfl dX2_layNew_2 ?_
      refine j_iload_n (pc := 3) C 2 2 rfl rfl dX2_layNew_3 ?_
      refine j_icmp_ge (pc := 4) C 22 rfl (by omega) dX2_layNew_4 (fun h_1p4 => ?_) (fun h_1p4 => ?_)
      · skip
        refine j_aload_n (pc := 22) C 0 0 rfl rfl dX2_layNew_22 ?_
        refine j_dup (pc := 23) C rfl dX2_layNew_23 ?_
        refine j_get (pc := 24) C (Or.inl (List.mem_of_getElem? (i := 0) rfl)) rfl fX2_layNew_X2 5 (by decide) (List.mem_of_getElem? (i := 2) rfl) (Or.inl rfl) rfl dX2_layNew_24 ?_
        refine j_iload_n (pc := 27) C 2 2 rfl rfl dX2_layNew_27 ?_
        refine j_iadd (pc := 28) C dX2_layNew_28 ?_
        refine j_put (pc := 29) (ws' := [(h, oC 2 [.ref hh, .ref hm, vI (ms_w T), vI (ms_l T), vI (ms_s T), vI (ms_a T + n), vI (ms_t T), vI (ms_p T)]), (hh, aI (Y 0) 7 (ms_h T)), (hm, aI (Y 0) 420 (ms_m T))]) C 0 rfl rfl fX2_layNew_X2 tyX2_ok nmX2 5 (by decide) (List.mem_of_getElem? (i := 2) rfl) (Or.inl rfl) rfl rfl rfl rfl (by decide) rfl dX2_layNew_29 ?_
        exact Rt _ _ _ _ _ (by decide) (by decide) (by rw [show n = i by omega]; unfold layS; rw [← i2_1]; first | done | rfl) dX2_layNew_32
      · skip
        refine j_aload_n (pc := 7) C 0 0 rfl rfl dX2_layNew_7 ?_
        refine j_iload_n (pc := 8) C 1 1 rfl rfl dX2_layNew_8 ?_
        refine j_aload_n (pc := 9) C 0 0 rfl rfl dX2_layNew_9 ?_
        refine j_get (pc := 10) C (Or.inl (List.mem_of_getElem? (i := 0) rfl)) rfl fX2_layNew_X2 2 (by decide) (List.mem_of_getElem? (i := 1) rfl) (Or.inl rfl) rfl dX2_layNew_10 ?_
        refine j_callVv (pc := 13) (As := [vI c, vI (ms_w T)]) (st := []) C [0, 1, 2] [] (wr := []) (fun l => c_put l D Y _ h hh hm T c (ms_w T) i2_2 hc) rfl rfl rfl rfl (by decide) rfl (Or.inl (List.mem_of_getElem? (i := 0) rfl)) rfl gX2_layNew_X2_put ⟨rfl, by decide +kernel⟩ (by decide) rfl (by decide) (by decide) dX2_layNew_13 (fun w_3 h_4 => ?_)
        subst h_4
        refine j_perm (ws' := [(h, oC 2 [.ref hh, .ref hm, vI (ms_w (putS c (ms_w T) T)), vI (ms_l (putS c (ms_w T) T)), vI (ms_s (putS c (ms_w T) T)), vI (ms_a (putS c (ms_w T) T)), vI (ms_t (putS c (ms_w T) T)), vI (ms_p (putS c (ms_w T) T))]), (hh, aI (Y 0) 7 (ms_h (putS c (ms_w T) T))), (hm, aI (Y 0) 420 (ms_m (putS c (ms_w T) T)))]) [0, 1, 2] rfl rfl ?_
        refine j_iinc (pc := 16) (lc' := [(3, vI (i + 1)), (0, .ref h), (1, vI c), (2, vI n)]) C 3 rfl (by decide) rfl dX2_layNew_16 ?_
        refine j_goto (pc := 19) C 2 rfl dX2_layNew_19 ?_
        refine j_locals (lc' := [(0, .ref h), (1, vI c), (2, vI n), (3, vI (i + 1))]) [1, 2, 3, 0] rfl ?_
        exact ih2 (i + 1) (putS c (ms_w T) T) (by omega) (by omega) (by rw [i2_1]; exact (fo_succ _ (by omega) S).symm) (okS_put i2_2 hc ⟨i2_2.w, Int.le_refl _⟩)
  refine j_locals (lc' := [(0, .ref h), (1, vI c), (2, vI n), (3, vI 0)]) [1, 2, 3, 0] rfl ?_
  exact hL2 _ 0 S (Nat.lt_succ_self _) (by omega) rfl hS

theorem fX2_most_X2 : ∀ w ∈ u_ws RX2 TX2 8, w ∈ wsX2_most := j_words [2, 3, 4, 5, 6, 7, 8, 9] (by decide +kernel)
set_option maxHeartbeats 4000000 in
set_option maxRecDepth 100000 in
theorem c_most (l : Launch) (D : va_G) (Y : Nat → ClassId) (RO : va_W) (h : Nat) (hh : Nat) (hm : Nat) (S : MS) (r0 : (h, oC 2 [.ref hh, .ref hm, vI (ms_w S), vI (ms_l S), vI (ms_s S), vI (ms_a S), vI (ms_t S), vI (ms_p S)]) ∈ RO) (r1 : (hh, aI (Y 0) 7 (ms_h S)) ∈ RO) (hS : okS S) : jMi l yX2_most wsX2_most { frames := 0, cells := 0, slots := 0, locals := 0 } D Y RO [.ref h] [] (fun e w1 => e = mostI (ms_h S) ∧ w1 = []) := by
  refine j_ofi RX2 rfl rfl rfl (by decide) (fun X C Rt => ?_)
  refine j_iconst (pc := 0) C dX2_most_0 ?_
  refine j_istore_n (pc := 1) (lc' := [(1, vI 0), (0, .ref h)]) C 1 rfl (by decide) rfl dX2_most_1 ?_
  refine j_iconst (pc := 2) C dX2_most_2 ?_
  refine j_istore_n (pc := 3) (lc' := [(2, vI 1), (1, vI 0), (0, .ref h)]) C 2 rfl (by decide) rfl dX2_most_3 ?_
  have hL4 : ∀ (N4 : Nat) (b : Int) (i : Int), ((7 - i).toNat) < N4 → (1 ≤ i ∧ i ≤ 7) → (0 ≤ b ∧ b < i) → (b = fo (mostF (ms_h S)) i 0) → jW X 3 0 0 [] [(0, .ref h), (1, vI b), (2, vI i)] 4 [] := by
    intro N4
    induction N4 with
    | zero => intro b i hm4 i4_0 i4_1 i4_2; omega
    | succ N4 ih4 =>
      intro b i hm4 i4_0 i4_1 i4_2
      refine j_iload_n (pc := 4) C 2 2 rfl rfl dX2_most_4 ?_
      refine j_bipush (pc := 5) (w := 7) C rfl dX2_most_5 ?_
      refine j_icmp_ge (pc := 7) C 33 rfl (by omega) dX2_most_7 (fun h_1p7 => ?_) (fun h_1p7 => ?_)
      · skip
        refine j_iload_n (pc := 33) C 1 1 rfl rfl dX2_most_33 ?_
        exact Rt _ _ _ _ _ _ (by decide) (by decide) ⟨by rw [i4_2, show i = 7 by omega]; rfl, rfl⟩ dX2_most_34
      · skip
        refine j_aload_n (pc := 10) C 0 0 rfl rfl dX2_most_10 ?_
        refine j_get (pc := 11) C (Or.inr r0) rfl fX2_most_X2 0 (by decide) (List.mem_of_getElem? (i := 1) rfl) (Or.inl rfl) rfl dX2_most_11 ?_
        refine j_iload_n (pc := 14) C 2 2 rfl rfl dX2_most_14 ?_
        refine j_iald (pc := 15) C (Or.inr r1) rfl (by omega) (by decide) dX2_most_15 ?_
        have f_2 := hS.1 i (by omega)
        refine j_aload_n (pc := 16) C 0 0 rfl rfl dX2_most_16 ?_
        refine j_get (pc := 17) C (Or.inr r0) rfl fX2_most_X2 0 (by decide) (List.mem_of_getElem? (i := 1) rfl) (Or.inl rfl) rfl dX2_most_17 ?_
        refine j_iload_n (pc := 20) C 1 1 rfl rfl dX2_most_20 ?_
        refine j_iald (pc := 21) C (Or.inr r1) rfl (by omega) (by decide) dX2_most_21 ?_
        have f_3 := hS.1 b (by omega)
        refine j_icmp_le (pc := 22) C 27 rfl (by omega) dX2_most_22 (fun h_4p22 => ?_) (fun h_4p22 => ?_)
        · skip
          refine j_iinc (pc := 27) (lc' := [(2, vI (i + 1)), (0, .ref h), (1, vI b)]) C 2 rfl (by decide) rfl dX2_most_27 ?_
          refine j_goto (pc := 30) C 4 rfl dX2_most_30 ?_
          refine j_locals (lc' := [(0, .ref h), (1, vI b), (2, vI (i + 1))]) [1, 2, 0] rfl ?_
          exact ih4 b (i + 1) (by omega) (by omega) (by omega) (by rw [fo_succ _ (by omega), ← i4_2]; unfold mostF; first | rw [if_pos (by omega)] | rw [if_neg (by omega)])
        · skip
          refine j_iload_n (pc := 25) C 2 2 rfl rfl dX2_most_25 ?_
          refine j_istore_n (pc := 26) (lc' := [(1, vI i), (0, .ref h), (2, vI i)]) C 1 rfl (by decide) rfl dX2_most_26 ?_
          refine j_iinc (pc := 27) (lc' := [(2, vI (i + 1)), (1, vI i), (0, .ref h)]) C 2 rfl (by decide) rfl dX2_most_27 ?_
          refine j_goto (pc := 30) C 4 rfl dX2_most_30 ?_
          refine j_locals (lc' := [(0, .ref h), (1, vI i), (2, vI (i + 1))]) [2, 1, 0] rfl ?_
          exact ih4 i (i + 1) (by omega) (by omega) (by omega) (by rw [fo_succ _ (by omega), ← i4_2]; unfold mostF; first | rw [if_pos (by omega)] | rw [if_neg (by omega)])
  refine j_locals (lc' := [(0, .ref h), (1, vI 0), (2, vI 1)]) [2, 1, 0] rfl ?_
  exact hL4 _ 0 1 (Nat.lt_succ_self _) (by omega) (by omega) (by show (0 : Int) = mostF (ms_h S) 0 0; unfold mostF; split <;> rfl)

theorem fX2_fewest_X2 : ∀ w ∈ u_ws RX2 TX2 8, w ∈ wsX2_fewest := j_words [2, 3, 4, 5, 6, 7, 8, 9] (by decide +kernel)
set_option maxHeartbeats 4000000 in
set_option maxRecDepth 100000 in
theorem c_fewest (l : Launch) (D : va_G) (Y : Nat → ClassId) (RO : va_W) (h : Nat) (hh : Nat) (hm : Nat) (S : MS) (r0 : (h, oC 2 [.ref hh, .ref hm, vI (ms_w S), vI (ms_l S), vI (ms_s S), vI (ms_a S), vI (ms_t S), vI (ms_p S)]) ∈ RO) (r1 : (hh, aI (Y 0) 7 (ms_h S)) ∈ RO) (hS : okS S) : jMi l yX2_fewest wsX2_fewest { frames := 0, cells := 0, slots := 0, locals := 0 } D Y RO [.ref h] [] (fun e w1 => e = leastI (ms_h S) ∧ w1 = []) := by
  refine j_ofi RX2 rfl rfl rfl (by decide) (fun X C Rt => ?_)
  refine j_iconst (pc := 0) C dX2_fewest_0 ?_
  refine j_istore_n (pc := 1) (lc' := [(1, vI 0), (0, .ref h)]) C 1 rfl (by decide) rfl dX2_fewest_1 ?_
  refine j_iconst (pc := 2) C dX2_fewest_2 ?_
  refine j_istore_n (pc := 3) (lc' := [(2, vI 1), (1, vI 0), (0, .ref h)]) C 2 rfl (by decide) rfl dX2_fewest_3 ?_
  have hL4 : ∀ (N4 : Nat) (b : Int) (i : Int), ((7 - i).toNat) < N4 → (1 ≤ i ∧ i ≤ 7) → (0 ≤ b ∧ b < i) → (b = fo (leastF (ms_h S)) i 0) → jW X 3 0 0 [] [(0, .ref h), (1, vI b), (2, vI i)] 4 [] := by
    intro N4
    induction N4 with
    | zero => intro b i hm4 i4_0 i4_1 i4_2; omega
    | succ N4 ih4 =>
      intro b i hm4 i4_0 i4_1 i4_2
      refine j_iload_n (pc := 4) C 2 2 rfl rfl dX2_fewest_4 ?_
      refine j_bipush (pc := 5) (w := 7) C rfl dX2_fewest_5 ?_
      refine j_icmp_ge (pc := 7) C 33 rfl (by omega) dX2_fewest_7 (fun h_1p7 => ?_) (fun h_1p7 => ?_)
      · skip
        refine j_iload_n (pc := 33) C 1 1 rfl rfl dX2_fewest_33 ?_
        exact Rt _ _ _ _ _ _ (by decide) (by decide) ⟨by rw [i4_2, show i = 7 by omega]; rfl, rfl⟩ dX2_fewest_34
      · skip
        refine j_aload_n (pc := 10) C 0 0 rfl rfl dX2_fewest_10 ?_
        refine j_get (pc := 11) C (Or.inr r0) rfl fX2_fewest_X2 0 (by decide) (List.mem_of_getElem? (i := 1) rfl) (Or.inl rfl) rfl dX2_fewest_11 ?_
        refine j_iload_n (pc := 14) C 2 2 rfl rfl dX2_fewest_14 ?_
        refine j_iald (pc := 15) C (Or.inr r1) rfl (by omega) (by decide) dX2_fewest_15 ?_
        have f_2 := hS.1 i (by omega)
        refine j_aload_n (pc := 16) C 0 0 rfl rfl dX2_fewest_16 ?_
        refine j_get (pc := 17) C (Or.inr r0) rfl fX2_fewest_X2 0 (by decide) (List.mem_of_getElem? (i := 1) rfl) (Or.inl rfl) rfl dX2_fewest_17 ?_
        refine j_iload_n (pc := 20) C 1 1 rfl rfl dX2_fewest_20 ?_
        refine j_iald (pc := 21) C (Or.inr r1) rfl (by omega) (by decide) dX2_fewest_21 ?_
        have f_3 := hS.1 b (by omega)
        refine j_icmp_ge (pc := 22) C 27 rfl (by omega) dX2_fewest_22 (fun h_4p22 => ?_) (fun h_4p22 => ?_)
        · skip
          refine j_iinc (pc := 27) (lc' := [(2, vI (i + 1)), (0, .ref h), (1, vI b)]) C 2 rfl (by decide) rfl dX2_fewest_27 ?_
          refine j_goto (pc := 30) C 4 rfl dX2_fewest_30 ?_
          refine j_locals (lc' := [(0, .ref h), (1, vI b), (2, vI (i + 1))]) [1, 2, 0] rfl ?_
          exact ih4 b (i + 1) (by omega) (by omega) (by omega) (by rw [fo_succ _ (by omega), ← i4_2]; unfold leastF; first | rw [if_pos (by omega)] | rw [if_neg (by omega)])
        · skip
          refine j_iload_n (pc := 25) C 2 2 rfl rfl dX2_fewest_25 ?_
          refine j_istore_n (pc := 26) (lc' := [(1, vI i), (0, .ref h), (2, vI i)]) C 1 rfl (by decide) rfl dX2_fewest_26 ?_
          refine j_iinc (pc := 27) (lc' := [(2, vI (i + 1)), (1, vI i), (0, .ref h)]) C 2 rfl (by decide) rfl dX2_fewest_27 ?_
          refine j_goto (pc := 30) C 4 rfl dX2_fewest_30 ?_
          refine j_locals (lc' := [(0, .ref h), (1, vI i), (2, vI (i + 1))]) [2, 1, 0] rfl ?_
          exact ih4 i (i + 1) (by omega) (by omega) (by omega) (by rw [fo_succ _ (by omega), ← i4_2]; unfold leastF; first | rw [if_pos (by omega)] | rw [if_neg (by omega)])
  refine j_locals (lc' := [(0, .ref h), (1, vI 0), (2, vI 1)]) [2, 1, 0] rfl ?_
  exact hL4 _ 0 1 (Nat.lt_succ_self _) (by omega) (by omega) (by show (0 : Int) = leastF (ms_h S) 0 0; unfold leastF; split <;> rfl)
end
