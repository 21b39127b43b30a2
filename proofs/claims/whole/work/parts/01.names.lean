-- ===== PART A: goes FIRST, ahead of the names: the tables' words, and 'selects' of the private methods out of them =====
/-- a private method of a class that the tables say can be made, by its rows of tables_1 -/
def lw_okq (q : MethodName × Nat) : Prop := (q.1.cls ≠ "java/lang/invoke/MethodHandle" ∧ q.1.cls ≠ "java/lang/invoke/VarHandle") ∧ Cond.instantiable q.1.cls q.2 ∈ tables_1 ∧ Cond.privateMethod q.1 ∈ tables_1 ∧ Cond.instanceMethod q.1 ∈ tables_1
theorem lw_p0 : lw_okq (⟨"AsWasSaid$Saying", "workOutWords", "([I)V"⟩, 11) := ⟨⟨by decide +kernel, by decide +kernel⟩, List.mem_of_getElem? (i := 35) (by decide +kernel), List.mem_of_getElem? (i := 251) (by decide +kernel), List.mem_of_getElem? (i := 252) (by decide +kernel)⟩
theorem lw_p1 : lw_okq (⟨"AsWasSaid$Saying", "countPluses", "()I"⟩, 11) := ⟨⟨by decide +kernel, by decide +kernel⟩, List.mem_of_getElem? (i := 35) (by decide +kernel), List.mem_of_getElem? (i := 261) (by decide +kernel), List.mem_of_getElem? (i := 262) (by decide +kernel)⟩
theorem lw_p2 : lw_okq (⟨"AsWasSaid$Saying", "bracketings", "()I"⟩, 11) := ⟨⟨by decide +kernel, by decide +kernel⟩, List.mem_of_getElem? (i := 35) (by decide +kernel), List.mem_of_getElem? (i := 265) (by decide +kernel), List.mem_of_getElem? (i := 266) (by decide +kernel)⟩
theorem lw_p3 : lw_okq (⟨"AsWasSaid$Saying", "joiningsThatAreOr", "(I)I"⟩, 11) := ⟨⟨by decide +kernel, by decide +kernel⟩, List.mem_of_getElem? (i := 35) (by decide +kernel), List.mem_of_getElem? (i := 269) (by decide +kernel), List.mem_of_getElem? (i := 270) (by decide +kernel)⟩
theorem lw_p4 : lw_okq (⟨"AsWasSaid$Saying", "truthOf", "(III)J"⟩, 11) := ⟨⟨by decide +kernel, by decide +kernel⟩, List.mem_of_getElem? (i := 35) (by decide +kernel), List.mem_of_getElem? (i := 276) (by decide +kernel), List.mem_of_getElem? (i := 277) (by decide +kernel)⟩
theorem lw_p5 : lw_okq (⟨"AsWasSaid$Saying", "wordTruth", "(II)J"⟩, 11) := ⟨⟨by decide +kernel, by decide +kernel⟩, List.mem_of_getElem? (i := 35) (by decide +kernel), List.mem_of_getElem? (i := 280) (by decide +kernel), List.mem_of_getElem? (i := 281) (by decide +kernel)⟩
theorem lw_p6 : lw_okq (⟨"AsWasSaid$Saying", "truthOfThree", "(III)J"⟩, 11) := ⟨⟨by decide +kernel, by decide +kernel⟩, List.mem_of_getElem? (i := 35) (by decide +kernel), List.mem_of_getElem? (i := 287) (by decide +kernel), List.mem_of_getElem? (i := 288) (by decide +kernel)⟩
theorem lw_p7 : lw_okq (⟨"AsWasSaid$Saying", "truthOfFour", "(III)J"⟩, 11) := ⟨⟨by decide +kernel, by decide +kernel⟩, List.mem_of_getElem? (i := 35) (by decide +kernel), List.mem_of_getElem? (i := 291) (by decide +kernel), List.mem_of_getElem? (i := 292) (by decide +kernel)⟩
theorem lw_p8 : lw_okq (⟨"AsWasSaid$Saying", "weigh", "()V"⟩, 11) := ⟨⟨by decide +kernel, by decide +kernel⟩, List.mem_of_getElem? (i := 35) (by decide +kernel), List.mem_of_getElem? (i := 295) (by decide +kernel), List.mem_of_getElem? (i := 296) (by decide +kernel)⟩
theorem lw_p9 : lw_okq (⟨"AsWasSaid", "taken", "(I)I"⟩, 12) := ⟨⟨by decide +kernel, by decide +kernel⟩, List.mem_of_getElem? (i := 11) (by decide +kernel), List.mem_of_getElem? (i := 408) (by decide +kernel), List.mem_of_getElem? (i := 409) (by decide +kernel)⟩
theorem lw_p10 : lw_okq (⟨"AsWasSaid", "actsNow", "(I)Z"⟩, 12) := ⟨⟨by decide +kernel, by decide +kernel⟩, List.mem_of_getElem? (i := 11) (by decide +kernel), List.mem_of_getElem? (i := 412) (by decide +kernel), List.mem_of_getElem? (i := 413) (by decide +kernel)⟩
theorem lw_p11 : lw_okq (⟨"AsWasSaid", "actsBy", "(III)Z"⟩, 12) := ⟨⟨by decide +kernel, by decide +kernel⟩, List.mem_of_getElem? (i := 11) (by decide +kernel), List.mem_of_getElem? (i := 416) (by decide +kernel), List.mem_of_getElem? (i := 417) (by decide +kernel)⟩
theorem lw_p12 : lw_okq (⟨"AsWasSaid", "letAct", "(I)V"⟩, 12) := ⟨⟨by decide +kernel, by decide +kernel⟩, List.mem_of_getElem? (i := 11) (by decide +kernel), List.mem_of_getElem? (i := 435) (by decide +kernel), List.mem_of_getElem? (i := 436) (by decide +kernel)⟩
theorem lw_p13 : lw_okq (⟨"AsWasSaid", "behindAct", "(III)I"⟩, 12) := ⟨⟨by decide +kernel, by decide +kernel⟩, List.mem_of_getElem? (i := 11) (by decide +kernel), List.mem_of_getElem? (i := 439) (by decide +kernel), List.mem_of_getElem? (i := 440) (by decide +kernel)⟩
theorem lw_p14 : lw_okq (⟨"AsWasSaid", "behindRound", "(I)I"⟩, 12) := ⟨⟨by decide +kernel, by decide +kernel⟩, List.mem_of_getElem? (i := 11) (by decide +kernel), List.mem_of_getElem? (i := 456) (by decide +kernel), List.mem_of_getElem? (i := 457) (by decide +kernel)⟩
theorem lw_p15 : lw_okq (⟨"AsWasSaid", "worldsLeft", "()J"⟩, 12) := ⟨⟨by decide +kernel, by decide +kernel⟩, List.mem_of_getElem? (i := 11) (by decide +kernel), List.mem_of_getElem? (i := 464) (by decide +kernel), List.mem_of_getElem? (i := 465) (by decide +kernel)⟩
def lw_privs_1 : List (MethodName × Nat) := [(⟨"AsWasSaid$Saying", "workOutWords", "([I)V"⟩, 11), (⟨"AsWasSaid$Saying", "countPluses", "()I"⟩, 11), (⟨"AsWasSaid$Saying", "bracketings", "()I"⟩, 11), (⟨"AsWasSaid$Saying", "joiningsThatAreOr", "(I)I"⟩, 11), (⟨"AsWasSaid$Saying", "truthOf", "(III)J"⟩, 11), (⟨"AsWasSaid$Saying", "wordTruth", "(II)J"⟩, 11), (⟨"AsWasSaid$Saying", "truthOfThree", "(III)J"⟩, 11), (⟨"AsWasSaid$Saying", "truthOfFour", "(III)J"⟩, 11), (⟨"AsWasSaid$Saying", "weigh", "()V"⟩, 11), (⟨"AsWasSaid", "taken", "(I)I"⟩, 12), (⟨"AsWasSaid", "actsNow", "(I)Z"⟩, 12), (⟨"AsWasSaid", "actsBy", "(III)Z"⟩, 12), (⟨"AsWasSaid", "letAct", "(I)V"⟩, 12), (⟨"AsWasSaid", "behindAct", "(III)I"⟩, 12), (⟨"AsWasSaid", "behindRound", "(I)I"⟩, 12), (⟨"AsWasSaid", "worldsLeft", "()J"⟩, 12)]
theorem lw_r1 : ∀ q ∈ lw_privs_1, lw_okq q := List.forall_mem_cons.mpr ⟨lw_p0, List.forall_mem_cons.mpr ⟨lw_p1, List.forall_mem_cons.mpr ⟨lw_p2, List.forall_mem_cons.mpr ⟨lw_p3, List.forall_mem_cons.mpr ⟨lw_p4, List.forall_mem_cons.mpr ⟨lw_p5, List.forall_mem_cons.mpr ⟨lw_p6, List.forall_mem_cons.mpr ⟨lw_p7, List.forall_mem_cons.mpr ⟨lw_p8, List.forall_mem_cons.mpr ⟨lw_p9, List.forall_mem_cons.mpr ⟨lw_p10, List.forall_mem_cons.mpr ⟨lw_p11, List.forall_mem_cons.mpr ⟨lw_p12, List.forall_mem_cons.mpr ⟨lw_p13, List.forall_mem_cons.mpr ⟨lw_p14, List.forall_mem_cons.mpr ⟨lw_p15, fun _ h => absurd h List.not_mem_nil⟩⟩⟩⟩⟩⟩⟩⟩⟩⟩⟩⟩⟩⟩⟩⟩
theorem lw_p16 : lw_okq (⟨"AsWasSaid", "leftAtWorst", "(I)I"⟩, 12) := ⟨⟨by decide +kernel, by decide +kernel⟩, List.mem_of_getElem? (i := 11) (by decide +kernel), List.mem_of_getElem? (i := 480) (by decide +kernel), List.mem_of_getElem? (i := 481) (by decide +kernel)⟩
theorem lw_p17 : lw_okq (⟨"AsWasSaid", "readingsWith", "(I)I"⟩, 12) := ⟨⟨by decide +kernel, by decide +kernel⟩, List.mem_of_getElem? (i := 11) (by decide +kernel), List.mem_of_getElem? (i := 491) (by decide +kernel), List.mem_of_getElem? (i := 492) (by decide +kernel)⟩
theorem lw_p18 : lw_okq (⟨"AsWasSaid", "doesFit", "(II)Z"⟩, 12) := ⟨⟨by decide +kernel, by decide +kernel⟩, List.mem_of_getElem? (i := 11) (by decide +kernel), List.mem_of_getElem? (i := 513) (by decide +kernel), List.mem_of_getElem? (i := 514) (by decide +kernel)⟩
theorem lw_p19 : lw_okq (⟨"AsWasSaid", "mixedWithHearers", "(J)J"⟩, 12) := ⟨⟨by decide +kernel, by decide +kernel⟩, List.mem_of_getElem? (i := 11) (by decide +kernel), List.mem_of_getElem? (i := 568) (by decide +kernel), List.mem_of_getElem? (i := 569) (by decide +kernel)⟩
theorem lw_p20 : lw_okq (⟨"AsWasSaid", "mixedWithSaying", "(J)J"⟩, 12) := ⟨⟨by decide +kernel, by decide +kernel⟩, List.mem_of_getElem? (i := 11) (by decide +kernel), List.mem_of_getElem? (i := 573) (by decide +kernel), List.mem_of_getElem? (i := 574) (by decide +kernel)⟩
theorem lw_p21 : lw_okq (⟨"AsWasSaid", "mixedWithFits", "(J)J"⟩, 12) := ⟨⟨by decide +kernel, by decide +kernel⟩, List.mem_of_getElem? (i := 11) (by decide +kernel), List.mem_of_getElem? (i := 581) (by decide +kernel), List.mem_of_getElem? (i := 582) (by decide +kernel)⟩
theorem lw_p22 : lw_okq (⟨"AsWasSaidModel", "readSaying", "()V"⟩, 39) := ⟨⟨by decide +kernel, by decide +kernel⟩, List.mem_of_getElem? (i := 587) (by decide +kernel), List.mem_of_getElem? (i := 727) (by decide +kernel), List.mem_of_getElem? (i := 728) (by decide +kernel)⟩
theorem lw_p23 : lw_okq (⟨"AsWasSaidModel", "nextState", "(II)I"⟩, 39) := ⟨⟨by decide +kernel, by decide +kernel⟩, List.mem_of_getElem? (i := 587) (by decide +kernel), List.mem_of_getElem? (i := 731) (by decide +kernel), List.mem_of_getElem? (i := 732) (by decide +kernel)⟩
theorem lw_p24 : lw_okq (⟨"AsWasSaidModel", "readSenses", "()V"⟩, 39) := ⟨⟨by decide +kernel, by decide +kernel⟩, List.mem_of_getElem? (i := 587) (by decide +kernel), List.mem_of_getElem? (i := 735) (by decide +kernel), List.mem_of_getElem? (i := 736) (by decide +kernel)⟩
theorem lw_p25 : lw_okq (⟨"AsWasSaidModel", "lay", "(II)V"⟩, 39) := ⟨⟨by decide +kernel, by decide +kernel⟩, List.mem_of_getElem? (i := 587) (by decide +kernel), List.mem_of_getElem? (i := 743) (by decide +kernel), List.mem_of_getElem? (i := 744) (by decide +kernel)⟩
theorem lw_p26 : lw_okq (⟨"AsWasSaidModel", "bothMany", "(II)I"⟩, 39) := ⟨⟨by decide +kernel, by decide +kernel⟩, List.mem_of_getElem? (i := 587) (by decide +kernel), List.mem_of_getElem? (i := 747) (by decide +kernel), List.mem_of_getElem? (i := 748) (by decide +kernel)⟩
theorem lw_p27 : lw_okq (⟨"AsWasSaidModel", "joinAt", "(II)I"⟩, 39) := ⟨⟨by decide +kernel, by decide +kernel⟩, List.mem_of_getElem? (i := 587) (by decide +kernel), List.mem_of_getElem? (i := 751) (by decide +kernel), List.mem_of_getElem? (i := 752) (by decide +kernel)⟩
theorem lw_p28 : lw_okq (⟨"AsWasSaidModel", "wordAt", "(II)I"⟩, 39) := ⟨⟨by decide +kernel, by decide +kernel⟩, List.mem_of_getElem? (i := 587) (by decide +kernel), List.mem_of_getElem? (i := 758) (by decide +kernel), List.mem_of_getElem? (i := 759) (by decide +kernel)⟩
theorem lw_p29 : lw_okq (⟨"AsWasSaidModel", "bracketed", "(II)J"⟩, 39) := ⟨⟨by decide +kernel, by decide +kernel⟩, List.mem_of_getElem? (i := 587) (by decide +kernel), List.mem_of_getElem? (i := 766) (by decide +kernel), List.mem_of_getElem? (i := 767) (by decide +kernel)⟩
theorem lw_p30 : lw_okq (⟨"AsWasSaidModel", "ofFour", "(IJJJJ)J"⟩, 39) := ⟨⟨by decide +kernel, by decide +kernel⟩, List.mem_of_getElem? (i := 587) (by decide +kernel), List.mem_of_getElem? (i := 773) (by decide +kernel), List.mem_of_getElem? (i := 774) (by decide +kernel)⟩
theorem lw_p31 : lw_okq (⟨"AsWasSaidModel", "isReading", "(I)Z"⟩, 39) := ⟨⟨by decide +kernel, by decide +kernel⟩, List.mem_of_getElem? (i := 587) (by decide +kernel), List.mem_of_getElem? (i := 792) (by decide +kernel), List.mem_of_getElem? (i := 793) (by decide +kernel)⟩
def lw_privs_2 : List (MethodName × Nat) := [(⟨"AsWasSaid", "leftAtWorst", "(I)I"⟩, 12), (⟨"AsWasSaid", "readingsWith", "(I)I"⟩, 12), (⟨"AsWasSaid", "doesFit", "(II)Z"⟩, 12), (⟨"AsWasSaid", "mixedWithHearers", "(J)J"⟩, 12), (⟨"AsWasSaid", "mixedWithSaying", "(J)J"⟩, 12), (⟨"AsWasSaid", "mixedWithFits", "(J)J"⟩, 12), (⟨"AsWasSaidModel", "readSaying", "()V"⟩, 39), (⟨"AsWasSaidModel", "nextState", "(II)I"⟩, 39), (⟨"AsWasSaidModel", "readSenses", "()V"⟩, 39), (⟨"AsWasSaidModel", "lay", "(II)V"⟩, 39), (⟨"AsWasSaidModel", "bothMany", "(II)I"⟩, 39), (⟨"AsWasSaidModel", "joinAt", "(II)I"⟩, 39), (⟨"AsWasSaidModel", "wordAt", "(II)I"⟩, 39), (⟨"AsWasSaidModel", "bracketed", "(II)J"⟩, 39), (⟨"AsWasSaidModel", "ofFour", "(IJJJJ)J"⟩, 39), (⟨"AsWasSaidModel", "isReading", "(I)Z"⟩, 39)]
theorem lw_r2 : ∀ q ∈ lw_privs_2, lw_okq q := List.forall_mem_cons.mpr ⟨lw_p16, List.forall_mem_cons.mpr ⟨lw_p17, List.forall_mem_cons.mpr ⟨lw_p18, List.forall_mem_cons.mpr ⟨lw_p19, List.forall_mem_cons.mpr ⟨lw_p20, List.forall_mem_cons.mpr ⟨lw_p21, List.forall_mem_cons.mpr ⟨lw_p22, List.forall_mem_cons.mpr ⟨lw_p23, List.forall_mem_cons.mpr ⟨lw_p24, List.forall_mem_cons.mpr ⟨lw_p25, List.forall_mem_cons.mpr ⟨lw_p26, List.forall_mem_cons.mpr ⟨lw_p27, List.forall_mem_cons.mpr ⟨lw_p28, List.forall_mem_cons.mpr ⟨lw_p29, List.forall_mem_cons.mpr ⟨lw_p30, List.forall_mem_cons.mpr ⟨lw_p31, fun _ h => absurd h List.not_mem_nil⟩⟩⟩⟩⟩⟩⟩⟩⟩⟩⟩⟩⟩⟩⟩⟩
theorem lw_p32 : lw_okq (⟨"AsWasSaidModel", "comeNow", "(I)I"⟩, 39) := ⟨⟨by decide +kernel, by decide +kernel⟩, List.mem_of_getElem? (i := 587) (by decide +kernel), List.mem_of_getElem? (i := 813) (by decide +kernel), List.mem_of_getElem? (i := 814) (by decide +kernel)⟩
theorem lw_p33 : lw_okq (⟨"AsWasSaidModel", "isHearer", "(I)Z"⟩, 39) := ⟨⟨by decide +kernel, by decide +kernel⟩, List.mem_of_getElem? (i := 587) (by decide +kernel), List.mem_of_getElem? (i := 839) (by decide +kernel), List.mem_of_getElem? (i := 840) (by decide +kernel)⟩
theorem lw_p34 : lw_okq (⟨"AsWasSaidModel", "hearerNow", "(II)I"⟩, 39) := ⟨⟨by decide +kernel, by decide +kernel⟩, List.mem_of_getElem? (i := 587) (by decide +kernel), List.mem_of_getElem? (i := 843) (by decide +kernel), List.mem_of_getElem? (i := 844) (by decide +kernel)⟩
theorem lw_p35 : lw_okq (⟨"AsWasSaidModel", "takes", "(I)I"⟩, 39) := ⟨⟨by decide +kernel, by decide +kernel⟩, List.mem_of_getElem? (i := 587) (by decide +kernel), List.mem_of_getElem? (i := 847) (by decide +kernel), List.mem_of_getElem? (i := 848) (by decide +kernel)⟩
theorem lw_p36 : lw_okq (⟨"AsWasSaidModel", "actsBy", "(III)Z"⟩, 39) := ⟨⟨by decide +kernel, by decide +kernel⟩, List.mem_of_getElem? (i := 587) (by decide +kernel), List.mem_of_getElem? (i := 851) (by decide +kernel), List.mem_of_getElem? (i := 852) (by decide +kernel)⟩
theorem lw_p37 : lw_okq (⟨"AsWasSaidModel", "doAct", "(I)V"⟩, 39) := ⟨⟨by decide +kernel, by decide +kernel⟩, List.mem_of_getElem? (i := 587) (by decide +kernel), List.mem_of_getElem? (i := 863) (by decide +kernel), List.mem_of_getElem? (i := 864) (by decide +kernel)⟩
theorem lw_p38 : lw_okq (⟨"AsWasSaidModel", "behind", "(III)I"⟩, 39) := ⟨⟨by decide +kernel, by decide +kernel⟩, List.mem_of_getElem? (i := 587) (by decide +kernel), List.mem_of_getElem? (i := 867) (by decide +kernel), List.mem_of_getElem? (i := 868) (by decide +kernel)⟩
theorem lw_p39 : lw_okq (⟨"AsWasSaidModel", "anyhowNow", "()I"⟩, 39) := ⟨⟨by decide +kernel, by decide +kernel⟩, List.mem_of_getElem? (i := 587) (by decide +kernel), List.mem_of_getElem? (i := 879) (by decide +kernel), List.mem_of_getElem? (i := 880) (by decide +kernel)⟩
theorem lw_p40 : lw_okq (⟨"AsWasSaidModel", "layTakes", "()V"⟩, 39) := ⟨⟨by decide +kernel, by decide +kernel⟩, List.mem_of_getElem? (i := 587) (by decide +kernel), List.mem_of_getElem? (i := 883) (by decide +kernel), List.mem_of_getElem? (i := 884) (by decide +kernel)⟩
theorem lw_p41 : lw_okq (⟨"AsWasSaidModel", "some", "()J"⟩, 39) := ⟨⟨by decide +kernel, by decide +kernel⟩, List.mem_of_getElem? (i := 587) (by decide +kernel), List.mem_of_getElem? (i := 887) (by decide +kernel), List.mem_of_getElem? (i := 888) (by decide +kernel)⟩
theorem lw_p42 : lw_okq (⟨"AsWasSaidModel", "roundFrom", "(I)I"⟩, 39) := ⟨⟨by decide +kernel, by decide +kernel⟩, List.mem_of_getElem? (i := 587) (by decide +kernel), List.mem_of_getElem? (i := 891) (by decide +kernel), List.mem_of_getElem? (i := 892) (by decide +kernel)⟩
theorem lw_p43 : lw_okq (⟨"AsWasSaidModel", "leftNow", "(I)I"⟩, 39) := ⟨⟨by decide +kernel, by decide +kernel⟩, List.mem_of_getElem? (i := 587) (by decide +kernel), List.mem_of_getElem? (i := 899) (by decide +kernel), List.mem_of_getElem? (i := 900) (by decide +kernel)⟩
theorem lw_p44 : lw_okq (⟨"AsWasSaidModel", "askNow", "()I"⟩, 39) := ⟨⟨by decide +kernel, by decide +kernel⟩, List.mem_of_getElem? (i := 587) (by decide +kernel), List.mem_of_getElem? (i := 907) (by decide +kernel), List.mem_of_getElem? (i := 908) (by decide +kernel)⟩
theorem lw_p45 : lw_okq (⟨"AsWasSaidModel", "addNow", "(I)I"⟩, 39) := ⟨⟨by decide +kernel, by decide +kernel⟩, List.mem_of_getElem? (i := 587) (by decide +kernel), List.mem_of_getElem? (i := 915) (by decide +kernel), List.mem_of_getElem? (i := 916) (by decide +kernel)⟩
theorem lw_p46 : lw_okq (⟨"AsWasSaidModel", "fitsNow", "(II)I"⟩, 39) := ⟨⟨by decide +kernel, by decide +kernel⟩, List.mem_of_getElem? (i := 587) (by decide +kernel), List.mem_of_getElem? (i := 931) (by decide +kernel), List.mem_of_getElem? (i := 932) (by decide +kernel)⟩
theorem lw_p47 : lw_okq (⟨"AsWasSaidModel", "timesNow", "(III)I"⟩, 39) := ⟨⟨by decide +kernel, by decide +kernel⟩, List.mem_of_getElem? (i := 587) (by decide +kernel), List.mem_of_getElem? (i := 939) (by decide +kernel), List.mem_of_getElem? (i := 940) (by decide +kernel)⟩
def lw_privs_3 : List (MethodName × Nat) := [(⟨"AsWasSaidModel", "comeNow", "(I)I"⟩, 39), (⟨"AsWasSaidModel", "isHearer", "(I)Z"⟩, 39), (⟨"AsWasSaidModel", "hearerNow", "(II)I"⟩, 39), (⟨"AsWasSaidModel", "takes", "(I)I"⟩, 39), (⟨"AsWasSaidModel", "actsBy", "(III)Z"⟩, 39), (⟨"AsWasSaidModel", "doAct", "(I)V"⟩, 39), (⟨"AsWasSaidModel", "behind", "(III)I"⟩, 39), (⟨"AsWasSaidModel", "anyhowNow", "()I"⟩, 39), (⟨"AsWasSaidModel", "layTakes", "()V"⟩, 39), (⟨"AsWasSaidModel", "some", "()J"⟩, 39), (⟨"AsWasSaidModel", "roundFrom", "(I)I"⟩, 39), (⟨"AsWasSaidModel", "leftNow", "(I)I"⟩, 39), (⟨"AsWasSaidModel", "askNow", "()I"⟩, 39), (⟨"AsWasSaidModel", "addNow", "(I)I"⟩, 39), (⟨"AsWasSaidModel", "fitsNow", "(II)I"⟩, 39), (⟨"AsWasSaidModel", "timesNow", "(III)I"⟩, 39)]
theorem lw_r3 : ∀ q ∈ lw_privs_3, lw_okq q := List.forall_mem_cons.mpr ⟨lw_p32, List.forall_mem_cons.mpr ⟨lw_p33, List.forall_mem_cons.mpr ⟨lw_p34, List.forall_mem_cons.mpr ⟨lw_p35, List.forall_mem_cons.mpr ⟨lw_p36, List.forall_mem_cons.mpr ⟨lw_p37, List.forall_mem_cons.mpr ⟨lw_p38, List.forall_mem_cons.mpr ⟨lw_p39, List.forall_mem_cons.mpr ⟨lw_p40, List.forall_mem_cons.mpr ⟨lw_p41, List.forall_mem_cons.mpr ⟨lw_p42, List.forall_mem_cons.mpr ⟨lw_p43, List.forall_mem_cons.mpr ⟨lw_p44, List.forall_mem_cons.mpr ⟨lw_p45, List.forall_mem_cons.mpr ⟨lw_p46, List.forall_mem_cons.mpr ⟨lw_p47, fun _ h => absurd h List.not_mem_nil⟩⟩⟩⟩⟩⟩⟩⟩⟩⟩⟩⟩⟩⟩⟩⟩
theorem lw_p48 : lw_okq (⟨"AsWasSaidModel", "draw", "(I)I"⟩, 39) := ⟨⟨by decide +kernel, by decide +kernel⟩, List.mem_of_getElem? (i := 587) (by decide +kernel), List.mem_of_getElem? (i := 943) (by decide +kernel), List.mem_of_getElem? (i := 944) (by decide +kernel)⟩
theorem lw_p49 : lw_okq (⟨"AsWasSaidModel", "howMany", "(I)I"⟩, 39) := ⟨⟨by decide +kernel, by decide +kernel⟩, List.mem_of_getElem? (i := 587) (by decide +kernel), List.mem_of_getElem? (i := 963) (by decide +kernel), List.mem_of_getElem? (i := 964) (by decide +kernel)⟩
theorem lw_p50 : lw_okq (⟨"AsWasSaidModel", "readingsOf", "(II)I"⟩, 39) := ⟨⟨by decide +kernel, by decide +kernel⟩, List.mem_of_getElem? (i := 587) (by decide +kernel), List.mem_of_getElem? (i := 967) (by decide +kernel), List.mem_of_getElem? (i := 968) (by decide +kernel)⟩
theorem lw_p51 : lw_okq (⟨"AsWasSaidModel", "mix", "(J)V"⟩, 39) := ⟨⟨by decide +kernel, by decide +kernel⟩, List.mem_of_getElem? (i := 587) (by decide +kernel), List.mem_of_getElem? (i := 976) (by decide +kernel), List.mem_of_getElem? (i := 977) (by decide +kernel)⟩
def lw_privs_4 : List (MethodName × Nat) := [(⟨"AsWasSaidModel", "draw", "(I)I"⟩, 39), (⟨"AsWasSaidModel", "howMany", "(I)I"⟩, 39), (⟨"AsWasSaidModel", "readingsOf", "(II)I"⟩, 39), (⟨"AsWasSaidModel", "mix", "(J)V"⟩, 39)]
theorem lw_r4 : ∀ q ∈ lw_privs_4, lw_okq q := List.forall_mem_cons.mpr ⟨lw_p48, List.forall_mem_cons.mpr ⟨lw_p49, List.forall_mem_cons.mpr ⟨lw_p50, List.forall_mem_cons.mpr ⟨lw_p51, fun _ h => absurd h List.not_mem_nil⟩⟩⟩⟩
def lw_privs : List (MethodName × Nat) := lw_privs_1 ++ (lw_privs_2 ++ (lw_privs_3 ++ (lw_privs_4)))
def lw_tbl : List Cond := k2_sels lw_privs ++ tables_1
theorem lw_privs_ok : ∀ q ∈ lw_privs, lw_okq q := by
  show ∀ q ∈ lw_privs_1 ++ (lw_privs_2 ++ (lw_privs_3 ++ (lw_privs_4))), lw_okq q
  exact List.forall_mem_append.mpr ⟨lw_r1, List.forall_mem_append.mpr ⟨lw_r2, List.forall_mem_append.mpr ⟨lw_r3, lw_r4⟩⟩⟩
-- NAMES (printed by program: claim/NAMES.whole.lean.txt, its names and decode rows)
def RX0 : String := "AsWasSaid$Hearers"
def TX0 : u_T := fun k => match k with
  | 0 => ("AsWasSaid$Hearers", "kinds", "[I", true)
  | 1 => ("AsWasSaid$Hearers", "facts", "[I", true)
  | 2 => ("AsWasSaid$Hearers", "values", "[I", true)
  | 3 => ("AsWasSaid$Hearers", "changes", "[I", true)
  | _ => ("AsWasSaid$Hearers", "number", "I", false)
def tyX0 : Nat → FieldType := fun k => match k with
  | 0 => .array .int
  | 1 => .array .int
  | 2 => .array .int
  | 3 => .array .int
  | _ => .int
abbrev wsX00 : List Cond := u_ws RX0 TX0 5
theorem nmX0 : ∀ a, a < 5 → ∀ b, b < 5 → a ≠ b → (TX0 a).2.1 ≠ (TX0 b).2.1 := by decide +kernel
theorem tyX0_ok : ∀ k, k < 5 → parseFieldDescriptor (TX0 k).2.2.1 = some (tyX0 k) := by decide +kernel
abbrev cX0_init : ByteArray := prog_2_method_1_code
def yX0_init : MethodName := ⟨RX0, "<init>", "()V"⟩
abbrev cX0_has : ByteArray := prog_2_method_2_code
def yX0_has : MethodName := ⟨RX0, "has", "(I)Z"⟩
abbrev cX0_join : ByteArray := prog_2_method_3_code
def yX0_join : MethodName := ⟨RX0, "join", "(III)Z"⟩
abbrev cX0_kindOf : ByteArray := prog_2_method_4_code
def yX0_kindOf : MethodName := ⟨RX0, "kindOf", "(I)I"⟩
abbrev cX0_factOf : ByteArray := prog_2_method_5_code
def yX0_factOf : MethodName := ⟨RX0, "factOf", "(I)I"⟩
abbrev cX0_valueOf : ByteArray := prog_2_method_6_code
def yX0_valueOf : MethodName := ⟨RX0, "valueOf", "(I)I"⟩
abbrev cX0_changesOf : ByteArray := prog_2_method_7_code
def yX0_changesOf : MethodName := ⟨RX0, "changesOf", "(I)I"⟩
abbrev cX0_countChange : ByteArray := prog_2_method_8_code
def yX0_countChange : MethodName := ⟨RX0, "countChange", "(I)V"⟩
abbrev cX0_become : ByteArray := prog_2_method_9_code
def yX0_become : MethodName := ⟨RX0, "become", "(LAsWasSaid$Hearers;)V"⟩
def RX1 : String := "AsWasSaid$Image"
def TX1 : u_T := fun k => match k with
  | 0 => ("AsWasSaid$Image", "hearers", "LAsWasSaid$Hearers;", true)
  | 1 => ("AsWasSaid$Image", "told", "LAsWasSaid$Told;", true)
  | 2 => ("AsWasSaid$Image", "isKept", "Z", false)
  | 3 => ("AsWasSaid$Image", "world", "I", false)
  | _ => ("AsWasSaid$Image", "rounds", "I", false)
def tyX1 : Nat → FieldType := fun k => match k with
  | 0 => .object "AsWasSaid$Hearers"
  | 1 => .object "AsWasSaid$Told"
  | 2 => .boolean
  | 3 => .int
  | _ => .int
abbrev wsX10 : List Cond := u_ws RX1 TX1 5
theorem nmX1 : ∀ a, a < 5 → ∀ b, b < 5 → a ≠ b → (TX1 a).2.1 ≠ (TX1 b).2.1 := by decide +kernel
theorem tyX1_ok : ∀ k, k < 5 → parseFieldDescriptor (TX1 k).2.2.1 = some (tyX1 k) := by decide +kernel
abbrev cX1_init : ByteArray := prog_3_method_1_code
def yX1_init : MethodName := ⟨RX1, "<init>", "()V"⟩
def RX2 : String := "AsWasSaid$Page"
def TX2 : u_T := fun k => match k with
  | 0 => ("AsWasSaid$Page", "codes", "[I", true)
  | _ => ("AsWasSaid$Page", "length", "I", false)
def tyX2 : Nat → FieldType := fun k => match k with
  | 0 => .array .int
  | _ => .int
abbrev wsX20 : List Cond := u_ws RX2 TX2 2
theorem nmX2 : ∀ a, a < 2 → ∀ b, b < 2 → a ≠ b → (TX2 a).2.1 ≠ (TX2 b).2.1 := by decide +kernel
theorem tyX2_ok : ∀ k, k < 2 → parseFieldDescriptor (TX2 k).2.2.1 = some (tyX2 k) := by decide +kernel
abbrev cX2_init : ByteArray := prog_4_method_1_code
def yX2_init : MethodName := ⟨RX2, "<init>", "()V"⟩
abbrev cX2_write : ByteArray := prog_4_method_2_code
def yX2_write : MethodName := ⟨RX2, "write", "(I)Z"⟩
abbrev cX2_clear : ByteArray := prog_4_method_3_code
def yX2_clear : MethodName := ⟨RX2, "clear", "()I"⟩
abbrev cX2_codeAt : ByteArray := prog_4_method_4_code
def yX2_codeAt : MethodName := ⟨RX2, "codeAt", "(I)I"⟩
abbrev cX2_faultAsSaying : ByteArray := prog_4_method_5_code
def yX2_faultAsSaying : MethodName := ⟨RX2, "faultAsSaying", "()I"⟩
abbrev cX2_faultAsSenses : ByteArray := prog_4_method_6_code
def yX2_faultAsSenses : MethodName := ⟨RX2, "faultAsSenses", "()I"⟩
abbrev cX2_isSaying : ByteArray := prog_4_method_7_code
def yX2_isSaying : MethodName := ⟨RX2, "isSaying", "()Z"⟩
abbrev cX2_isSenses : ByteArray := prog_4_method_8_code
def yX2_isSenses : MethodName := ⟨RX2, "isSenses", "()Z"⟩
abbrev cX2_isWordLetter : ByteArray := prog_4_method_9_code
def yX2_isWordLetter : MethodName := ⟨RX2, "isWordLetter", "(I)Z"⟩
abbrev cX2_isJoining : ByteArray := prog_4_method_10_code
def yX2_isJoining : MethodName := ⟨RX2, "isJoining", "(I)Z"⟩
def RX3 : String := "AsWasSaid$Saying"
def TX3 : u_T := fun k => match k with
  | 0 => ("AsWasSaid$Saying", "letters", "[I", true)
  | 1 => ("AsWasSaid$Saying", "negations", "[Z", true)
  | 2 => ("AsWasSaid$Saying", "pluses", "[Z", true)
  | 3 => ("AsWasSaid$Saying", "firstTruths", "[J", true)
  | 4 => ("AsWasSaid$Saying", "secondTruths", "[J", true)
  | 5 => ("AsWasSaid$Saying", "truths", "[J", true)
  | 6 => ("AsWasSaid$Saying", "words", "I", false)
  | 7 => ("AsWasSaid$Saying", "readings", "I", false)
  | 8 => ("AsWasSaid$Saying", "widest", "I", false)
  | 9 => ("AsWasSaid$Saying", "narrowest", "I", false)
  | _ => ("AsWasSaid$Saying", "some", "J", false)
def tyX3 : Nat → FieldType := fun k => match k with
  | 0 => .array .int
  | 1 => .array .boolean
  | 2 => .array .boolean
  | 3 => .array .long
  | 4 => .array .long
  | 5 => .array .long
  | 6 => .int
  | 7 => .int
  | 8 => .int
  | 9 => .int
  | _ => .long
abbrev wsX30 : List Cond := u_ws RX3 TX3 11
theorem nmX3 : ∀ a, a < 11 → ∀ b, b < 11 → a ≠ b → (TX3 a).2.1 ≠ (TX3 b).2.1 := by decide +kernel
theorem tyX3_ok : ∀ k, k < 11 → parseFieldDescriptor (TX3 k).2.2.1 = some (tyX3 k) := by decide +kernel
abbrev cX3_init : ByteArray := prog_5_method_1_code
def yX3_init : MethodName := ⟨RX3, "<init>", "()V"⟩
abbrev cX3_isNone : ByteArray := prog_5_method_2_code
def yX3_isNone : MethodName := ⟨RX3, "isNone", "()Z"⟩
abbrev cX3_hasReading : ByteArray := prog_5_method_3_code
def yX3_hasReading : MethodName := ⟨RX3, "hasReading", "(I)Z"⟩
abbrev cX3_truth : ByteArray := prog_5_method_4_code
def yX3_truth : MethodName := ⟨RX3, "truth", "(I)J"⟩
abbrev cX3_read : ByteArray := prog_5_method_5_code
def yX3_read : MethodName := ⟨RX3, "read", "(LAsWasSaid$Page;)V"⟩
abbrev cX3_append : ByteArray := prog_5_method_6_code
def yX3_append : MethodName := ⟨RX3, "append", "(ZZI)V"⟩
abbrev cX3_become : ByteArray := prog_5_method_7_code
def yX3_become : MethodName := ⟨RX3, "become", "(LAsWasSaid$Saying;)V"⟩
abbrev cX3_workOut : ByteArray := prog_5_method_8_code
def yX3_workOut : MethodName := ⟨RX3, "workOut", "([I)V"⟩
abbrev cX3_workOutReadings : ByteArray := prog_5_method_9_code
def yX3_workOutReadings : MethodName := ⟨RX3, "workOutReadings", "([I)V"⟩
abbrev cX3_workOutWords : ByteArray := prog_5_method_10_code
def yX3_workOutWords : MethodName := ⟨RX3, "workOutWords", "([I)V"⟩
abbrev cX3_countPluses : ByteArray := prog_5_method_11_code
def yX3_countPluses : MethodName := ⟨RX3, "countPluses", "()I"⟩
abbrev cX3_bracketings : ByteArray := prog_5_method_12_code
def yX3_bracketings : MethodName := ⟨RX3, "bracketings", "()I"⟩
abbrev cX3_joiningsThatAreOr : ByteArray := prog_5_method_13_code
def yX3_joiningsThatAreOr : MethodName := ⟨RX3, "joiningsThatAreOr", "(I)I"⟩
abbrev cX3_truthOf : ByteArray := prog_5_method_14_code
def yX3_truthOf : MethodName := ⟨RX3, "truthOf", "(III)J"⟩
abbrev cX3_truthOfThree : ByteArray := prog_5_method_15_code
def yX3_truthOfThree : MethodName := ⟨RX3, "truthOfThree", "(III)J"⟩
abbrev cX3_truthOfFour : ByteArray := prog_5_method_16_code
def yX3_truthOfFour : MethodName := ⟨RX3, "truthOfFour", "(III)J"⟩
abbrev cX3_wordTruth : ByteArray := prog_5_method_17_code
def yX3_wordTruth : MethodName := ⟨RX3, "wordTruth", "(II)J"⟩
abbrev cX3_joined : ByteArray := prog_5_method_18_code
def yX3_joined : MethodName := ⟨RX3, "joined", "(IIJJ)J"⟩
abbrev cX3_weigh : ByteArray := prog_5_method_19_code
def yX3_weigh : MethodName := ⟨RX3, "weigh", "()V"⟩
abbrev cX3_readingsSoIn : ByteArray := prog_5_method_20_code
def yX3_readingsSoIn : MethodName := ⟨RX3, "readingsSoIn", "(I)I"⟩
abbrev cX3_firstReadingSoIn : ByteArray := prog_5_method_21_code
def yX3_firstReadingSoIn : MethodName := ⟨RX3, "firstReadingSoIn", "(I)I"⟩
def RX4 : String := "AsWasSaid$Told"
def TX4 : u_T := fun k => match k with
  | 0 => ("AsWasSaid$Told", "worlds", "[I", true)
  | _ => ("AsWasSaid$Told", "number", "I", false)
def tyX4 : Nat → FieldType := fun k => match k with
  | 0 => .array .int
  | _ => .int
abbrev wsX40 : List Cond := u_ws RX4 TX4 2
theorem nmX4 : ∀ a, a < 2 → ∀ b, b < 2 → a ≠ b → (TX4 a).2.1 ≠ (TX4 b).2.1 := by decide +kernel
theorem tyX4_ok : ∀ k, k < 2 → parseFieldDescriptor (TX4 k).2.2.1 = some (tyX4 k) := by decide +kernel
abbrev cX4_init : ByteArray := prog_6_method_1_code
def yX4_init : MethodName := ⟨RX4, "<init>", "()V"⟩
abbrev cX4_append : ByteArray := prog_6_method_2_code
def yX4_append : MethodName := ⟨RX4, "append", "(I)Z"⟩
abbrev cX4_worldAt : ByteArray := prog_6_method_3_code
def yX4_worldAt : MethodName := ⟨RX4, "worldAt", "(I)I"⟩
abbrev cX4_become : ByteArray := prog_6_method_4_code
def yX4_become : MethodName := ⟨RX4, "become", "(LAsWasSaid$Told;)V"⟩
def RX5 : String := "AsWasSaid"
def TX5 : u_T := fun k => match k with
  | 0 => ("AsWasSaid", "page", "LAsWasSaid$Page;", true)
  | 1 => ("AsWasSaid", "secondSenses", "[I", true)
  | 2 => ("AsWasSaid", "saying", "LAsWasSaid$Saying;", true)
  | 3 => ("AsWasSaid", "other", "LAsWasSaid$Saying;", true)
  | 4 => ("AsWasSaid", "longer", "LAsWasSaid$Saying;", true)
  | 5 => ("AsWasSaid", "hearers", "LAsWasSaid$Hearers;", true)
  | 6 => ("AsWasSaid", "told", "LAsWasSaid$Told;", true)
  | 7 => ("AsWasSaid", "kept", "LAsWasSaid$Image;", true)
  | 8 => ("AsWasSaid", "world", "I", false)
  | 9 => ("AsWasSaid", "rounds", "I", false)
  | 10 => ("AsWasSaid", "timesSaid", "I", false)
  | _ => ("AsWasSaid", "timesAdded", "I", false)
def tyX5 : Nat → FieldType := fun k => match k with
  | 0 => .object "AsWasSaid$Page"
  | 1 => .array .int
  | 2 => .object "AsWasSaid$Saying"
  | 3 => .object "AsWasSaid$Saying"
  | 4 => .object "AsWasSaid$Saying"
  | 5 => .object "AsWasSaid$Hearers"
  | 6 => .object "AsWasSaid$Told"
  | 7 => .object "AsWasSaid$Image"
  | 8 => .int
  | 9 => .int
  | 10 => .int
  | _ => .int
abbrev wsX50 : List Cond := u_ws RX5 TX5 12
theorem nmX5 : ∀ a, a < 12 → ∀ b, b < 12 → a ≠ b → (TX5 a).2.1 ≠ (TX5 b).2.1 := by decide +kernel
theorem tyX5_ok : ∀ k, k < 12 → parseFieldDescriptor (TX5 k).2.2.1 = some (tyX5 k) := by decide +kernel
abbrev cX5_init : ByteArray := prog_1_method_1_code
def yX5_init : MethodName := ⟨RX5, "<init>", "()V"⟩
abbrev cX5_letter : ByteArray := prog_1_method_2_code
def yX5_letter : MethodName := ⟨RX5, "letter", "(I)I"⟩
abbrev cX5_blank : ByteArray := prog_1_method_3_code
def yX5_blank : MethodName := ⟨RX5, "blank", "()I"⟩
abbrev cX5_fault : ByteArray := prog_1_method_4_code
def yX5_fault : MethodName := ⟨RX5, "fault", "(I)I"⟩
abbrev cX5_say : ByteArray := prog_1_method_5_code
def yX5_say : MethodName := ⟨RX5, "say", "()I"⟩
abbrev cX5_senses : ByteArray := prog_1_method_6_code
def yX5_senses : MethodName := ⟨RX5, "senses", "()I"⟩
abbrev cX5_sense : ByteArray := prog_1_method_7_code
def yX5_sense : MethodName := ⟨RX5, "sense", "(I)I"⟩
abbrev cX5_reading : ByteArray := prog_1_method_8_code
def yX5_reading : MethodName := ⟨RX5, "reading", "(I)I"⟩
abbrev cX5_isSo : ByteArray := prog_1_method_9_code
def yX5_isSo : MethodName := ⟨RX5, "isSo", "(II)I"⟩
abbrev cX5_come : ByteArray := prog_1_method_10_code
def yX5_come : MethodName := ⟨RX5, "come", "(I)I"⟩
abbrev cX5_fact : ByteArray := prog_1_method_11_code
def yX5_fact : MethodName := ⟨RX5, "fact", "(I)I"⟩
abbrev cX5_set : ByteArray := prog_1_method_12_code
def yX5_set : MethodName := ⟨RX5, "set", "(II)I"⟩
abbrev cX5_hearer : ByteArray := prog_1_method_13_code
def yX5_hearer : MethodName := ⟨RX5, "hearer", "(III)I"⟩
abbrev cX5_about : ByteArray := prog_1_method_14_code
def yX5_about : MethodName := ⟨RX5, "about", "(II)I"⟩
abbrev cX5_as : ByteArray := prog_1_method_15_code
def yX5_as : MethodName := ⟨RX5, "as", "(II)I"⟩
abbrev cX5_act : ByteArray := prog_1_method_16_code
def yX5_act : MethodName := ⟨RX5, "act", "(I)I"⟩
abbrev cX5_round : ByteArray := prog_1_method_17_code
def yX5_round : MethodName := ⟨RX5, "round", "()I"⟩
abbrev cX5_anyhow : ByteArray := prog_1_method_18_code
def yX5_anyhow : MethodName := ⟨RX5, "anyhow", "()I"⟩
abbrev cX5_left : ByteArray := prog_1_method_19_code
def yX5_left : MethodName := ⟨RX5, "left", "(I)I"⟩
abbrev cX5_ask : ByteArray := prog_1_method_20_code
def yX5_ask : MethodName := ⟨RX5, "ask", "()I"⟩
abbrev cX5_add : ByteArray := prog_1_method_21_code
def yX5_add : MethodName := ⟨RX5, "add", "(I)I"⟩
abbrev cX5_tell : ByteArray := prog_1_method_22_code
def yX5_tell : MethodName := ⟨RX5, "tell", "(I)I"⟩
abbrev cX5_then : ByteArray := prog_1_method_23_code
def yX5_then : MethodName := ⟨RX5, "then", "(I)I"⟩
abbrev cX5_fits : ByteArray := prog_1_method_24_code
def yX5_fits : MethodName := ⟨RX5, "fits", "(II)I"⟩
abbrev cX5_times : ByteArray := prog_1_method_25_code
def yX5_times : MethodName := ⟨RX5, "times", "(III)I"⟩
abbrev cX5_image : ByteArray := prog_1_method_26_code
def yX5_image : MethodName := ⟨RX5, "image", "()I"⟩
abbrev cX5_restore : ByteArray := prog_1_method_27_code
def yX5_restore : MethodName := ⟨RX5, "restore", "()I"⟩
abbrev cX5_count : ByteArray := prog_1_method_28_code
def yX5_count : MethodName := ⟨RX5, "count", "(I)I"⟩
abbrev cX5_digest : ByteArray := prog_1_method_29_code
def yX5_digest : MethodName := ⟨RX5, "digest", "()J"⟩
abbrev cX5_mixed : ByteArray := prog_1_method_30_code
def yX5_mixed : MethodName := ⟨RX5, "mixed", "(JJ)J"⟩
abbrev cX5_mixedWithHearers : ByteArray := prog_1_method_31_code
def yX5_mixedWithHearers : MethodName := ⟨RX5, "mixedWithHearers", "(J)J"⟩
abbrev cX5_mixedWithSaying : ByteArray := prog_1_method_32_code
def yX5_mixedWithSaying : MethodName := ⟨RX5, "mixedWithSaying", "(J)J"⟩
abbrev cX5_mixedWithFits : ByteArray := prog_1_method_33_code
def yX5_mixedWithFits : MethodName := ⟨RX5, "mixedWithFits", "(J)J"⟩
abbrev cX5_isFact : ByteArray := prog_1_method_34_code
def yX5_isFact : MethodName := ⟨RX5, "isFact", "(I)Z"⟩
abbrev cX5_isValue : ByteArray := prog_1_method_35_code
def yX5_isValue : MethodName := ⟨RX5, "isValue", "(I)Z"⟩
abbrev cX5_isWorld : ByteArray := prog_1_method_36_code
def yX5_isWorld : MethodName := ⟨RX5, "isWorld", "(I)Z"⟩
abbrev cX5_isKind : ByteArray := prog_1_method_37_code
def yX5_isKind : MethodName := ⟨RX5, "isKind", "(I)Z"⟩
abbrev cX5_isOfKind : ByteArray := prog_1_method_38_code
def yX5_isOfKind : MethodName := ⟨RX5, "isOfKind", "(II)Z"⟩
abbrev cX5_bitOf : ByteArray := prog_1_method_39_code
def yX5_bitOf : MethodName := ⟨RX5, "bitOf", "(JI)I"⟩
abbrev cX5_withFact : ByteArray := prog_1_method_40_code
def yX5_withFact : MethodName := ⟨RX5, "withFact", "(III)I"⟩
abbrev cX5_worldsOfFact : ByteArray := prog_1_method_41_code
def yX5_worldsOfFact : MethodName := ⟨RX5, "worldsOfFact", "(I)J"⟩
abbrev cX5_taken : ByteArray := prog_1_method_42_code
def yX5_taken : MethodName := ⟨RX5, "taken", "(I)I"⟩
abbrev cX5_actsNow : ByteArray := prog_1_method_43_code
def yX5_actsNow : MethodName := ⟨RX5, "actsNow", "(I)Z"⟩
abbrev cX5_actsBy : ByteArray := prog_1_method_44_code
def yX5_actsBy : MethodName := ⟨RX5, "actsBy", "(III)Z"⟩
abbrev cX5_behindAct : ByteArray := prog_1_method_45_code
def yX5_behindAct : MethodName := ⟨RX5, "behindAct", "(III)I"⟩
abbrev cX5_behindRound : ByteArray := prog_1_method_46_code
def yX5_behindRound : MethodName := ⟨RX5, "behindRound", "(I)I"⟩
abbrev cX5_letAct : ByteArray := prog_1_method_47_code
def yX5_letAct : MethodName := ⟨RX5, "letAct", "(I)V"⟩
abbrev cX5_worldsLeft : ByteArray := prog_1_method_48_code
def yX5_worldsLeft : MethodName := ⟨RX5, "worldsLeft", "()J"⟩
abbrev cX5_factsSoInAll : ByteArray := prog_1_method_49_code
def yX5_factsSoInAll : MethodName := ⟨RX5, "factsSoInAll", "(J)I"⟩
abbrev cX5_factsSoInNone : ByteArray := prog_1_method_50_code
def yX5_factsSoInNone : MethodName := ⟨RX5, "factsSoInNone", "(J)I"⟩
abbrev cX5_leftAtWorst : ByteArray := prog_1_method_51_code
def yX5_leftAtWorst : MethodName := ⟨RX5, "leftAtWorst", "(I)I"⟩
abbrev cX5_readingsWith : ByteArray := prog_1_method_52_code
def yX5_readingsWith : MethodName := ⟨RX5, "readingsWith", "(I)I"⟩
abbrev cX5_doesFit : ByteArray := prog_1_method_53_code
def yX5_doesFit : MethodName := ⟨RX5, "doesFit", "(II)Z"⟩
abbrev cX5_nextSeed : ByteArray := prog_1_method_54_code
def yX5_nextSeed : MethodName := ⟨RX5, "nextSeed", "(I)I"⟩
abbrev cX5_drawOf : ByteArray := prog_1_method_55_code
def yX5_drawOf : MethodName := ⟨RX5, "drawOf", "(II)I"⟩
def RX6 : String := "AsWasSaidModel"
def TX6 : u_T := fun k => match k with
  | 0 => ("AsWasSaidModel", "world", "I", false)
  | 1 => ("AsWasSaidModel", "sayings", "I", false)
  | 2 => ("AsWasSaidModel", "senseOf", "[I", true)
  | 3 => ("AsWasSaidModel", "words", "I", false)
  | 4 => ("AsWasSaidModel", "wordOf", "[I", true)
  | 5 => ("AsWasSaidModel", "joinOf", "[I", true)
  | 6 => ("AsWasSaidModel", "otherWords", "I", false)
  | 7 => ("AsWasSaidModel", "otherWord", "[I", true)
  | 8 => ("AsWasSaidModel", "otherJoin", "[I", true)
  | 9 => ("AsWasSaidModel", "hearers", "I", false)
  | 10 => ("AsWasSaidModel", "kindOf", "[I", true)
  | 11 => ("AsWasSaidModel", "factOf", "[I", true)
  | 12 => ("AsWasSaidModel", "valueOf", "[I", true)
  | 13 => ("AsWasSaidModel", "changesOf", "[I", true)
  | 14 => ("AsWasSaidModel", "rounds", "I", false)
  | 15 => ("AsWasSaidModel", "told", "I", false)
  | 16 => ("AsWasSaidModel", "toldOf", "[I", true)
  | 17 => ("AsWasSaidModel", "asks", "I", false)
  | 18 => ("AsWasSaidModel", "pageLength", "I", false)
  | 19 => ("AsWasSaidModel", "page", "[B", true)
  | 20 => ("AsWasSaidModel", "faultAt", "I", false)
  | 21 => ("AsWasSaidModel", "isWhole", "Z", false)
  | 22 => ("AsWasSaidModel", "newWords", "I", false)
  | 23 => ("AsWasSaidModel", "newWord", "[I", true)
  | 24 => ("AsWasSaidModel", "newJoin", "[I", true)
  | 25 => ("AsWasSaidModel", "readings", "I", false)
  | 26 => ("AsWasSaidModel", "soOf", "[J", true)
  | 27 => ("AsWasSaidModel", "value", "[J", true)
  | 28 => ("AsWasSaidModel", "joining", "[I", true)
  | 29 => ("AsWasSaidModel", "takesOf", "[I", true)
  | 30 => ("AsWasSaidModel", "seedNow", "J", false)
  | 31 => ("AsWasSaidModel", "isKept", "Z", false)
  | 32 => ("AsWasSaidModel", "keptWorld", "I", false)
  | 33 => ("AsWasSaidModel", "keptHearers", "I", false)
  | 34 => ("AsWasSaidModel", "keptRounds", "I", false)
  | 35 => ("AsWasSaidModel", "keptTold", "I", false)
  | 36 => ("AsWasSaidModel", "keptChanges", "[I", true)
  | 37 => ("AsWasSaidModel", "keptToldOf", "[I", true)
  | _ => ("AsWasSaidModel", "h", "J", false)
def tyX6 : Nat → FieldType := fun k => match k with
  | 0 => .int
  | 1 => .int
  | 2 => .array .int
  | 3 => .int
  | 4 => .array .int
  | 5 => .array .int
  | 6 => .int
  | 7 => .array .int
  | 8 => .array .int
  | 9 => .int
  | 10 => .array .int
  | 11 => .array .int
  | 12 => .array .int
  | 13 => .array .int
  | 14 => .int
  | 15 => .int
  | 16 => .array .int
  | 17 => .int
  | 18 => .int
  | 19 => .array .byte
  | 20 => .int
  | 21 => .boolean
  | 22 => .int
  | 23 => .array .int
  | 24 => .array .int
  | 25 => .int
  | 26 => .array .long
  | 27 => .array .long
  | 28 => .array .int
  | 29 => .array .int
  | 30 => .long
  | 31 => .boolean
  | 32 => .int
  | 33 => .int
  | 34 => .int
  | 35 => .int
  | 36 => .array .int
  | 37 => .array .int
  | _ => .long
abbrev wsX60 : List Cond := u_ws RX6 TX6 39
theorem nmX6 : ∀ a, a < 39 → ∀ b, b < 39 → a ≠ b → (TX6 a).2.1 ≠ (TX6 b).2.1 := by decide +kernel
theorem tyX6_ok : ∀ k, k < 39 → parseFieldDescriptor (TX6 k).2.2.1 = some (tyX6 k) := by decide +kernel
abbrev cX6_init : ByteArray := prog_8_method_1_code
def yX6_init : MethodName := ⟨RX6, "<init>", "()V"⟩
abbrev cX6_within : ByteArray := prog_8_method_3_code
def yX6_within : MethodName := ⟨RX6, "within", "(III)Z"⟩
abbrev cX6_letter : ByteArray := prog_8_method_4_code
def yX6_letter : MethodName := ⟨RX6, "letter", "(I)I"⟩
abbrev cX6_blank : ByteArray := prog_8_method_5_code
def yX6_blank : MethodName := ⟨RX6, "blank", "()I"⟩
abbrev cX6_nextState : ByteArray := prog_8_method_6_code
def yX6_nextState : MethodName := ⟨RX6, "nextState", "(II)I"⟩
abbrev cX6_readSaying : ByteArray := prog_8_method_7_code
def yX6_readSaying : MethodName := ⟨RX6, "readSaying", "()V"⟩
abbrev cX6_readSenses : ByteArray := prog_8_method_8_code
def yX6_readSenses : MethodName := ⟨RX6, "readSenses", "()V"⟩
abbrev cX6_fault : ByteArray := prog_8_method_9_code
def yX6_fault : MethodName := ⟨RX6, "fault", "(I)I"⟩
abbrev cX6_say : ByteArray := prog_8_method_10_code
def yX6_say : MethodName := ⟨RX6, "say", "()I"⟩
abbrev cX6_senses : ByteArray := prog_8_method_11_code
def yX6_senses : MethodName := ⟨RX6, "senses", "()I"⟩
abbrev cX6_isLetter : ByteArray := prog_8_method_12_code
def yX6_isLetter : MethodName := ⟨RX6, "isLetter", "(I)Z"⟩
abbrev cX6_sense : ByteArray := prog_8_method_13_code
def yX6_sense : MethodName := ⟨RX6, "sense", "(I)I"⟩
abbrev cX6_worldsOf : ByteArray := prog_8_method_14_code
def yX6_worldsOf : MethodName := ⟨RX6, "worldsOf", "(I)J"⟩
abbrev cX6_brackets : ByteArray := prog_8_method_15_code
def yX6_brackets : MethodName := ⟨RX6, "brackets", "(I)I"⟩
abbrev cX6_wordAt : ByteArray := prog_8_method_16_code
def yX6_wordAt : MethodName := ⟨RX6, "wordAt", "(II)I"⟩
abbrev cX6_joinAt : ByteArray := prog_8_method_17_code
def yX6_joinAt : MethodName := ⟨RX6, "joinAt", "(II)I"⟩
abbrev cX6_bothMany : ByteArray := prog_8_method_18_code
def yX6_bothMany : MethodName := ⟨RX6, "bothMany", "(II)I"⟩
abbrev cX6_lay : ByteArray := prog_8_method_19_code
def yX6_lay : MethodName := ⟨RX6, "lay", "(II)V"⟩
abbrev cX6_joined : ByteArray := prog_8_method_20_code
def yX6_joined : MethodName := ⟨RX6, "joined", "(JIJ)J"⟩
abbrev cX6_bracketed : ByteArray := prog_8_method_21_code
def yX6_bracketed : MethodName := ⟨RX6, "bracketed", "(II)J"⟩
abbrev cX6_ofFour : ByteArray := prog_8_method_22_code
def yX6_ofFour : MethodName := ⟨RX6, "ofFour", "(IJJJJ)J"⟩
abbrev cX6_size : ByteArray := prog_8_method_23_code
def yX6_size : MethodName := ⟨RX6, "size", "(J)I"⟩
abbrev cX6_isIn : ByteArray := prog_8_method_24_code
def yX6_isIn : MethodName := ⟨RX6, "isIn", "(JI)Z"⟩
abbrev cX6_isReading : ByteArray := prog_8_method_25_code
def yX6_isReading : MethodName := ⟨RX6, "isReading", "(I)Z"⟩
abbrev cX6_isWorld : ByteArray := prog_8_method_26_code
def yX6_isWorld : MethodName := ⟨RX6, "isWorld", "(I)Z"⟩
abbrev cX6_reading : ByteArray := prog_8_method_27_code
def yX6_reading : MethodName := ⟨RX6, "reading", "(I)I"⟩
abbrev cX6_isSo : ByteArray := prog_8_method_28_code
def yX6_isSo : MethodName := ⟨RX6, "isSo", "(II)I"⟩
abbrev cX6_comeNow : ByteArray := prog_8_method_29_code
def yX6_comeNow : MethodName := ⟨RX6, "comeNow", "(I)I"⟩
abbrev cX6_come : ByteArray := prog_8_method_30_code
def yX6_come : MethodName := ⟨RX6, "come", "(I)I"⟩
abbrev cX6_isFact : ByteArray := prog_8_method_31_code
def yX6_isFact : MethodName := ⟨RX6, "isFact", "(I)Z"⟩
abbrev cX6_fact : ByteArray := prog_8_method_32_code
def yX6_fact : MethodName := ⟨RX6, "fact", "(I)I"⟩
abbrev cX6_with : ByteArray := prog_8_method_33_code
def yX6_with : MethodName := ⟨RX6, "with", "(III)I"⟩
abbrev cX6_set : ByteArray := prog_8_method_34_code
def yX6_set : MethodName := ⟨RX6, "set", "(II)I"⟩
abbrev cX6_isHearer : ByteArray := prog_8_method_35_code
def yX6_isHearer : MethodName := ⟨RX6, "isHearer", "(I)Z"⟩
abbrev cX6_hearer : ByteArray := prog_8_method_36_code
def yX6_hearer : MethodName := ⟨RX6, "hearer", "(III)I"⟩
abbrev cX6_takes : ByteArray := prog_8_method_37_code
def yX6_takes : MethodName := ⟨RX6, "takes", "(I)I"⟩
abbrev cX6_actsBy : ByteArray := prog_8_method_38_code
def yX6_actsBy : MethodName := ⟨RX6, "actsBy", "(III)Z"⟩
abbrev cX6_behind : ByteArray := prog_8_method_39_code
def yX6_behind : MethodName := ⟨RX6, "behind", "(III)I"⟩
abbrev cX6_hearerNow : ByteArray := prog_8_method_40_code
def yX6_hearerNow : MethodName := ⟨RX6, "hearerNow", "(II)I"⟩
abbrev cX6_about : ByteArray := prog_8_method_41_code
def yX6_about : MethodName := ⟨RX6, "about", "(II)I"⟩
abbrev cX6_as : ByteArray := prog_8_method_42_code
def yX6_as : MethodName := ⟨RX6, "as", "(II)I"⟩
abbrev cX6_doAct : ByteArray := prog_8_method_43_code
def yX6_doAct : MethodName := ⟨RX6, "doAct", "(I)V"⟩
abbrev cX6_act : ByteArray := prog_8_method_44_code
def yX6_act : MethodName := ⟨RX6, "act", "(I)I"⟩
abbrev cX6_round : ByteArray := prog_8_method_45_code
def yX6_round : MethodName := ⟨RX6, "round", "()I"⟩
abbrev cX6_layTakes : ByteArray := prog_8_method_46_code
def yX6_layTakes : MethodName := ⟨RX6, "layTakes", "()V"⟩
abbrev cX6_roundFrom : ByteArray := prog_8_method_47_code
def yX6_roundFrom : MethodName := ⟨RX6, "roundFrom", "(I)I"⟩
abbrev cX6_some : ByteArray := prog_8_method_48_code
def yX6_some : MethodName := ⟨RX6, "some", "()J"⟩
abbrev cX6_anyhowNow : ByteArray := prog_8_method_49_code
def yX6_anyhowNow : MethodName := ⟨RX6, "anyhowNow", "()I"⟩
abbrev cX6_anyhow : ByteArray := prog_8_method_50_code
def yX6_anyhow : MethodName := ⟨RX6, "anyhow", "()I"⟩
abbrev cX6_leftNow : ByteArray := prog_8_method_51_code
def yX6_leftNow : MethodName := ⟨RX6, "leftNow", "(I)I"⟩
abbrev cX6_left : ByteArray := prog_8_method_52_code
def yX6_left : MethodName := ⟨RX6, "left", "(I)I"⟩
abbrev cX6_askNow : ByteArray := prog_8_method_53_code
def yX6_askNow : MethodName := ⟨RX6, "askNow", "()I"⟩
abbrev cX6_ask : ByteArray := prog_8_method_54_code
def yX6_ask : MethodName := ⟨RX6, "ask", "()I"⟩
abbrev cX6_addNow : ByteArray := prog_8_method_55_code
def yX6_addNow : MethodName := ⟨RX6, "addNow", "(I)I"⟩
abbrev cX6_add : ByteArray := prog_8_method_56_code
def yX6_add : MethodName := ⟨RX6, "add", "(I)I"⟩
abbrev cX6_tell : ByteArray := prog_8_method_57_code
def yX6_tell : MethodName := ⟨RX6, "tell", "(I)I"⟩
abbrev cX6_then : ByteArray := prog_8_method_58_code
def yX6_then : MethodName := ⟨RX6, "then", "(I)I"⟩
abbrev cX6_fitsNow : ByteArray := prog_8_method_59_code
def yX6_fitsNow : MethodName := ⟨RX6, "fitsNow", "(II)I"⟩
abbrev cX6_fits : ByteArray := prog_8_method_60_code
def yX6_fits : MethodName := ⟨RX6, "fits", "(II)I"⟩
abbrev cX6_draw : ByteArray := prog_8_method_61_code
def yX6_draw : MethodName := ⟨RX6, "draw", "(I)I"⟩
abbrev cX6_timesNow : ByteArray := prog_8_method_62_code
def yX6_timesNow : MethodName := ⟨RX6, "timesNow", "(III)I"⟩
abbrev cX6_times : ByteArray := prog_8_method_63_code
def yX6_times : MethodName := ⟨RX6, "times", "(III)I"⟩
abbrev cX6_image : ByteArray := prog_8_method_64_code
def yX6_image : MethodName := ⟨RX6, "image", "()I"⟩
abbrev cX6_restore : ByteArray := prog_8_method_65_code
def yX6_restore : MethodName := ⟨RX6, "restore", "()I"⟩
abbrev cX6_readingsOf : ByteArray := prog_8_method_66_code
def yX6_readingsOf : MethodName := ⟨RX6, "readingsOf", "(II)I"⟩
abbrev cX6_howMany : ByteArray := prog_8_method_67_code
def yX6_howMany : MethodName := ⟨RX6, "howMany", "(I)I"⟩
abbrev cX6_count : ByteArray := prog_8_method_68_code
def yX6_count : MethodName := ⟨RX6, "count", "(I)I"⟩
abbrev cX6_mix : ByteArray := prog_8_method_69_code
def yX6_mix : MethodName := ⟨RX6, "mix", "(J)V"⟩
abbrev cX6_digest : ByteArray := prog_8_method_70_code
def yX6_digest : MethodName := ⟨RX6, "digest", "()J"⟩
def RJ13 : String := "java/lang/Long"
abbrev cJ13_bitCount_95d88 : ByteArray := prog_9_method_50_code
def yJ13_bitCount_95d88 : MethodName := ⟨RJ13, "bitCount", "(J)I"⟩
def RJ9 : String := "java/lang/Math"
abbrev cJ9_max_7cf53 : ByteArray := prog_10_method_65_code
def yJ9_max_7cf53 : MethodName := ⟨RJ9, "max", "(II)I"⟩
def RL : String := "AsWasSaidLaw"
abbrev cL_law : ByteArray := code
def yL_law : MethodName := ⟨RL, "law", "([I)Z"⟩
abbrev vwCl : List vw_C := [(RX0, TX0, 5), (RX1, TX1, 5), (RX2, TX2, 2), (RX3, TX3, 11), (RX4, TX4, 2), (RX5, TX5, 12), (RX6, TX6, 39)]
