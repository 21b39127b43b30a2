section
-- ===== PART A: goes FIRST, ahead of the names: the tables' words, and 'selects' of the private methods out of them =====
/-- a private method of a class that the tables say can be made, by its rows of tables_1 -/
def lw_okq (q : MethodName × Nat) : Prop := (q.1.cls ≠ "java/lang/invoke/MethodHandle" ∧ q.1.cls ≠ "java/lang/invoke/VarHandle") ∧ Cond.instantiable q.1.cls q.2 ∈ tables_1 ∧ Cond.privateMethod q.1 ∈ tables_1 ∧ Cond.instanceMethod q.1 ∈ tables_1
theorem lw_p0 : lw_okq (⟨"AsWasSaid$Saying", "workOutWords", "([I)V"⟩, 11) := ⟨⟨by decide +kernel, by decide +kernel⟩, List.mem_of_getElem? (i := 35) (by decide +kernel), List.mem_of_getElem? (i := 251) (by decide +kernel), List.mem_of_getElem? (i := 252) (by decide +kernel)⟩
theorem lw_p1 : lw_okq (⟨"AsWasSaid$Saying", "countPluses", "()I"⟩, 11) := ⟨⟨by decide +kernel, by decide +kernel⟩, List.mem_of_getElem? (i := 35) (by decide +kernel), List.mem_of_getElem? (i := 261) (by decide +kernel), List.mem_of_getElem? (i := 262) (by decide +kernel)⟩
theorem lw_p2 : lw_okq (⟨"AsWasSaid$Saying", "bracketings", "()I"⟩, 11) := ⟨⟨by decide +kernel, by decide +kernel⟩, List.mem_of_getElem? (i := 35) (by decide +kernel), List.mem_of_getElem? (i := 265) (by decide +kernel), List.mem_of_getElem? (i := 266) (by decide +kernel)⟩
theorem lw_p3 : lw_okq (⟨"AsWasSaid$Saying", "joiningsThatAreOr", "(I)I"⟩, 11) := ⟨⟨by decide +kernel, by decide +kernel⟩, List.mem_of_getElem? (i := 35) (by decide +kernel), List.mem_of_getElem? (i := 269) (by decide +kernel), List.mem_of_getElem? (i := 270) (by decide +kernel)⟩
theorem lw_p4 : lw_okq (⟨"AsWasSaid$Saying", "truthOf", "(III)J"⟩, 11) := ⟨⟨by decide +kernel, by decide +kernel⟩, List.mem_of_getElem? (i := 35) (by decide +kernel), List.mem_of_getElem? (i := 276) (by decide +kernel), List.mem_of_getElem? (i := 277) (by decide +kernel)⟩
theorem lw_p5 : lw_okq (⟨"AsWasSaid$Saying", "wordTruth", "(II)J"⟩, 11) := ⟨⟨by decide +kernel, by decide +kernel⟩, List.mem_of_getElem? (i := 35) (by decide +kernel), List.mem_of_getElem? (i := 280) (by decide +kernel), List.mem_of_getElem? (i := 281) (by decide +kernel)⟩
theorem lw_p6 : lw_okq (⟨"AsWasSaid$Saying", "truthOfThree", "(III)J"⟩, 11) := ⟨⟨by decide +kernel, by decide +kernel⟩, List.mem_of_getElem? (i := 35) (by decide +kernel), List.mem_of_getElem? (i := 287) (by decide +kernel), List.mem_of_getElem? (i := 288) (by decide +kernel)⟩
theorem lw_p7 : lw_okq (⟨"AsWasSaid$Saying", "truthOfFour", "(III)J"⟩, 11) := ⟨⟨by decide +kernel, by decide +kernel⟩, List.mem_of_getElem? (i := 35) (by decide +kernel), List.mem_of_getElem? (i := 291) (by decide +kernel), List.mem_of_getElem? (i := 292) (by decide +kernel)⟩
theorem lw_p8 : lw_okq (⟨"AsWasSaid$Saying", "weigh", "()V"⟩, 11) := ⟨⟨by decide +kernel, by decide +kernel⟩, List.mem_of_getElem? (i := 35) (by decide +kernel), List.mem_of_getElem? (i := 295) (by decide +kernel), List.mem_of_getElem? (i := 296) (by decide +kernel)⟩
theorem lw_p9 : lw_okq (⟨"AsWasSaid", "taken", "(I)I"⟩, 12) := ⟨⟨by decide +kernel, by decide +kernel⟩, List.mem_of_getElem? (i := 11) (by decide +kernel), List.mem_of_getElem? (i := 408) (by decide +kernel), List.mem_of_getElem? (i := 409) (by decide +kernel)⟩
theorem lw_p10 : lw_okq (⟨"AsWasSaid", "actsNow", "(I)Z"⟩, 12) := ⟨⟨by decide +kernel, by decide +kernel⟩, List.mem_of_getElem? (i := 11) (by decide +kernel), List.mem_of_getElem? (i := 412) (by decide +kernel), List.mem_of_getElem? (i := 413) (by decide +kernel)⟩
theorem lw_p11 : lw_okq (⟨"AsWasSaid", "actsBy", "(III)Z"⟩, 12) := ⟨⟨by decide +kernel, by decide +kernel⟩, List.mem_of_getElem? (i := 11) (by decide +kernel), List.mem_of_getElem? (i := 416) (by decide +kernel), List.mem_of_getElem? (i := 417) (by decide +kernel)⟩
theorem lw_p12 : lw_okq (⟨"AsWasSaid", "letAct", "(I)V"⟩, 12) := ⟨⟨by decide +kernel, by decide +kernel⟩, List.mem_of_getElem? (i := 11) (by decide +kernel), List.mem_of_getElem? (i := 435) (by decide +kernel), List.mem_of_getElem? (i := 436) (by decide +kernel)⟩
theorem lw_p13 : lw_okq (⟨"AsWasSaid", "behindAct", "(III)I"⟩, 12) := ⟨⟨by decide +kernel, by decide +kernel⟩, List.mem_of_getElem? (i := 11) (by decide +kernel), List.mem_of_getElem? (i := 439) (by decide +kernel), List.mem_of_getElem? (i := 440) (by decide +kernel)⟩
theorem lw_p14 : lw_okq (⟨"AsWasSaid", "behindRound", "(I)I"⟩, 12) := ⟨⟨by decide +kernel, by decide +kernel⟩, List.mem_of_getElem? (i := 11) (by decide +kernel), List.mem_of_getElem? (i := 456) (by decide +kernel), List.mem_of_getElem? (i := 457) (by decide +kernel)⟩
theorem lw_p15 : lw_okq (⟨"AsWasSaid", "worldsLeft", "()J"⟩, 12) := ⟨⟨by decide +kernel, by decide +kernel⟩, List.mem_of_getElem? (i := 11) (by decide +kernel), List.mem_of_getElem? (i := 464) (by decide +kernel), List.mem_of_getElem? (i := 465) (by decide +kernel)⟩
def lw_privs_1 : List (MethodName × Nat) := [(⟨"AsWasSaid$Saying", "workOutWords", "([I)V"⟩, 11), (⟨"AsWasSaid$Saying", "countPluses", "()I"⟩, 11), (⟨"AsWasSaid$Saying", "bracketings", "()I"⟩, 11), (⟨"AsWasSaid$Saying", "joiningsThatAreOr", "(I)I"⟩, 11), (⟨"AsWasSaid$Saying", "truthOf", "(III)J"⟩, 11), (⟨"AsWasSaid$Saying", "wordTruth", "(II)J"⟩, 11), (⟨"AsWasSaid$Saying", "truthOfThree", "(III)J"⟩, 11), (⟨"AsWasSaid$Saying", "truthOfFour", "(III)J"⟩, 11), (⟨"AsWasSaid$Saying", "weigh", "()V"⟩, 11), (⟨"AsWasSaid", "taken", "(I)I"⟩, 12), (⟨"AsWasSaid", "actsNow", "(I)Z"⟩, 12), (⟨"AsWasSaid", "actsBy", "(III)Z"⟩, 12), (⟨"AsWasSaid", "letAct", "(I)V"⟩, 12), (⟨"AsWasSaid", "behindAct", "(III)I"⟩, 12), (⟨"AsWasSaid", "behindRound", "(I)I"⟩, 12), (⟨"AsWasSaid", "worldsLeft", "()J"⟩, 12)]
theorem lw_r1 : ∀ q ∈ lw_privs_1, lw_okq q := List.forall_mem_cons.mpr ⟨lw_p0, List.forall_mem_cons.mpr ⟨lw_p1, List.forall_mem_cons.mpr ⟨lw_p2, List.forall_mem_cons.mpr ⟨lw_p3, List.forall_mem_cons.mpr ⟨lw_p4, List.forall_mem_cons.mpr ⟨lw_p5, List.forall_mem_cons.mpr ⟨lw_p6, List.forall_mem_cons.mpr ⟨lw_p7, List.forall_mem_cons.mpr ⟨lw_p8, List.forall_mem_cons.mpr ⟨lw_p9, List.forall_mem_cons.mpr ⟨lw_p10, List.forall_mem_cons.mpr ⟨lw_p11, List.forall_mem_cons.mpr ⟨lw_p12, List.forall_mem_cons.mpr ⟨lw_p13, List.forall_mem_cons.mpr ⟨lw_p14, List.forall_mem_cons.mpr ⟨lw_p15, fun _ h => absurd h List.not_mem_nil⟩⟩⟩⟩⟩⟩⟩⟩⟩⟩⟩⟩⟩⟩⟩⟩
theorem lw_p16 : lw_okq (⟨"AsWasSaid", "leftAtWorst", "(I)I"⟩, 12) := ⟨⟨by decide +kernel, by decide +kernel⟩, List.mem_of_getElem? (i := 11) (by decide +kernel), List.mem_of_getElem? (i := 480) (by decide +kernel), List.mem_of_getElem? (i := 481) (by decide +kernel)⟩
theorem lw_p17 : lw_okq (⟨"AsWasSaid", "readingsWith", "(I)I"⟩, 12) := ⟨⟨by decide +kernel, by decide +kernel⟩, List.mem_of_getElem? (i := 11) (by decide +kernel), List.mem_of_getElem? (i := 491) (by decide +kernel), List.mem_of_getElem? (i := 492) (by decide +kernel)⟩
theorem lw_p18 : lw_okq (⟨"AsWasSaid", "doesFit", "(II)Z"⟩, 12) := ⟨⟨by decide +kernel, by decide +kernel⟩, List.mem_of_getElem? (i := 11) (by decide +kernel), List.mem_of_getElem? (i := 513) (by decide +kernel), List.mem_of_getElem? (i := 514) (by decide +kernel)⟩
theorem lw_p19 : lw_okq (⟨"AsWasSaid", "mixedWithHearers", "(J)J"⟩, 12) := ⟨⟨by decide +kernel, by decide +kernel⟩, List.mem_of_getElem? (i := 11) (by decide +kernel), List.mem_of_getElem? (i := 568) (by decide +kernel), List.mem_of_getElem? (i := 569) (by decide +kernel)⟩
theorem lw_p20 : lw_okq (⟨"AsWasSaid", "mixedWithSaying", "(J)J"⟩, 12) := ⟨⟨by decide +kernel, by decide +kernel⟩, List.mem_of_getElem? (i := 11) (by decide +kernel), List.mem_of_getElem? (i := 573) (by decide +kernel), List.mem_of_getElem? (i := 574) (by decide +kernel)⟩
theorem lw_p21 : lw_okq (⟨"AsWasSaid", "mixedWithFits", "(J)J"⟩, 12) := ⟨⟨by decide +kernel, by decide +kernel⟩, List.mem_of_getElem? (i := 11) (by decide +kernel), List.mem_of_getElem? (i := 581) (by decide +kernel), List.mem_of_getElem? (i := 582) (by decide +kernel)⟩
theorem lw_p22 : lw_okq (⟨"AsWasSaidModel", "readSaying", "()V"⟩, 39) := ⟨⟨by decide +kernel, by decide +kernel⟩, List.mem_of_getElem? (i := 587) (by decide +kernel), List.mem_of_getElem? (i := 727) (by decide +kernel), List.mem_of_getElem? (i := 728) (by decide +kernel)⟩
theorem lw_p23 : lw_okq (⟨"AsWasSaidModel", "nextState", "(II)I"⟩, 39) := ⟨⟨by decide +kernel, by decide +kernel⟩, List.mem_of_getElem? (i := 587) (by decide +kernel), List.mem_of_getElem? (i := 731) (by decide +kernel), List.mem_of_getElem? (i := 732) (by decide +kernel)⟩
theorem lw_p24 : lw_okq (⟨"AsWasSaidModel", "readSenses", "()V"⟩, 39) := ⟨⟨by decide +kernel, by decide +kernel⟩, List.mem_of_getElem? (i := 587) (by decide +kernel), List.mem_of_getElem? (i := 735) (by decide +kernel), List.mem_of_getElem? (i := 736) (by decide +kernel)⟩
theorem lw_p25 : lw_okq (⟨"AsWasSaidModel", "lay", "(II)V"⟩, 39) := ⟨⟨by decide +kernel, by decide +kernel⟩, List.mem_of_getElem? (i := 587) (by decide +kernel), List.mem_of_getElem? (i := 743) (by decide +kernel), List.mem_of_getElem? (i := 744) (by decide +kernel)⟩
theorem lw_p26 : lw_okq (⟨"AsWasSaidModel", "bothMany", "(II)I"⟩, 39) := ⟨⟨by decide +kernel, by decide +kernel⟩, List.mem_of_getElem? (i := 587) (by decide +kernel), List.mem_of_getElem? (i := 747) (by decide +kernel), List.mem_of_getElem? (i := 748) (by decide +kernel)⟩
theorem lw_p27 : lw_okq (⟨"AsWasSaidModel", "joinAt", "(II)I"⟩, 39) := ⟨⟨by decide +kernel, by decide +kernel⟩, List.mem_of_getElem? (i := 587) (by decide +kernel), List.mem_of_getElem? (i := 751) (by decide +kernel), List.mem_of_getElem? (i := 752) (by decide +kernel)⟩
theorem lw_p28 : lw_okq (⟨"AsWasSaidModel", "wordAt", "(II)I"⟩, 39) := ⟨⟨by decide +kernel, by decide +kernel⟩, List.mem_of_getElem? (i := 587) (by decide +kernel), List.mem_of_getElem? (i := 758) (by decide +kernel), List.mem_of_getElem? (i := 759) (by decide +kernel)⟩
theorem lw_p29 : lw_okq (⟨"AsWasSaidModel", "bracketed", "(II)J"⟩, 39) := ⟨⟨by decide +kernel, by decide +kernel⟩, List.mem_of_getElem? (i := 587) (by decide +kernel), List.mem_of_getElem? (i := 766) (by decide +kernel), List.mem_of_getElem? (i := 767) (by decide +kernel)⟩
theorem lw_p30 : lw_okq (⟨"AsWasSaidModel", "ofFour", "(IJJJJ)J"⟩, 39) := ⟨⟨by decide +kernel, by decide +kernel⟩, List.mem_of_getElem? (i := 587) (by decide +kernel), List.mem_of_getElem? (i := 773) (by decide +kernel), List.mem_of_getElem? (i := 774) (by decide +kernel)⟩
theorem lw_p31 : lw_okq (⟨"AsWasSaidModel", "isReading", "(I)Z"⟩, 39) := ⟨⟨by decide +kernel, by decide +kernel⟩, List.mem_of_getElem? (i := 587) (by decide +kernel), List.mem_of_getElem? (i := 792) (by decide +kernel), List.mem_of_getElem? (i := 793) (by decide +kernel)⟩
def lw_privs_2 : List (MethodName × Nat) := [(⟨"AsWasSaid", "leftAtWorst", "(I)I"⟩, 12), (⟨"AsWasSaid", "readingsWith", "(I)I"⟩, 12), (⟨"AsWasSaid", "doesFit", "(II)Z"⟩, 12), (⟨"AsWasSaid", "mixedWithHearers", "(J)J"⟩, 12), (⟨"AsWasSaid", "mixedWithSaying", "(J)J"⟩, 12), (⟨"AsWasSaid", "mixedWithFits", "(J)J"⟩, 12), (⟨"AsWasSaidModel", "readSaying", "()V"⟩, 39), (⟨"AsWasSaidModel", "nextState", "(II)I"⟩, 39), (⟨"AsWasSaidModel", "readSenses", "()V"⟩, 39), (⟨"AsWasSaidModel", "lay", "(II)V"⟩, 39), (⟨"AsWasSaidModel", "bothMany", "(II)I"⟩, 39), (⟨"AsWasSaidModel", "joinAt", "(II)I"⟩, 39), (⟨"AsWasSaidModel", "wordAt", "(II)I"⟩, 39), (⟨"AsWasSaidModel", "bracketed", "(II)J"⟩, 39), (⟨"AsWasSaidModel", "ofFour", "(IJJJJ)J"⟩, 39), (⟨"AsWasSaidModel", "isReading", "(I)Z"⟩, 39)]
theorem lw_r2 : ∀ q ∈ lw_privs_2, lw_okq q := List.forall_mem_cons.mpr ⟨lw_p16, List.forall_mem_cons.mpr ⟨lw_p17, List.forall_mem_cons.mpr ⟨lw_p18, List.forall_mem_cons.mpr ⟨lw_p19, List.forall_mem_cons.mpr ⟨lw_p20, List.forall_mem_cons.mpr ⟨lw_p21, List.forall_mem_cons.mpr ⟨lw_p22, List.forall_mem_cons.mpr ⟨lw_p23, List.forall_mem_cons.mpr ⟨lw_p24, List.forall_mem_cons.mpr ⟨lw_p25, List.forall_mem_cons.mpr ⟨lw_p26, List.forall_mem_cons.mpr ⟨lw_p27, List.forall_mem_cons.mpr ⟨lw_p28, List.forall_mem_cons.mpr ⟨lw_p29, List.forall_mem_cons.mpr ⟨lw_p30, List.forall_mem_cons.mpr ⟨lw_p31, fun _ h => absurd h List.not_mem_nil⟩⟩⟩⟩⟩⟩⟩⟩⟩⟩⟩⟩⟩⟩⟩⟩
theorem lw_p32 : lw_okq (⟨"AsWasSaidModel", "comeNow", "(I)I"⟩, 39) := ⟨⟨by decide +kernel, by decide +kernel⟩, List.mem_of_getElem? (i := 587) (by decide +kernel), List.mem_of_getElem? (i := 813) (by decide +kernel), List.mem_of_getElem? (i := 814) (by decide +kernel)⟩
theorem lw_p33 : lw_okq (⟨"AsWasSaidModel", "isHearer", "(I)Z"⟩, 39) := ⟨⟨by decide +kernel, by decide +kernel⟩, List.mem_of_getElem? (i := 587) (by decide +kernel), List.mem_of_getElem? (i := 839) (by decide +kernel), List.mem_of_getElem? (i := 840) (by decide +kernel)⟩
theorem lw_p34 : lw_okq (⟨"AsWasSaidModel", "hearerNow", "(II)I"⟩, 39) := ⟨⟨by decide +kernel, by decide +kernel⟩, List.mem_of_getElem? (i := 587) (by decide +kernel), List.mem_of_getElem? (i := 843) (by decide +kernel), List.mem_of_getElem? (i := 844) (by decide +kernel)⟩
theorem lw_p35 : lw_okq (⟨"AsWasSaidModel", "takes", "(I)I"⟩, 39) := ⟨⟨by decide +kernel, by decide +kernel⟩, List.mem_of_getElem? (i := 587) (by decide +kernel), List.mem_of_getElem? (i := 847) (by decide +kernel), List.mem_of_getElem? (i := 848) (by decide +kernel)⟩
theorem lw_p36 : lw_okq (⟨"AsWasSaidModel", "actsBy", "(III)Z"⟩, 39) := ⟨⟨by decide +kernel, by decide +kernel⟩, List.mem_of_getElem? (i := 587) (by decide +kernel), List.mem_of_getElem? (i := 851) (by decide +kernel), List.mem_of_getElem? (i := 852) (by decide +kernel)⟩
theorem lw_p37 : lw_okq (⟨"AsWasSaidModel", "doAct", "(I)V"⟩, 39) := ⟨⟨by decide +kernel, by decide +kernel⟩, List.mem_of_getElem? (i := 587) (by decide +kernel), List.mem_of_getElem? (i := 863) (by decide +kernel), List.mem_of_getElem? (i := 864) (by decide +kernel)⟩
theorem lw_p38 : lw_okq (⟨"AsWasSaidModel", "behind", "(III)I"⟩, 39) := ⟨⟨by decide +kernel, by decide +kernel⟩, List.mem_of_getElem? (i := 587) (by decide +kernel), List.mem_of_getElem? (i := 867) (by decide +kernel), List.mem_of_getElem? (i := 868) (by decide +kernel)⟩
theorem lw_p39 : lw_okq (⟨"AsWasSaidModel", "anyhowNow", "()I"⟩, 39) := ⟨⟨by decide +kernel, by decide +kernel⟩, List.mem_of_getElem? (i := 587) (by decide +kernel), List.mem_of_getElem? (i := 879) (by decide +kernel), List.mem_of_getElem? (i := 880) (by decide +kernel)⟩
theorem lw_p40 : lw_okq (⟨"AsWasSaidModel", "layTakes", "()V"⟩, 39) := ⟨⟨by decide +kernel, by decide +kernel⟩, List.mem_of_getElem? (i := 587) (by decide +kernel), List.mem_of_getElem? (i := 883) (by decide +kernel), List.mem_of_getElem? (i := 884) (by decide +kernel)⟩
theorem lw_p41 : lw_okq (⟨"AsWasSaidModel", "some", "()J"⟩, 39) := ⟨⟨by decide +kernel, by decide +kernel⟩, List.mem_of_getElem? (i := 587) (by decide +kernel), List.mem_of_getElem? (i := 887) (by decide +kernel), List.mem_of_getElem? (i := 888) (by decide +kernel)⟩
theorem lw_p42 : lw_okq (⟨"AsWasSaidModel", "roundFrom", "(I)I"⟩, 39) := ⟨⟨by decide +kernel, by decide +kernel⟩, List.mem_of_getElem? (i := 587) (by decide +kernel), List.mem_of_getElem? (i := 891) (by decide +kernel), List.mem_of_getElem? (i := 892) (by decide +kernel)⟩
theorem lw_p43 : lw_okq (⟨"AsWasSaidModel", "leftNow", "(I)I"⟩, 39) := ⟨⟨by decide +kernel, by decide +kernel⟩, List.mem_of_getElem? (i := 587) (by decide +kernel), List.mem_of_getElem? (i := 899) (by decide +kernel), List.mem_of_getElem? (i := 900) (by decide +kernel)⟩
theorem lw_p44 : lw_okq (⟨"AsWasSaidModel", "askNow", "()I"⟩, 39) := ⟨⟨by decide +kernel, by decide +kernel⟩, List.mem_of_getElem? (i := 587) (by decide +kernel), List.mem_of_getElem? (i := 907) (by decide +kernel), List.mem_of_getElem? (i := 908) (by decide +kernel)⟩
theorem lw_p45 : lw_okq (⟨"AsWasSaidModel", "addNow", "(I)I"⟩, 39) := ⟨⟨by decide +kernel, by decide +kernel⟩, List.mem_of_getElem? (i := 587) (by decide +kernel), List.mem_of_getElem? (i := 915) (by decide +kernel), List.mem_of_getElem? (i := 916) (by decide +kernel)⟩
theorem lw_p46 : lw_okq (⟨"AsWasSaidModel", "fitsNow", "(II)I"⟩, 39) := ⟨⟨by decide +kernel, by decide +kernel⟩, List.mem_of_getElem? (i := 587) (by decide +kernel), List.mem_of_getElem? (i := 931) (by decide +kernel), List.mem_of_getElem? (i := 932) (by decide +kernel)⟩
theorem lw_p47 : lw_okq (⟨"AsWasSaidModel", "timesNow", "(III)I"⟩, 39) := ⟨⟨by decide +kernel, by decide +kernel⟩, List.mem_of_getElem? (i := 587) (by decide +kernel), List.mem_of_getElem? (i := 939) (by decide +kernel), List.mem_of_getElem? (i := 940) (by decide +kernel)⟩
def lw_privs_3 : List (MethodName × Nat) := [(⟨"AsWasSaidModel", "comeNow", "(I)I"⟩, 39), (⟨"AsWasSaidModel", "isHearer", "(I)Z"⟩, 39), (⟨"AsWasSaidModel", "hearerNow", "(II)I"⟩, 39), (⟨"AsWasSaidModel", "takes", "(I)I"⟩, 39), (⟨"AsWasSaidModel", "actsBy", "(III)Z"⟩, 39), (⟨"AsWasSaidModel", "doAct", "(I)V"⟩, 39), (⟨"AsWasSaidModel", "behind", "(III)I"⟩, 39), (⟨"AsWasSaidModel", "anyhowNow", "()I"⟩, 39), (⟨"AsWasSaidModel", "layTakes", "()V"⟩, 39), (⟨"AsWasSaidModel", "some", "()J"⟩, 39), (⟨"AsWasSaidModel", "roundFrom", "(I)I"⟩, 39), (⟨"AsWasSaidModel", "leftNow", "(I)I"⟩, 39), (⟨"AsWasSaidModel", "askNow", "()I"⟩, 39), (⟨"AsWasSaidModel", "addNow", "(I)I"⟩, 39), (⟨"AsWasSaidModel", "fitsNow", "(II)I"⟩, 39), (⟨"AsWasSaidModel", "timesNow", "(III)I"⟩, 39)]
theorem lw_r3 : ∀ q ∈ lw_privs_3, lw_okq q := List.forall_mem_cons.mpr ⟨lw_p32, List.forall_mem_cons.mpr ⟨lw_p33, List.forall_mem_cons.mpr ⟨lw_p34, List.forall_mem_cons.mpr ⟨lw_p35, List.forall_mem_cons.mpr ⟨lw_p36, List.forall_mem_cons.mpr ⟨lw_p37, List.forall_mem_cons.mpr ⟨lw_p38, List.forall_mem_cons.mpr ⟨lw_p39, List.forall_mem_cons.mpr ⟨lw_p40, List.forall_mem_cons.mpr ⟨lw_p41, List.forall_mem_cons.mpr ⟨lw_p42, List.forall_mem_cons.mpr ⟨lw_p43, List.forall_mem_cons.mpr ⟨lw_p44, List.forall_mem_cons.mpr ⟨lw_p45, List.forall_mem_cons.mpr ⟨lw_p46, List.forall_mem_cons.mpr ⟨lw_p47, fun _ h => absurd h List.not_mem_nil⟩⟩⟩⟩⟩⟩⟩⟩⟩⟩⟩⟩⟩⟩⟩⟩
theorem lw_p48 : lw_okq (⟨"AsWasSaidModel", "draw", "(I)I"⟩, 39) := ⟨⟨by decide +kernel, by decide +kernel⟩, List.mem_of_getElem? (i := 587) (by decide +kernel), List.mem_of_getElem? (i := 943) (by decide +kernel), List.mem_of_getElem? (i := 944) (by decide +kernel)⟩
theorem lw_p49 : lw_okq (⟨"AsWasSaidModel", "howMany", "(I)I"⟩, 39) := ⟨⟨by decide +kernel, by decide +kernel⟩, List.mem_of_getElem? (i := 587) (by decide +kernel), List.mem_of_getElem? (i := 963) (by decide +kernel), List.mem_of_getElem? (i := 964) (by decide +kernel)⟩
theorem lw_p50 : lw_okq (⟨"AsWasSaidModel", "readingsOf", "(II)I"⟩, 39) := ⟨⟨by decide +kernel, by decide +kernel⟩, List.mem_of_getElem? (i := 587) (by decide +kernel), List.mem_of_getElem? (i := 967) (by decide +kernel), List.mem_of_getElem? (i := 968) (by decide +kernel)⟩
theorem lw_p51 : lw_okq (⟨"AsWasSaidModel", "mix", "(J)V"⟩, 39) := ⟨⟨by decide +kernel, by decide +kernel⟩, List.mem_of_getElem? (i := 587) (by decide +kernel), List.mem_of_getElem? (i := 976) (by decide +kernel), List.mem_of_getElem? (i := 977) (by decide +kernel)⟩
def lw_privs_4 : List (MethodName × Nat) := [(⟨"AsWasSaidModel", "draw", "(I)I"⟩, 39), (⟨"AsWasSaidModel", "howMany", "(I)I"⟩, 39), (⟨"AsWasSaidModel", "readingsOf", "(II)I"⟩, 39), (⟨"AsWasSaidModel", "mix", "(J)V"⟩, 39)]
theorem lw_r4 : ∀ q ∈ lw_privs_4, lw_okq q := List.forall_mem_cons.mpr ⟨lw_p48, List.forall_mem_cons.mpr ⟨lw_p49, List.forall_mem_cons.mpr ⟨lw_p50, List.forall_mem_cons.mpr ⟨lw_p51, fun _ h => absurd h List.not_mem_nil⟩⟩⟩⟩
def lw_privs : List (MethodName × Nat) := lw_privs_1 ++ (lw_privs_2 ++ (lw_privs_3 ++ (lw_privs_4)))
def lw_tbl : List Cond := k2_sels lw_privs ++ tables_1
theorem lw_privs_ok : ∀ q ∈ lw_privs, lw_okq q := by
  show ∀ q ∈ lw_privs_1 ++ (lw_privs_2 ++ (lw_privs_3 ++ (lw_privs_4))), lw_okq q
  exact List.forall_mem_append.mpr ⟨lw_r1, List.forall_mem_append.mpr ⟨lw_r2, List.forall_mem_append.mpr ⟨lw_r3, lw_r4⟩⟩⟩
-- NAMES (printed by program: claim/NAMES.whole.lean.txt, its names and decode rows)
def RX0 : String := "AsWasSaid$Hearers"
def TX0 : u_T := fun k => match k with
  | 0 => ("AsWasSaid$Hearers", "kinds", "[I", true)
  | 1 => ("AsWasSaid$Hearers", "facts", "[I", true)
  | 2 => ("AsWasSaid$Hearers", "values", "[I", true)
  | 3 => ("AsWasSaid$Hearers", "changes", "[I", true)
  | _ => ("AsWasSaid$Hearers", "number", "I", false)
def tyX0 : Nat → FieldType := fun k => match k with
  | 0 => .array .int
  | 1 => .array .int
  | 2 => .array .int
  | 3 => .array .int
  | _ => .int
abbrev wsX00 : List Cond := u_ws RX0 TX0 5
theorem nmX0 : ∀ a, a < 5 → ∀ b, b < 5 → a ≠ b → (TX0 a).2.1 ≠ (TX0 b).2.1 := by decide +kernel
theorem tyX0_ok : ∀ k, k < 5 → parseFieldDescriptor (TX0 k).2.2.1 = some (tyX0 k) := by decide +kernel
abbrev cX0_init : ByteArray := prog_2_method_1_code
def yX0_init : MethodName := ⟨RX0, "<init>", "()V"⟩
abbrev cX0_has : ByteArray := prog_2_method_2_code
def yX0_has : MethodName := ⟨RX0, "has", "(I)Z"⟩
abbrev cX0_join : ByteArray := prog_2_method_3_code
def yX0_join : MethodName := ⟨RX0, "join", "(III)Z"⟩
abbrev cX0_kindOf : ByteArray := prog_2_method_4_code
def yX0_kindOf : MethodName := ⟨RX0, "kindOf", "(I)I"⟩
abbrev cX0_factOf : ByteArray := prog_2_method_5_code
def yX0_factOf : MethodName := ⟨RX0, "factOf", "(I)I"⟩
abbrev cX0_valueOf : ByteArray := prog_2_method_6_code
def yX0_valueOf : MethodName := ⟨RX0, "valueOf", "(I)I"⟩
abbrev cX0_changesOf : ByteArray := prog_2_method_7_code
def yX0_changesOf : MethodName := ⟨RX0, "changesOf", "(I)I"⟩
abbrev cX0_countChange : ByteArray := prog_2_method_8_code
def yX0_countChange : MethodName := ⟨RX0, "countChange", "(I)V"⟩
abbrev cX0_become : ByteArray := prog_2_method_9_code
def yX0_become : MethodName := ⟨RX0, "become", "(LAsWasSaid$Hearers;)V"⟩
def RX1 : String := "AsWasSaid$Image"
def TX1 : u_T := fun k => match k with
  | 0 => ("AsWasSaid$Image", "hearers", "LAsWasSaid$Hearers;", true)
  | 1 => ("AsWasSaid$Image", "told", "LAsWasSaid$Told;", true)
  | 2 => ("AsWasSaid$Image", "isKept", "Z", false)
  | 3 => ("AsWasSaid$Image", "world", "I", false)
  | _ => ("AsWasSaid$Image", "rounds", "I", false)
def tyX1 : Nat → FieldType := fun k => match k with
  | 0 => .object "AsWasSaid$Hearers"
  | 1 => .object "AsWasSaid$Told"
  | 2 => .boolean
  | 3 => .int
  | _ => .int
abbrev wsX10 : List Cond := u_ws RX1 TX1 5
theorem nmX1 : ∀ a, a < 5 → ∀ b, b < 5 → a ≠ b → (TX1 a).2.1 ≠ (TX1 b).2.1 := by decide +kernel
theorem tyX1_ok : ∀ k, k < 5 → parseFieldDescriptor (TX1 k).2.2.1 = some (tyX1 k) := by decide +kernel
abbrev cX1_init : ByteArray := prog_3_method_1_code
def yX1_init : MethodName := ⟨RX1, "<init>", "()V"⟩
def RX2 : String := "AsWasSaid$Page"
def TX2 : u_T := fun k => match k with
  | 0 => ("AsWasSaid$Page", "codes", "[I", true)
  | _ => ("AsWasSaid$Page", "length", "I", false)
def tyX2 : Nat → FieldType := fun k => match k with
  | 0 => .array .int
  | _ => .int
abbrev wsX20 : List Cond := u_ws RX2 TX2 2
theorem nmX2 : ∀ a, a < 2 → ∀ b, b < 2 → a ≠ b → (TX2 a).2.1 ≠ (TX2 b).2.1 := by decide +kernel
theorem tyX2_ok : ∀ k, k < 2 → parseFieldDescriptor (TX2 k).2.2.1 = some (tyX2 k) := by decide +kernel
abbrev cX2_init : ByteArray := prog_4_method_1_code
def yX2_init : MethodName := ⟨RX2, "<init>", "()V"⟩
abbrev cX2_write : ByteArray := prog_4_method_2_code
def yX2_write : MethodName := ⟨RX2, "write", "(I)Z"⟩
abbrev cX2_clear : ByteArray := prog_4_method_3_code
def yX2_clear : MethodName := ⟨RX2, "clear", "()I"⟩
abbrev cX2_codeAt : ByteArray := prog_4_method_4_code
def yX2_codeAt : MethodName := ⟨RX2, "codeAt", "(I)I"⟩
abbrev cX2_faultAsSaying : ByteArray := prog_4_method_5_code
def yX2_faultAsSaying : MethodName := ⟨RX2, "faultAsSaying", "()I"⟩
abbrev cX2_faultAsSenses : ByteArray := prog_4_method_6_code
def yX2_faultAsSenses : MethodName := ⟨RX2, "faultAsSenses", "()I"⟩
abbrev cX2_isSaying : ByteArray := prog_4_method_7_code
def yX2_isSaying : MethodName := ⟨RX2, "isSaying", "()Z"⟩
abbrev cX2_isSenses : ByteArray := prog_4_method_8_code
def yX2_isSenses : MethodName := ⟨RX2, "isSenses", "()Z"⟩
abbrev cX2_isWordLetter : ByteArray := prog_4_method_9_code
def yX2_isWordLetter : MethodName := ⟨RX2, "isWordLetter", "(I)Z"⟩
abbrev cX2_isJoining : ByteArray := prog_4_method_10_code
def yX2_isJoining : MethodName := ⟨RX2, "isJoining", "(I)Z"⟩
def RX3 : String := "AsWasSaid$Saying"
def TX3 : u_T := fun k => match k with
  | 0 => ("AsWasSaid$Saying", "letters", "[I", true)
  | 1 => ("AsWasSaid$Saying", "negations", "[Z", true)
  | 2 => ("AsWasSaid$Saying", "pluses", "[Z", true)
  | 3 => ("AsWasSaid$Saying", "firstTruths", "[J", true)
  | 4 => ("AsWasSaid$Saying", "secondTruths", "[J", true)
  | 5 => ("AsWasSaid$Saying", "truths", "[J", true)
  | 6 => ("AsWasSaid$Saying", "words", "I", false)
  | 7 => ("AsWasSaid$Saying", "readings", "I", false)
  | 8 => ("AsWasSaid$Saying", "widest", "I", false)
  | 9 => ("AsWasSaid$Saying", "narrowest", "I", false)
  | _ => ("AsWasSaid$Saying", "some", "J", false)
def tyX3 : Nat → FieldType := fun k => match k with
  | 0 => .array .int
  | 1 => .array .boolean
  | 2 => .array .boolean
  | 3 => .array .long
  | 4 => .array .long
  | 5 => .array .long
  | 6 => .int
  | 7 => .int
  | 8 => .int
  | 9 => .int
  | _ => .long
abbrev wsX30 : List Cond := u_ws RX3 TX3 11
theorem nmX3 : ∀ a, a < 11 → ∀ b, b < 11 → a ≠ b → (TX3 a).2.1 ≠ (TX3 b).2.1 := by decide +kernel
theorem tyX3_ok : ∀ k, k < 11 → parseFieldDescriptor (TX3 k).2.2.1 = some (tyX3 k) := by decide +kernel
abbrev cX3_init : ByteArray := prog_5_method_1_code
def yX3_init : MethodName := ⟨RX3, "<init>", "()V"⟩
abbrev cX3_isNone : ByteArray := prog_5_method_2_code
def yX3_isNone : MethodName := ⟨RX3, "isNone", "()Z"⟩
abbrev cX3_hasReading : ByteArray := prog_5_method_3_code
def yX3_hasReading : MethodName := ⟨RX3, "hasReading", "(I)Z"⟩
abbrev cX3_truth : ByteArray := prog_5_method_4_code
def yX3_truth : MethodName := ⟨RX3, "truth", "(I)J"⟩
abbrev cX3_read : ByteArray := prog_5_method_5_code
def yX3_read : MethodName := ⟨RX3, "read", "(LAsWasSaid$Page;)V"⟩
abbrev cX3_append : ByteArray := prog_5_method_6_code
def yX3_append : MethodName := ⟨RX3, "append", "(ZZI)V"⟩
abbrev cX3_become : ByteArray := prog_5_method_7_code
def yX3_become : MethodName := ⟨RX3, "become", "(LAsWasSaid$Saying;)V"⟩
abbrev cX3_workOut : ByteArray := prog_5_method_8_code
def yX3_workOut : MethodName := ⟨RX3, "workOut", "([I)V"⟩
abbrev cX3_workOutReadings : ByteArray := prog_5_method_9_code
def yX3_workOutReadings : MethodName := ⟨RX3, "workOutReadings", "([I)V"⟩
abbrev cX3_workOutWords : ByteArray := prog_5_method_10_code
def yX3_workOutWords : MethodName := ⟨RX3, "workOutWords", "([I)V"⟩
abbrev cX3_countPluses : ByteArray := prog_5_method_11_code
def yX3_countPluses : MethodName := ⟨RX3, "countPluses", "()I"⟩
abbrev cX3_bracketings : ByteArray := prog_5_method_12_code
def yX3_bracketings : MethodName := ⟨RX3, "bracketings", "()I"⟩
abbrev cX3_joiningsThatAreOr : ByteArray := prog_5_method_13_code
def yX3_joiningsThatAreOr : MethodName := ⟨RX3, "joiningsThatAreOr", "(I)I"⟩
abbrev cX3_truthOf : ByteArray := prog_5_method_14_code
def yX3_truthOf : MethodName := ⟨RX3, "truthOf", "(III)J"⟩
abbrev cX3_truthOfThree : ByteArray := prog_5_method_15_code
def yX3_truthOfThree : MethodName := ⟨RX3, "truthOfThree", "(III)J"⟩
abbrev cX3_truthOfFour : ByteArray := prog_5_method_16_code
def yX3_truthOfFour : MethodName := ⟨RX3, "truthOfFour", "(III)J"⟩
abbrev cX3_wordTruth : ByteArray := prog_5_method_17_code
def yX3_wordTruth : MethodName := ⟨RX3, "wordTruth", "(II)J"⟩
abbrev cX3_joined : ByteArray := prog_5_method_18_code
def yX3_joined : MethodName := ⟨RX3, "joined", "(IIJJ)J"⟩
abbrev cX3_weigh : ByteArray := prog_5_method_19_code
def yX3_weigh : MethodName := ⟨RX3, "weigh", "()V"⟩
abbrev cX3_readingsSoIn : ByteArray := prog_5_method_20_code
def yX3_readingsSoIn : MethodName := ⟨RX3, "readingsSoIn", "(I)I"⟩
abbrev cX3_firstReadingSoIn : ByteArray := prog_5_method_21_code
def yX3_firstReadingSoIn : MethodName := ⟨RX3, "firstReadingSoIn", "(I)I"⟩
def RX4 : String := "AsWasSaid$Told"
def TX4 : u_T := fun k => match k with
  | 0 => ("AsWasSaid$Told", "worlds", "[I", true)
  | _ => ("AsWasSaid$Told", "number", "I", false)
def tyX4 : Nat → FieldType := fun k => match k with
  | 0 => .array .int
  | _ => .int
abbrev wsX40 : List Cond := u_ws RX4 TX4 2
theorem nmX4 : ∀ a, a < 2 → ∀ b, b < 2 → a ≠ b → (TX4 a).2.1 ≠ (TX4 b).2.1 := by decide +kernel
theorem tyX4_ok : ∀ k, k < 2 → parseFieldDescriptor (TX4 k).2.2.1 = some (tyX4 k) := by decide +kernel
abbrev cX4_init : ByteArray := prog_6_method_1_code
def yX4_init : MethodName := ⟨RX4, "<init>", "()V"⟩
abbrev cX4_append : ByteArray := prog_6_method_2_code
def yX4_append : MethodName := ⟨RX4, "append", "(I)Z"⟩
abbrev cX4_worldAt : ByteArray := prog_6_method_3_code
def yX4_worldAt : MethodName := ⟨RX4, "worldAt", "(I)I"⟩
abbrev cX4_become : ByteArray := prog_6_method_4_code
def yX4_become : MethodName := ⟨RX4, "become", "(LAsWasSaid$Told;)V"⟩
def RX5 : String := "AsWasSaid"
def TX5 : u_T := fun k => match k with
  | 0 => ("AsWasSaid", "page", "LAsWasSaid$Page;", true)
  | 1 => ("AsWasSaid", "secondSenses", "[I", true)
  | 2 => ("AsWasSaid", "saying", "LAsWasSaid$Saying;", true)
  | 3 => ("AsWasSaid", "other", "LAsWasSaid$Saying;", true)
  | 4 => ("AsWasSaid", "longer", "LAsWasSaid$Saying;", true)
  | 5 => ("AsWasSaid", "hearers", "LAsWasSaid$Hearers;", true)
  | 6 => ("AsWasSaid", "told", "LAsWasSaid$Told;", true)
  | 7 => ("AsWasSaid", "kept", "LAsWasSaid$Image;", true)
  | 8 => ("AsWasSaid", "world", "I", false)
  | 9 => ("AsWasSaid", "rounds", "I", false)
  | 10 => ("AsWasSaid", "timesSaid", "I", false)
  | _ => ("AsWasSaid", "timesAdded", "I", false)
def tyX5 : Nat → FieldType := fun k => match k with
  | 0 => .object "AsWasSaid$Page"
  | 1 => .array .int
  | 2 => .object "AsWasSaid$Saying"
  | 3 => .object "AsWasSaid$Saying"
  | 4 => .object "AsWasSaid$Saying"
  | 5 => .object "AsWasSaid$Hearers"
  | 6 => .object "AsWasSaid$Told"
  | 7 => .object "AsWasSaid$Image"
  | 8 => .int
  | 9 => .int
  | 10 => .int
  | _ => .int
abbrev wsX50 : List Cond := u_ws RX5 TX5 12
theorem nmX5 : ∀ a, a < 12 → ∀ b, b < 12 → a ≠ b → (TX5 a).2.1 ≠ (TX5 b).2.1 := by decide +kernel
theorem tyX5_ok : ∀ k, k < 12 → parseFieldDescriptor (TX5 k).2.2.1 = some (tyX5 k) := by decide +kernel
abbrev cX5_init : ByteArray := prog_1_method_1_code
def yX5_init : MethodName := ⟨RX5, "<init>", "()V"⟩
abbrev cX5_letter : ByteArray := prog_1_method_2_code
def yX5_letter : MethodName := ⟨RX5, "letter", "(I)I"⟩
abbrev cX5_blank : ByteArray := prog_1_method_3_code
def yX5_blank : MethodName := ⟨RX5, "blank", "()I"⟩
abbrev cX5_fault : ByteArray := prog_1_method_4_code
def yX5_fault : MethodName := ⟨RX5, "fault", "(I)I"⟩
abbrev cX5_say : ByteArray := prog_1_method_5_code
def yX5_say : MethodName := ⟨RX5, "say", "()I"⟩
abbrev cX5_senses : ByteArray := prog_1_method_6_code
def yX5_senses : MethodName := ⟨RX5, "senses", "()I"⟩
abbrev cX5_sense : ByteArray := prog_1_method_7_code
def yX5_sense : MethodName := ⟨RX5, "sense", "(I)I"⟩
abbrev cX5_reading : ByteArray := prog_1_method_8_code
def yX5_reading : MethodName := ⟨RX5, "reading", "(I)I"⟩
abbrev cX5_isSo : ByteArray := prog_1_method_9_code
def yX5_isSo : MethodName := ⟨RX5, "isSo", "(II)I"⟩
abbrev cX5_come : ByteArray := prog_1_method_10_code
def yX5_come : MethodName := ⟨RX5, "come", "(I)I"⟩
abbrev cX5_fact : ByteArray := prog_1_method_11_code
def yX5_fact : MethodName := ⟨RX5, "fact", "(I)I"⟩
abbrev cX5_set : ByteArray := prog_1_method_12_code
def yX5_set : MethodName := ⟨RX5, "set", "(II)I"⟩
abbrev cX5_hearer : ByteArray := prog_1_method_13_code
def yX5_hearer : MethodName := ⟨RX5, "hearer", "(III)I"⟩
abbrev cX5_about : ByteArray := prog_1_method_14_code
def yX5_about : MethodName := ⟨RX5, "about", "(II)I"⟩
abbrev cX5_as : ByteArray := prog_1_method_15_code
def yX5_as : MethodName := ⟨RX5, "as", "(II)I"⟩
abbrev cX5_act : ByteArray := prog_1_method_16_code
def yX5_act : MethodName := ⟨RX5, "act", "(I)I"⟩
abbrev cX5_round : ByteArray := prog_1_method_17_code
def yX5_round : MethodName := ⟨RX5, "round", "()I"⟩
abbrev cX5_anyhow : ByteArray := prog_1_method_18_code
def yX5_anyhow : MethodName := ⟨RX5, "anyhow", "()I"⟩
abbrev cX5_left : ByteArray := prog_1_method_19_code
def yX5_left : MethodName := ⟨RX5, "left", "(I)I"⟩
abbrev cX5_ask : ByteArray := prog_1_method_20_code
def yX5_ask : MethodName := ⟨RX5, "ask", "()I"⟩
abbrev cX5_add : ByteArray := prog_1_method_21_code
def yX5_add : MethodName := ⟨RX5, "add", "(I)I"⟩
abbrev cX5_tell : ByteArray := prog_1_method_22_code
def yX5_tell : MethodName := ⟨RX5, "tell", "(I)I"⟩
abbrev cX5_then : ByteArray := prog_1_method_23_code
def yX5_then : MethodName := ⟨RX5, "then", "(I)I"⟩
abbrev cX5_fits : ByteArray := prog_1_method_24_code
def yX5_fits : MethodName := ⟨RX5, "fits", "(II)I"⟩
abbrev cX5_times : ByteArray := prog_1_method_25_code
def yX5_times : MethodName := ⟨RX5, "times", "(III)I"⟩
abbrev cX5_image : ByteArray := prog_1_method_26_code
def yX5_image : MethodName := ⟨RX5, "image", "()I"⟩
abbrev cX5_restore : ByteArray := prog_1_method_27_code
def yX5_restore : MethodName := ⟨RX5, "restore", "()I"⟩
abbrev cX5_count : ByteArray := prog_1_method_28_code
def yX5_count : MethodName := ⟨RX5, "count", "(I)I"⟩
abbrev cX5_digest : ByteArray := prog_1_method_29_code
def yX5_digest : MethodName := ⟨RX5, "digest", "()J"⟩
abbrev cX5_mixed : ByteArray := prog_1_method_30_code
def yX5_mixed : MethodName := ⟨RX5, "mixed", "(JJ)J"⟩
abbrev cX5_mixedWithHearers : ByteArray := prog_1_method_31_code
def yX5_mixedWithHearers : MethodName := ⟨RX5, "mixedWithHearers", "(J)J"⟩
abbrev cX5_mixedWithSaying : ByteArray := prog_1_method_32_code
def yX5_mixedWithSaying : MethodName := ⟨RX5, "mixedWithSaying", "(J)J"⟩
abbrev cX5_mixedWithFits : ByteArray := prog_1_method_33_code
def yX5_mixedWithFits : MethodName := ⟨RX5, "mixedWithFits", "(J)J"⟩
abbrev cX5_isFact : ByteArray := prog_1_method_34_code
def yX5_isFact : MethodName := ⟨RX5, "isFact", "(I)Z"⟩
abbrev cX5_isValue : ByteArray := prog_1_method_35_code
def yX5_isValue : MethodName := ⟨RX5, "isValue", "(I)Z"⟩
abbrev cX5_isWorld : ByteArray := prog_1_method_36_code
def yX5_isWorld : MethodName := ⟨RX5, "isWorld", "(I)Z"⟩
abbrev cX5_isKind : ByteArray := prog_1_method_37_code
def yX5_isKind : MethodName := ⟨RX5, "isKind", "(I)Z"⟩
abbrev cX5_isOfKind : ByteArray := prog_1_method_38_code
def yX5_isOfKind : MethodName := ⟨RX5, "isOfKind", "(II)Z"⟩
abbrev cX5_bitOf : ByteArray := prog_1_method_39_code
def yX5_bitOf : MethodName := ⟨RX5, "bitOf", "(JI)I"⟩
abbrev cX5_withFact : ByteArray := prog_1_method_40_code
def yX5_withFact : MethodName := ⟨RX5, "withFact", "(III)I"⟩
abbrev cX5_worldsOfFact : ByteArray := prog_1_method_41_code
def yX5_worldsOfFact : MethodName := ⟨RX5, "worldsOfFact", "(I)J"⟩
abbrev cX5_taken : ByteArray := prog_1_method_42_code
def yX5_taken : MethodName := ⟨RX5, "taken", "(I)I"⟩
abbrev cX5_actsNow : ByteArray := prog_1_method_43_code
def yX5_actsNow : MethodName := ⟨RX5, "actsNow", "(I)Z"⟩
abbrev cX5_actsBy : ByteArray := prog_1_method_44_code
def yX5_actsBy : MethodName := ⟨RX5, "actsBy", "(III)Z"⟩
abbrev cX5_behindAct : ByteArray := prog_1_method_45_code
def yX5_behindAct : MethodName := ⟨RX5, "behindAct", "(III)I"⟩
abbrev cX5_behindRound : ByteArray := prog_1_method_46_code
def yX5_behindRound : MethodName := ⟨RX5, "behindRound", "(I)I"⟩
abbrev cX5_letAct : ByteArray := prog_1_method_47_code
def yX5_letAct : MethodName := ⟨RX5, "letAct", "(I)V"⟩
abbrev cX5_worldsLeft : ByteArray := prog_1_method_48_code
def yX5_worldsLeft : MethodName := ⟨RX5, "worldsLeft", "()J"⟩
abbrev cX5_factsSoInAll : ByteArray := prog_1_method_49_code
def yX5_factsSoInAll : MethodName := ⟨RX5, "factsSoInAll", "(J)I"⟩
abbrev cX5_factsSoInNone : ByteArray := prog_1_method_50_code
def yX5_factsSoInNone : MethodName := ⟨RX5, "factsSoInNone", "(J)I"⟩
abbrev cX5_leftAtWorst : ByteArray := prog_1_method_51_code
def yX5_leftAtWorst : MethodName := ⟨RX5, "leftAtWorst", "(I)I"⟩
abbrev cX5_readingsWith : ByteArray := prog_1_method_52_code
def yX5_readingsWith : MethodName := ⟨RX5, "readingsWith", "(I)I"⟩
abbrev cX5_doesFit : ByteArray := prog_1_method_53_code
def yX5_doesFit : MethodName := ⟨RX5, "doesFit", "(II)Z"⟩
abbrev cX5_nextSeed : ByteArray := prog_1_method_54_code
def yX5_nextSeed : MethodName := ⟨RX5, "nextSeed", "(I)I"⟩
abbrev cX5_drawOf : ByteArray := prog_1_method_55_code
def yX5_drawOf : MethodName := ⟨RX5, "drawOf", "(II)I"⟩
def RX6 : String := "AsWasSaidModel"
def TX6 : u_T := fun k => match k with
  | 0 => ("AsWasSaidModel", "world", "I", false)
  | 1 => ("AsWasSaidModel", "sayings", "I", false)
  | 2 => ("AsWasSaidModel", "senseOf", "[I", true)
  | 3 => ("AsWasSaidModel", "words", "I", false)
  | 4 => ("AsWasSaidModel", "wordOf", "[I", true)
  | 5 => ("AsWasSaidModel", "joinOf", "[I", true)
  | 6 => ("AsWasSaidModel", "otherWords", "I", false)
  | 7 => ("AsWasSaidModel", "otherWord", "[I", true)
  | 8 => ("AsWasSaidModel", "otherJoin", "[I", true)
  | 9 => ("AsWasSaidModel", "hearers", "I", false)
  | 10 => ("AsWasSaidModel", "kindOf", "[I", true)
  | 11 => ("AsWasSaidModel", "factOf", "[I", true)
  | 12 => ("AsWasSaidModel", "valueOf", "[I", true)
  | 13 => ("AsWasSaidModel", "changesOf", "[I", true)
  | 14 => ("AsWasSaidModel", "rounds", "I", false)
  | 15 => ("AsWasSaidModel", "told", "I", false)
  | 16 => ("AsWasSaidModel", "toldOf", "[I", true)
  | 17 => ("AsWasSaidModel", "asks", "I", false)
  | 18 => ("AsWasSaidModel", "pageLength", "I", false)
  | 19 => ("AsWasSaidModel", "page", "[B", true)
  | 20 => ("AsWasSaidModel", "faultAt", "I", false)
  | 21 => ("AsWasSaidModel", "isWhole", "Z", false)
  | 22 => ("AsWasSaidModel", "newWords", "I", false)
  | 23 => ("AsWasSaidModel", "newWord", "[I", true)
  | 24 => ("AsWasSaidModel", "newJoin", "[I", true)
  | 25 => ("AsWasSaidModel", "readings", "I", false)
  | 26 => ("AsWasSaidModel", "soOf", "[J", true)
  | 27 => ("AsWasSaidModel", "value", "[J", true)
  | 28 => ("AsWasSaidModel", "joining", "[I", true)
  | 29 => ("AsWasSaidModel", "takesOf", "[I", true)
  | 30 => ("AsWasSaidModel", "seedNow", "J", false)
  | 31 => ("AsWasSaidModel", "isKept", "Z", false)
  | 32 => ("AsWasSaidModel", "keptWorld", "I", false)
  | 33 => ("AsWasSaidModel", "keptHearers", "I", false)
  | 34 => ("AsWasSaidModel", "keptRounds", "I", false)
  | 35 => ("AsWasSaidModel", "keptTold", "I", false)
  | 36 => ("AsWasSaidModel", "keptChanges", "[I", true)
  | 37 => ("AsWasSaidModel", "keptToldOf", "[I", true)
  | _ => ("AsWasSaidModel", "h", "J", false)
def tyX6 : Nat → FieldType := fun k => match k with
  | 0 => .int
  | 1 => .int
  | 2 => .array .int
  | 3 => .int
  | 4 => .array .int
  | 5 => .array .int
  | 6 => .int
  | 7 => .array .int
  | 8 => .array .int
  | 9 => .int
  | 10 => .array .int
  | 11 => .array .int
  | 12 => .array .int
  | 13 => .array .int
  | 14 => .int
  | 15 => .int
  | 16 => .array .int
  | 17 => .int
  | 18 => .int
  | 19 => .array .byte
  | 20 => .int
  | 21 => .boolean
  | 22 => .int
  | 23 => .array .int
  | 24 => .array .int
  | 25 => .int
  | 26 => .array .long
  | 27 => .array .long
  | 28 => .array .int
  | 29 => .array .int
  | 30 => .long
  | 31 => .boolean
  | 32 => .int
  | 33 => .int
  | 34 => .int
  | 35 => .int
  | 36 => .array .int
  | 37 => .array .int
  | _ => .long
abbrev wsX60 : List Cond := u_ws RX6 TX6 39
theorem nmX6 : ∀ a, a < 39 → ∀ b, b < 39 → a ≠ b → (TX6 a).2.1 ≠ (TX6 b).2.1 := by decide +kernel
theorem tyX6_ok : ∀ k, k < 39 → parseFieldDescriptor (TX6 k).2.2.1 = some (tyX6 k) := by decide +kernel
abbrev cX6_init : ByteArray := prog_8_method_1_code
def yX6_init : MethodName := ⟨RX6, "<init>", "()V"⟩
abbrev cX6_within : ByteArray := prog_8_method_3_code
def yX6_within : MethodName := ⟨RX6, "within", "(III)Z"⟩
abbrev cX6_letter : ByteArray := prog_8_method_4_code
def yX6_letter : MethodName := ⟨RX6, "letter", "(I)I"⟩
abbrev cX6_blank : ByteArray := prog_8_method_5_code
def yX6_blank : MethodName := ⟨RX6, "blank", "()I"⟩
abbrev cX6_nextState : ByteArray := prog_8_method_6_code
def yX6_nextState : MethodName := ⟨RX6, "nextState", "(II)I"⟩
abbrev cX6_readSaying : ByteArray := prog_8_method_7_code
def yX6_readSaying : MethodName := ⟨RX6, "readSaying", "()V"⟩
abbrev cX6_readSenses : ByteArray := prog_8_method_8_code
def yX6_readSenses : MethodName := ⟨RX6, "readSenses", "()V"⟩
abbrev cX6_fault : ByteArray := prog_8_method_9_code
def yX6_fault : MethodName := ⟨RX6, "fault", "(I)I"⟩
abbrev cX6_say : ByteArray := prog_8_method_10_code
def yX6_say : MethodName := ⟨RX6, "say", "()I"⟩
abbrev cX6_senses : ByteArray := prog_8_method_11_code
def yX6_senses : MethodName := ⟨RX6, "senses", "()I"⟩
abbrev cX6_isLetter : ByteArray := prog_8_method_12_code
def yX6_isLetter : MethodName := ⟨RX6, "isLetter", "(I)Z"⟩
abbrev cX6_sense : ByteArray := prog_8_method_13_code
def yX6_sense : MethodName := ⟨RX6, "sense", "(I)I"⟩
abbrev cX6_worldsOf : ByteArray := prog_8_method_14_code
def yX6_worldsOf : MethodName := ⟨RX6, "worldsOf", "(I)J"⟩
abbrev cX6_brackets : ByteArray := prog_8_method_15_code
def yX6_brackets : MethodName := ⟨RX6, "brackets", "(I)I"⟩
abbrev cX6_wordAt : ByteArray := prog_8_method_16_code
def yX6_wordAt : MethodName := ⟨RX6, "wordAt", "(II)I"⟩
abbrev cX6_joinAt : ByteArray := prog_8_method_17_code
def yX6_joinAt : MethodName := ⟨RX6, "joinAt", "(II)I"⟩
abbrev cX6_bothMany : ByteArray := prog_8_method_18_code
def yX6_bothMany : MethodName := ⟨RX6, "bothMany", "(II)I"⟩
abbrev cX6_lay : ByteArray := prog_8_method_19_code
def yX6_lay : MethodName := ⟨RX6, "lay", "(II)V"⟩
abbrev cX6_joined : ByteArray := prog_8_method_20_code
def yX6_joined : MethodName := ⟨RX6, "joined", "(JIJ)J"⟩
abbrev cX6_bracketed : ByteArray := prog_8_method_21_code
def yX6_bracketed : MethodName := ⟨RX6, "bracketed", "(II)J"⟩
abbrev cX6_ofFour : ByteArray := prog_8_method_22_code
def yX6_ofFour : MethodName := ⟨RX6, "ofFour", "(IJJJJ)J"⟩
abbrev cX6_size : ByteArray := prog_8_method_23_code
def yX6_size : MethodName := ⟨RX6, "size", "(J)I"⟩
abbrev cX6_isIn : ByteArray := prog_8_method_24_code
def yX6_isIn : MethodName := ⟨RX6, "isIn", "(JI)Z"⟩
abbrev cX6_isReading : ByteArray := prog_8_method_25_code
def yX6_isReading : MethodName := ⟨RX6, "isReading", "(I)Z"⟩
abbrev cX6_isWorld : ByteArray := prog_8_method_26_code
def yX6_isWorld : MethodName := ⟨RX6, "isWorld", "(I)Z"⟩
abbrev cX6_reading : ByteArray := prog_8_method_27_code
def yX6_reading : MethodName := ⟨RX6, "reading", "(I)I"⟩
abbrev cX6_isSo : ByteArray := prog_8_method_28_code
def yX6_isSo : MethodName := ⟨RX6, "isSo", "(II)I"⟩
abbrev cX6_comeNow : ByteArray := prog_8_method_29_code
def yX6_comeNow : MethodName := ⟨RX6, "comeNow", "(I)I"⟩
abbrev cX6_come : ByteArray := prog_8_method_30_code
def yX6_come : MethodName := ⟨RX6, "come", "(I)I"⟩
abbrev cX6_isFact : ByteArray := prog_8_method_31_code
def yX6_isFact : MethodName := ⟨RX6, "isFact", "(I)Z"⟩
abbrev cX6_fact : ByteArray := prog_8_method_32_code
def yX6_fact : MethodName := ⟨RX6, "fact", "(I)I"⟩
abbrev cX6_with : ByteArray := prog_8_method_33_code
def yX6_with : MethodName := ⟨RX6, "with", "(III)I"⟩
abbrev cX6_set : ByteArray := prog_8_method_34_code
def yX6_set : MethodName := ⟨RX6, "set", "(II)I"⟩
abbrev cX6_isHearer : ByteArray := prog_8_method_35_code
def yX6_isHearer : MethodName := ⟨RX6, "isHearer", "(I)Z"⟩
abbrev cX6_hearer : ByteArray := prog_8_method_36_code
def yX6_hearer : MethodName := ⟨RX6, "hearer", "(III)I"⟩
abbrev cX6_takes : ByteArray := prog_8_method_37_code
def yX6_takes : MethodName := ⟨RX6, "takes", "(I)I"⟩
abbrev cX6_actsBy : ByteArray := prog_8_method_38_code
def yX6_actsBy : MethodName := ⟨RX6, "actsBy", "(III)Z"⟩
abbrev cX6_behind : ByteArray := prog_8_method_39_code
def yX6_behind : MethodName := ⟨RX6, "behind", "(III)I"⟩
abbrev cX6_hearerNow : ByteArray := prog_8_method_40_code
def yX6_hearerNow : MethodName := ⟨RX6, "hearerNow", "(II)I"⟩
abbrev cX6_about : ByteArray := prog_8_method_41_code
def yX6_about : MethodName := ⟨RX6, "about", "(II)I"⟩
abbrev cX6_as : ByteArray := prog_8_method_42_code
def yX6_as : MethodName := ⟨RX6, "as", "(II)I"⟩
abbrev cX6_doAct : ByteArray := prog_8_method_43_code
def yX6_doAct : MethodName := ⟨RX6, "doAct", "(I)V"⟩
abbrev cX6_act : ByteArray := prog_8_method_44_code
def yX6_act : MethodName := ⟨RX6, "act", "(I)I"⟩
abbrev cX6_round : ByteArray := prog_8_method_45_code
def yX6_round : MethodName := ⟨RX6, "round", "()I"⟩
abbrev cX6_layTakes : ByteArray := prog_8_method_46_code
def yX6_layTakes : MethodName := ⟨RX6, "layTakes", "()V"⟩
abbrev cX6_roundFrom : ByteArray := prog_8_method_47_code
def yX6_roundFrom : MethodName := ⟨RX6, "roundFrom", "(I)I"⟩
abbrev cX6_some : ByteArray := prog_8_method_48_code
def yX6_some : MethodName := ⟨RX6, "some", "()J"⟩
abbrev cX6_anyhowNow : ByteArray := prog_8_method_49_code
def yX6_anyhowNow : MethodName := ⟨RX6, "anyhowNow", "()I"⟩
abbrev cX6_anyhow : ByteArray := prog_8_method_50_code
def yX6_anyhow : MethodName := ⟨RX6, "anyhow", "()I"⟩
abbrev cX6_leftNow : ByteArray := prog_8_method_51_code
def yX6_leftNow : MethodName := ⟨RX6, "leftNow", "(I)I"⟩
abbrev cX6_left : ByteArray := prog_8_method_52_code
def yX6_left : MethodName := ⟨RX6, "left", "(I)I"⟩
abbrev cX6_askNow : ByteArray := prog_8_method_53_code
def yX6_askNow : MethodName := ⟨RX6, "askNow", "()I"⟩
abbrev cX6_ask : ByteArray := prog_8_method_54_code
def yX6_ask : MethodName := ⟨RX6, "ask", "()I"⟩
abbrev cX6_addNow : ByteArray := prog_8_method_55_code
def yX6_addNow : MethodName := ⟨RX6, "addNow", "(I)I"⟩
abbrev cX6_add : ByteArray := prog_8_method_56_code
def yX6_add : MethodName := ⟨RX6, "add", "(I)I"⟩
abbrev cX6_tell : ByteArray := prog_8_method_57_code
def yX6_tell : MethodName := ⟨RX6, "tell", "(I)I"⟩
abbrev cX6_then : ByteArray := prog_8_method_58_code
def yX6_then : MethodName := ⟨RX6, "then", "(I)I"⟩
abbrev cX6_fitsNow : ByteArray := prog_8_method_59_code
def yX6_fitsNow : MethodName := ⟨RX6, "fitsNow", "(II)I"⟩
abbrev cX6_fits : ByteArray := prog_8_method_60_code
def yX6_fits : MethodName := ⟨RX6, "fits", "(II)I"⟩
abbrev cX6_draw : ByteArray := prog_8_method_61_code
def yX6_draw : MethodName := ⟨RX6, "draw", "(I)I"⟩
abbrev cX6_timesNow : ByteArray := prog_8_method_62_code
def yX6_timesNow : MethodName := ⟨RX6, "timesNow", "(III)I"⟩
abbrev cX6_times : ByteArray := prog_8_method_63_code
def yX6_times : MethodName := ⟨RX6, "times", "(III)I"⟩
abbrev cX6_image : ByteArray := prog_8_method_64_code
def yX6_image : MethodName := ⟨RX6, "image", "()I"⟩
abbrev cX6_restore : ByteArray := prog_8_method_65_code
def yX6_restore : MethodName := ⟨RX6, "restore", "()I"⟩
abbrev cX6_readingsOf : ByteArray := prog_8_method_66_code
def yX6_readingsOf : MethodName := ⟨RX6, "readingsOf", "(II)I"⟩
abbrev cX6_howMany : ByteArray := prog_8_method_67_code
def yX6_howMany : MethodName := ⟨RX6, "howMany", "(I)I"⟩
abbrev cX6_count : ByteArray := prog_8_method_68_code
def yX6_count : MethodName := ⟨RX6, "count", "(I)I"⟩
abbrev cX6_mix : ByteArray := prog_8_method_69_code
def yX6_mix : MethodName := ⟨RX6, "mix", "(J)V"⟩
abbrev cX6_digest : ByteArray := prog_8_method_70_code
def yX6_digest : MethodName := ⟨RX6, "digest", "()J"⟩
def RJ13 : String := "java/lang/Long"
abbrev cJ13_bitCount_95d88 : ByteArray := prog_9_method_50_code
def yJ13_bitCount_95d88 : MethodName := ⟨RJ13, "bitCount", "(J)I"⟩
def RJ9 : String := "java/lang/Math"
abbrev cJ9_max_7cf53 : ByteArray := prog_10_method_65_code
def yJ9_max_7cf53 : MethodName := ⟨RJ9, "max", "(II)I"⟩
def RL : String := "AsWasSaidLaw"
abbrev cL_law : ByteArray := code
def yL_law : MethodName := ⟨RL, "law", "([I)Z"⟩
abbrev vwCl : List vw_C := [(RX0, TX0, 5), (RX1, TX1, 5), (RX2, TX2, 2), (RX3, TX3, 11), (RX4, TX4, 2), (RX5, TX5, 12), (RX6, TX6, 39)]
end
section
theorem dX0_init_0 : decode cX0_init 0 = .ok (.aload_n 0, 1) := by decide +kernel
theorem dX0_init_1 : decode cX0_init 1 = .ok (.invokespecial 3, 3) := by decide +kernel
theorem dX0_init_4 : decode cX0_init 4 = .ok (.aload_n 0, 1) := by decide +kernel
theorem dX0_init_5 : decode cX0_init 5 = .ok (.iconst 4, 1) := by decide +kernel
theorem dX0_init_6 : decode cX0_init 6 = .ok (.newarray .int, 2) := by decide +kernel
theorem dX0_init_8 : decode cX0_init 8 = .ok (.putfield 9, 3) := by decide +kernel
theorem dX0_init_11 : decode cX0_init 11 = .ok (.aload_n 0, 1) := by decide +kernel
theorem dX0_init_12 : decode cX0_init 12 = .ok (.iconst 4, 1) := by decide +kernel
theorem dX0_init_13 : decode cX0_init 13 = .ok (.newarray .int, 2) := by decide +kernel
theorem dX0_init_15 : decode cX0_init 15 = .ok (.putfield 15, 3) := by decide +kernel
theorem dX0_init_18 : decode cX0_init 18 = .ok (.aload_n 0, 1) := by decide +kernel
theorem dX0_init_19 : decode cX0_init 19 = .ok (.iconst 4, 1) := by decide +kernel
theorem dX0_init_20 : decode cX0_init 20 = .ok (.newarray .int, 2) := by decide +kernel
theorem dX0_init_22 : decode cX0_init 22 = .ok (.putfield 18, 3) := by decide +kernel
theorem dX0_init_25 : decode cX0_init 25 = .ok (.aload_n 0, 1) := by decide +kernel
theorem dX0_init_26 : decode cX0_init 26 = .ok (.iconst 4, 1) := by decide +kernel
theorem dX0_init_27 : decode cX0_init 27 = .ok (.newarray .int, 2) := by decide +kernel
theorem dX0_init_29 : decode cX0_init 29 = .ok (.putfield 21, 3) := by decide +kernel
theorem dX0_init_32 : decode cX0_init 32 = .ok (.return_, 1) := by decide +kernel
theorem dX0_has_0 : decode cX0_has 0 = .ok (.iload_n 1, 1) := by decide +kernel
theorem dX0_has_1 : decode cX0_has 1 = .ok (.ifCond .lt 20, 3) := by decide +kernel
theorem dX0_has_4 : decode cX0_has 4 = .ok (.iload_n 1, 1) := by decide +kernel
theorem dX0_has_5 : decode cX0_has 5 = .ok (.aload_n 0, 1) := by decide +kernel
theorem dX0_has_6 : decode cX0_has 6 = .ok (.getfield 24, 3) := by decide +kernel
theorem dX0_has_9 : decode cX0_has 9 = .ok (.if_icmp .ge 12, 3) := by decide +kernel
theorem dX0_has_12 : decode cX0_has 12 = .ok (.iload_n 1, 1) := by decide +kernel
theorem dX0_has_13 : decode cX0_has 13 = .ok (.iconst 4, 1) := by decide +kernel
theorem dX0_has_14 : decode cX0_has 14 = .ok (.if_icmp .ge 7, 3) := by decide +kernel
theorem dX0_has_17 : decode cX0_has 17 = .ok (.iconst 1, 1) := by decide +kernel
theorem dX0_has_18 : decode cX0_has 18 = .ok (.goto 4, 3) := by decide +kernel
theorem dX0_has_21 : decode cX0_has 21 = .ok (.iconst 0, 1) := by decide +kernel
theorem dX0_has_22 : decode cX0_has 22 = .ok (.ireturn, 1) := by decide +kernel
theorem dX0_join_0 : decode cX0_join 0 = .ok (.aload_n 0, 1) := by decide +kernel
theorem dX0_join_1 : decode cX0_join 1 = .ok (.getfield 24, 3) := by decide +kernel
theorem dX0_join_4 : decode cX0_join 4 = .ok (.ifCond .lt 11, 3) := by decide +kernel
theorem dX0_join_7 : decode cX0_join 7 = .ok (.aload_n 0, 1) := by decide +kernel
theorem dX0_join_8 : decode cX0_join 8 = .ok (.getfield 24, 3) := by decide +kernel
theorem dX0_join_11 : decode cX0_join 11 = .ok (.iconst 4, 1) := by decide +kernel
theorem dX0_join_12 : decode cX0_join 12 = .ok (.if_icmp .lt 5, 3) := by decide +kernel
theorem dX0_join_15 : decode cX0_join 15 = .ok (.iconst 0, 1) := by decide +kernel
theorem dX0_join_16 : decode cX0_join 16 = .ok (.ireturn, 1) := by decide +kernel
theorem dX0_join_17 : decode cX0_join 17 = .ok (.aload_n 0, 1) := by decide +kernel
theorem dX0_join_18 : decode cX0_join 18 = .ok (.getfield 9, 3) := by decide +kernel
theorem dX0_join_21 : decode cX0_join 21 = .ok (.aload_n 0, 1) := by decide +kernel
theorem dX0_join_22 : decode cX0_join 22 = .ok (.getfield 24, 3) := by decide +kernel
theorem dX0_join_25 : decode cX0_join 25 = .ok (.iload_n 1, 1) := by decide +kernel
theorem dX0_join_26 : decode cX0_join 26 = .ok (.iastore, 1) := by decide +kernel
theorem dX0_join_27 : decode cX0_join 27 = .ok (.aload_n 0, 1) := by decide +kernel
theorem dX0_join_28 : decode cX0_join 28 = .ok (.getfield 15, 3) := by decide +kernel
theorem dX0_join_31 : decode cX0_join 31 = .ok (.aload_n 0, 1) := by decide +kernel
theorem dX0_join_32 : decode cX0_join 32 = .ok (.getfield 24, 3) := by decide +kernel
theorem dX0_join_35 : decode cX0_join 35 = .ok (.iload_n 2, 1) := by decide +kernel
theorem dX0_join_36 : decode cX0_join 36 = .ok (.iastore, 1) := by decide +kernel
theorem dX0_join_37 : decode cX0_join 37 = .ok (.aload_n 0, 1) := by decide +kernel
theorem dX0_join_38 : decode cX0_join 38 = .ok (.getfield 18, 3) := by decide +kernel
theorem dX0_join_41 : decode cX0_join 41 = .ok (.aload_n 0, 1) := by decide +kernel
theorem dX0_join_42 : decode cX0_join 42 = .ok (.getfield 24, 3) := by decide +kernel
theorem dX0_join_45 : decode cX0_join 45 = .ok (.iload_n 3, 1) := by decide +kernel
theorem dX0_join_46 : decode cX0_join 46 = .ok (.iastore, 1) := by decide +kernel
theorem dX0_join_47 : decode cX0_join 47 = .ok (.aload_n 0, 1) := by decide +kernel
theorem dX0_join_48 : decode cX0_join 48 = .ok (.getfield 21, 3) := by decide +kernel
theorem dX0_join_51 : decode cX0_join 51 = .ok (.aload_n 0, 1) := by decide +kernel
theorem dX0_join_52 : decode cX0_join 52 = .ok (.getfield 24, 3) := by decide +kernel
theorem dX0_join_55 : decode cX0_join 55 = .ok (.iconst 0, 1) := by decide +kernel
theorem dX0_join_56 : decode cX0_join 56 = .ok (.iastore, 1) := by decide +kernel
theorem dX0_join_57 : decode cX0_join 57 = .ok (.aload_n 0, 1) := by decide +kernel
theorem dX0_join_58 : decode cX0_join 58 = .ok (.dup, 1) := by decide +kernel
theorem dX0_join_59 : decode cX0_join 59 = .ok (.getfield 24, 3) := by decide +kernel
theorem dX0_join_62 : decode cX0_join 62 = .ok (.iconst 1, 1) := by decide +kernel
theorem dX0_join_63 : decode cX0_join 63 = .ok (.iadd, 1) := by decide +kernel
theorem dX0_join_64 : decode cX0_join 64 = .ok (.putfield 24, 3) := by decide +kernel
theorem dX0_join_67 : decode cX0_join 67 = .ok (.iconst 1, 1) := by decide +kernel
theorem dX0_join_68 : decode cX0_join 68 = .ok (.ireturn, 1) := by decide +kernel
theorem dX0_kindOf_0 : decode cX0_kindOf 0 = .ok (.iload_n 1, 1) := by decide +kernel
theorem dX0_kindOf_1 : decode cX0_kindOf 1 = .ok (.ifCond .lt 29, 3) := by decide +kernel
theorem dX0_kindOf_4 : decode cX0_kindOf 4 = .ok (.iload_n 1, 1) := by decide +kernel
theorem dX0_kindOf_5 : decode cX0_kindOf 5 = .ok (.aload_n 0, 1) := by decide +kernel
theorem dX0_kindOf_6 : decode cX0_kindOf 6 = .ok (.getfield 24, 3) := by decide +kernel
theorem dX0_kindOf_9 : decode cX0_kindOf 9 = .ok (.if_icmp .ge 21, 3) := by decide +kernel
theorem dX0_kindOf_12 : decode cX0_kindOf 12 = .ok (.iload_n 1, 1) := by decide +kernel
theorem dX0_kindOf_13 : decode cX0_kindOf 13 = .ok (.aload_n 0, 1) := by decide +kernel
theorem dX0_kindOf_14 : decode cX0_kindOf 14 = .ok (.getfield 9, 3) := by decide +kernel
theorem dX0_kindOf_17 : decode cX0_kindOf 17 = .ok (.arraylength, 1) := by decide +kernel
theorem dX0_kindOf_18 : decode cX0_kindOf 18 = .ok (.if_icmp .ge 12, 3) := by decide +kernel
theorem dX0_kindOf_21 : decode cX0_kindOf 21 = .ok (.aload_n 0, 1) := by decide +kernel
theorem dX0_kindOf_22 : decode cX0_kindOf 22 = .ok (.getfield 9, 3) := by decide +kernel
theorem dX0_kindOf_25 : decode cX0_kindOf 25 = .ok (.iload_n 1, 1) := by decide +kernel
theorem dX0_kindOf_26 : decode cX0_kindOf 26 = .ok (.iaload, 1) := by decide +kernel
theorem dX0_kindOf_27 : decode cX0_kindOf 27 = .ok (.goto 4, 3) := by decide +kernel
theorem dX0_kindOf_30 : decode cX0_kindOf 30 = .ok (.iconst (-1), 1) := by decide +kernel
theorem dX0_kindOf_31 : decode cX0_kindOf 31 = .ok (.ireturn, 1) := by decide +kernel
theorem dX0_factOf_0 : decode cX0_factOf 0 = .ok (.iload_n 1, 1) := by decide +kernel
theorem dX0_factOf_1 : decode cX0_factOf 1 = .ok (.ifCond .lt 29, 3) := by decide +kernel
theorem dX0_factOf_4 : decode cX0_factOf 4 = .ok (.iload_n 1, 1) := by decide +kernel
theorem dX0_factOf_5 : decode cX0_factOf 5 = .ok (.aload_n 0, 1) := by decide +kernel
theorem dX0_factOf_6 : decode cX0_factOf 6 = .ok (.getfield 24, 3) := by decide +kernel
theorem dX0_factOf_9 : decode cX0_factOf 9 = .ok (.if_icmp .ge 21, 3) := by decide +kernel
theorem dX0_factOf_12 : decode cX0_factOf 12 = .ok (.iload_n 1, 1) := by decide +kernel
theorem dX0_factOf_13 : decode cX0_factOf 13 = .ok (.aload_n 0, 1) := by decide +kernel
theorem dX0_factOf_14 : decode cX0_factOf 14 = .ok (.getfield 15, 3) := by decide +kernel
theorem dX0_factOf_17 : decode cX0_factOf 17 = .ok (.arraylength, 1) := by decide +kernel
theorem dX0_factOf_18 : decode cX0_factOf 18 = .ok (.if_icmp .ge 12, 3) := by decide +kernel
theorem dX0_factOf_21 : decode cX0_factOf 21 = .ok (.aload_n 0, 1) := by decide +kernel
theorem dX0_factOf_22 : decode cX0_factOf 22 = .ok (.getfield 15, 3) := by decide +kernel
theorem dX0_factOf_25 : decode cX0_factOf 25 = .ok (.iload_n 1, 1) := by decide +kernel
theorem dX0_factOf_26 : decode cX0_factOf 26 = .ok (.iaload, 1) := by decide +kernel
theorem dX0_factOf_27 : decode cX0_factOf 27 = .ok (.goto 4, 3) := by decide +kernel
theorem dX0_factOf_30 : decode cX0_factOf 30 = .ok (.iconst (-1), 1) := by decide +kernel
theorem dX0_factOf_31 : decode cX0_factOf 31 = .ok (.ireturn, 1) := by decide +kernel
theorem dX0_valueOf_0 : decode cX0_valueOf 0 = .ok (.iload_n 1, 1) := by decide +kernel
theorem dX0_valueOf_1 : decode cX0_valueOf 1 = .ok (.ifCond .lt 29, 3) := by decide +kernel
theorem dX0_valueOf_4 : decode cX0_valueOf 4 = .ok (.iload_n 1, 1) := by decide +kernel
theorem dX0_valueOf_5 : decode cX0_valueOf 5 = .ok (.aload_n 0, 1) := by decide +kernel
theorem dX0_valueOf_6 : decode cX0_valueOf 6 = .ok (.getfield 24, 3) := by decide +kernel
theorem dX0_valueOf_9 : decode cX0_valueOf 9 = .ok (.if_icmp .ge 21, 3) := by decide +kernel
theorem dX0_valueOf_12 : decode cX0_valueOf 12 = .ok (.iload_n 1, 1) := by decide +kernel
theorem dX0_valueOf_13 : decode cX0_valueOf 13 = .ok (.aload_n 0, 1) := by decide +kernel
theorem dX0_valueOf_14 : decode cX0_valueOf 14 = .ok (.getfield 18, 3) := by decide +kernel
theorem dX0_valueOf_17 : decode cX0_valueOf 17 = .ok (.arraylength, 1) := by decide +kernel
theorem dX0_valueOf_18 : decode cX0_valueOf 18 = .ok (.if_icmp .ge 12, 3) := by decide +kernel
theorem dX0_valueOf_21 : decode cX0_valueOf 21 = .ok (.aload_n 0, 1) := by decide +kernel
theorem dX0_valueOf_22 : decode cX0_valueOf 22 = .ok (.getfield 18, 3) := by decide +kernel
theorem dX0_valueOf_25 : decode cX0_valueOf 25 = .ok (.iload_n 1, 1) := by decide +kernel
theorem dX0_valueOf_26 : decode cX0_valueOf 26 = .ok (.iaload, 1) := by decide +kernel
theorem dX0_valueOf_27 : decode cX0_valueOf 27 = .ok (.goto 4, 3) := by decide +kernel
theorem dX0_valueOf_30 : decode cX0_valueOf 30 = .ok (.iconst (-1), 1) := by decide +kernel
theorem dX0_valueOf_31 : decode cX0_valueOf 31 = .ok (.ireturn, 1) := by decide +kernel
theorem dX0_changesOf_0 : decode cX0_changesOf 0 = .ok (.iload_n 1, 1) := by decide +kernel
theorem dX0_changesOf_1 : decode cX0_changesOf 1 = .ok (.ifCond .lt 29, 3) := by decide +kernel
theorem dX0_changesOf_4 : decode cX0_changesOf 4 = .ok (.iload_n 1, 1) := by decide +kernel
theorem dX0_changesOf_5 : decode cX0_changesOf 5 = .ok (.aload_n 0, 1) := by decide +kernel
theorem dX0_changesOf_6 : decode cX0_changesOf 6 = .ok (.getfield 24, 3) := by decide +kernel
theorem dX0_changesOf_9 : decode cX0_changesOf 9 = .ok (.if_icmp .ge 21, 3) := by decide +kernel
theorem dX0_changesOf_12 : decode cX0_changesOf 12 = .ok (.iload_n 1, 1) := by decide +kernel
theorem dX0_changesOf_13 : decode cX0_changesOf 13 = .ok (.aload_n 0, 1) := by decide +kernel
theorem dX0_changesOf_14 : decode cX0_changesOf 14 = .ok (.getfield 21, 3) := by decide +kernel
theorem dX0_changesOf_17 : decode cX0_changesOf 17 = .ok (.arraylength, 1) := by decide +kernel
theorem dX0_changesOf_18 : decode cX0_changesOf 18 = .ok (.if_icmp .ge 12, 3) := by decide +kernel
theorem dX0_changesOf_21 : decode cX0_changesOf 21 = .ok (.aload_n 0, 1) := by decide +kernel
theorem dX0_changesOf_22 : decode cX0_changesOf 22 = .ok (.getfield 21, 3) := by decide +kernel
theorem dX0_changesOf_25 : decode cX0_changesOf 25 = .ok (.iload_n 1, 1) := by decide +kernel
theorem dX0_changesOf_26 : decode cX0_changesOf 26 = .ok (.iaload, 1) := by decide +kernel
theorem dX0_changesOf_27 : decode cX0_changesOf 27 = .ok (.goto 4, 3) := by decide +kernel
theorem dX0_changesOf_30 : decode cX0_changesOf 30 = .ok (.iconst (-1), 1) := by decide +kernel
theorem dX0_changesOf_31 : decode cX0_changesOf 31 = .ok (.ireturn, 1) := by decide +kernel
theorem dX0_countChange_0 : decode cX0_countChange 0 = .ok (.aload_n 0, 1) := by decide +kernel
theorem dX0_countChange_1 : decode cX0_countChange 1 = .ok (.iload_n 1, 1) := by decide +kernel
theorem dX0_countChange_2 : decode cX0_countChange 2 = .ok (.invokevirtual 28, 3) := by decide +kernel
theorem dX0_countChange_5 : decode cX0_countChange 5 = .ok (.ifCond .eq 13, 3) := by decide +kernel
theorem dX0_countChange_8 : decode cX0_countChange 8 = .ok (.aload_n 0, 1) := by decide +kernel
theorem dX0_countChange_9 : decode cX0_countChange 9 = .ok (.getfield 21, 3) := by decide +kernel
theorem dX0_countChange_12 : decode cX0_countChange 12 = .ok (.iload_n 1, 1) := by decide +kernel
theorem dX0_countChange_13 : decode cX0_countChange 13 = .ok (.dup2, 1) := by decide +kernel
theorem dX0_countChange_14 : decode cX0_countChange 14 = .ok (.iaload, 1) := by decide +kernel
theorem dX0_countChange_15 : decode cX0_countChange 15 = .ok (.iconst 1, 1) := by decide +kernel
theorem dX0_countChange_16 : decode cX0_countChange 16 = .ok (.iadd, 1) := by decide +kernel
theorem dX0_countChange_17 : decode cX0_countChange 17 = .ok (.iastore, 1) := by decide +kernel
theorem dX0_countChange_18 : decode cX0_countChange 18 = .ok (.return_, 1) := by decide +kernel
theorem dX0_become_0 : decode cX0_become 0 = .ok (.aload_n 0, 1) := by decide +kernel
theorem dX0_become_1 : decode cX0_become 1 = .ok (.iconst 0, 1) := by decide +kernel
theorem dX0_become_2 : decode cX0_become 2 = .ok (.putfield 24, 3) := by decide +kernel
theorem dX0_become_5 : decode cX0_become 5 = .ok (.iconst 0, 1) := by decide +kernel
theorem dX0_become_6 : decode cX0_become 6 = .ok (.istore_n 2, 1) := by decide +kernel
theorem dX0_become_7 : decode cX0_become 7 = .ok (.iload_n 2, 1) := by decide +kernel
theorem dX0_become_8 : decode cX0_become 8 = .ok (.aload_n 1, 1) := by decide +kernel
theorem dX0_become_9 : decode cX0_become 9 = .ok (.getfield 24, 3) := by decide +kernel
theorem dX0_become_12 : decode cX0_become 12 = .ok (.if_icmp .ge 72, 3) := by decide +kernel
theorem dX0_become_15 : decode cX0_become 15 = .ok (.iload_n 2, 1) := by decide +kernel
theorem dX0_become_16 : decode cX0_become 16 = .ok (.iconst 4, 1) := by decide +kernel
theorem dX0_become_17 : decode cX0_become 17 = .ok (.if_icmp .ge 67, 3) := by decide +kernel
theorem dX0_become_20 : decode cX0_become 20 = .ok (.aload_n 0, 1) := by decide +kernel
theorem dX0_become_21 : decode cX0_become 21 = .ok (.getfield 9, 3) := by decide +kernel
theorem dX0_become_24 : decode cX0_become 24 = .ok (.iload_n 2, 1) := by decide +kernel
theorem dX0_become_25 : decode cX0_become 25 = .ok (.aload_n 1, 1) := by decide +kernel
theorem dX0_become_26 : decode cX0_become 26 = .ok (.getfield 9, 3) := by decide +kernel
theorem dX0_become_29 : decode cX0_become 29 = .ok (.iload_n 2, 1) := by decide +kernel
theorem dX0_become_30 : decode cX0_become 30 = .ok (.iaload, 1) := by decide +kernel
theorem dX0_become_31 : decode cX0_become 31 = .ok (.iastore, 1) := by decide +kernel
theorem dX0_become_32 : decode cX0_become 32 = .ok (.aload_n 0, 1) := by decide +kernel
theorem dX0_become_33 : decode cX0_become 33 = .ok (.getfield 15, 3) := by decide +kernel
theorem dX0_become_36 : decode cX0_become 36 = .ok (.iload_n 2, 1) := by decide +kernel
theorem dX0_become_37 : decode cX0_become 37 = .ok (.aload_n 1, 1) := by decide +kernel
theorem dX0_become_38 : decode cX0_become 38 = .ok (.getfield 15, 3) := by decide +kernel
theorem dX0_become_41 : decode cX0_become 41 = .ok (.iload_n 2, 1) := by decide +kernel
theorem dX0_become_42 : decode cX0_become 42 = .ok (.iaload, 1) := by decide +kernel
theorem dX0_become_43 : decode cX0_become 43 = .ok (.iastore, 1) := by decide +kernel
theorem dX0_become_44 : decode cX0_become 44 = .ok (.aload_n 0, 1) := by decide +kernel
theorem dX0_become_45 : decode cX0_become 45 = .ok (.getfield 18, 3) := by decide +kernel
theorem dX0_become_48 : decode cX0_become 48 = .ok (.iload_n 2, 1) := by decide +kernel
theorem dX0_become_49 : decode cX0_become 49 = .ok (.aload_n 1, 1) := by decide +kernel
theorem dX0_become_50 : decode cX0_become 50 = .ok (.getfield 18, 3) := by decide +kernel
theorem dX0_become_53 : decode cX0_become 53 = .ok (.iload_n 2, 1) := by decide +kernel
theorem dX0_become_54 : decode cX0_become 54 = .ok (.iaload, 1) := by decide +kernel
theorem dX0_become_55 : decode cX0_become 55 = .ok (.iastore, 1) := by decide +kernel
theorem dX0_become_56 : decode cX0_become 56 = .ok (.aload_n 0, 1) := by decide +kernel
theorem dX0_become_57 : decode cX0_become 57 = .ok (.getfield 21, 3) := by decide +kernel
theorem dX0_become_60 : decode cX0_become 60 = .ok (.iload_n 2, 1) := by decide +kernel
theorem dX0_become_61 : decode cX0_become 61 = .ok (.aload_n 1, 1) := by decide +kernel
theorem dX0_become_62 : decode cX0_become 62 = .ok (.getfield 21, 3) := by decide +kernel
theorem dX0_become_65 : decode cX0_become 65 = .ok (.iload_n 2, 1) := by decide +kernel
theorem dX0_become_66 : decode cX0_become 66 = .ok (.iaload, 1) := by decide +kernel
theorem dX0_become_67 : decode cX0_become 67 = .ok (.iastore, 1) := by decide +kernel
theorem dX0_become_68 : decode cX0_become 68 = .ok (.aload_n 0, 1) := by decide +kernel
theorem dX0_become_69 : decode cX0_become 69 = .ok (.dup, 1) := by decide +kernel
theorem dX0_become_70 : decode cX0_become 70 = .ok (.getfield 24, 3) := by decide +kernel
theorem dX0_become_73 : decode cX0_become 73 = .ok (.iconst 1, 1) := by decide +kernel
theorem dX0_become_74 : decode cX0_become 74 = .ok (.iadd, 1) := by decide +kernel
theorem dX0_become_75 : decode cX0_become 75 = .ok (.putfield 24, 3) := by decide +kernel
theorem dX0_become_78 : decode cX0_become 78 = .ok (.iinc 2 1, 3) := by decide +kernel
theorem dX0_become_81 : decode cX0_become 81 = .ok (.goto (-74), 3) := by decide +kernel
theorem dX0_become_84 : decode cX0_become 84 = .ok (.return_, 1) := by decide +kernel
theorem dX1_init_0 : decode cX1_init 0 = .ok (.aload_n 0, 1) := by decide +kernel
theorem dX1_init_1 : decode cX1_init 1 = .ok (.invokespecial 1, 3) := by decide +kernel
theorem dX1_init_4 : decode cX1_init 4 = .ok (.aload_n 0, 1) := by decide +kernel
theorem dX1_init_5 : decode cX1_init 5 = .ok (.new 7, 3) := by decide +kernel
theorem dX1_init_8 : decode cX1_init 8 = .ok (.dup, 1) := by decide +kernel
theorem dX1_init_9 : decode cX1_init 9 = .ok (.invokespecial 9, 3) := by decide +kernel
theorem dX1_init_12 : decode cX1_init 12 = .ok (.putfield 10, 3) := by decide +kernel
theorem dX1_init_15 : decode cX1_init 15 = .ok (.aload_n 0, 1) := by decide +kernel
theorem dX1_init_16 : decode cX1_init 16 = .ok (.new 16, 3) := by decide +kernel
theorem dX1_init_19 : decode cX1_init 19 = .ok (.dup, 1) := by decide +kernel
theorem dX1_init_20 : decode cX1_init 20 = .ok (.invokespecial 18, 3) := by decide +kernel
theorem dX1_init_23 : decode cX1_init 23 = .ok (.putfield 19, 3) := by decide +kernel
theorem dX1_init_26 : decode cX1_init 26 = .ok (.return_, 1) := by decide +kernel
theorem dX2_init_0 : decode cX2_init 0 = .ok (.aload_n 0, 1) := by decide +kernel
theorem dX2_init_1 : decode cX2_init 1 = .ok (.invokespecial 3, 3) := by decide +kernel
theorem dX2_init_4 : decode cX2_init 4 = .ok (.aload_n 0, 1) := by decide +kernel
theorem dX2_init_5 : decode cX2_init 5 = .ok (.bipush 14, 2) := by decide +kernel
theorem dX2_init_7 : decode cX2_init 7 = .ok (.newarray .int, 2) := by decide +kernel
theorem dX2_init_9 : decode cX2_init 9 = .ok (.putfield 9, 3) := by decide +kernel
theorem dX2_init_12 : decode cX2_init 12 = .ok (.return_, 1) := by decide +kernel
theorem dX2_write_0 : decode cX2_write 0 = .ok (.aload_n 0, 1) := by decide +kernel
theorem dX2_write_1 : decode cX2_write 1 = .ok (.getfield 15, 3) := by decide +kernel
theorem dX2_write_4 : decode cX2_write 4 = .ok (.ifCond .lt 15, 3) := by decide +kernel
theorem dX2_write_7 : decode cX2_write 7 = .ok (.aload_n 0, 1) := by decide +kernel
theorem dX2_write_8 : decode cX2_write 8 = .ok (.getfield 15, 3) := by decide +kernel
theorem dX2_write_11 : decode cX2_write 11 = .ok (.aload_n 0, 1) := by decide +kernel
theorem dX2_write_12 : decode cX2_write 12 = .ok (.getfield 9, 3) := by decide +kernel
theorem dX2_write_15 : decode cX2_write 15 = .ok (.arraylength, 1) := by decide +kernel
theorem dX2_write_16 : decode cX2_write 16 = .ok (.if_icmp .lt 5, 3) := by decide +kernel
theorem dX2_write_19 : decode cX2_write 19 = .ok (.iconst 0, 1) := by decide +kernel
theorem dX2_write_20 : decode cX2_write 20 = .ok (.ireturn, 1) := by decide +kernel
theorem dX2_write_21 : decode cX2_write 21 = .ok (.aload_n 0, 1) := by decide +kernel
theorem dX2_write_22 : decode cX2_write 22 = .ok (.getfield 9, 3) := by decide +kernel
theorem dX2_write_25 : decode cX2_write 25 = .ok (.aload_n 0, 1) := by decide +kernel
theorem dX2_write_26 : decode cX2_write 26 = .ok (.getfield 15, 3) := by decide +kernel
theorem dX2_write_29 : decode cX2_write 29 = .ok (.iload_n 1, 1) := by decide +kernel
theorem dX2_write_30 : decode cX2_write 30 = .ok (.iastore, 1) := by decide +kernel
theorem dX2_write_31 : decode cX2_write 31 = .ok (.aload_n 0, 1) := by decide +kernel
theorem dX2_write_32 : decode cX2_write 32 = .ok (.dup, 1) := by decide +kernel
theorem dX2_write_33 : decode cX2_write 33 = .ok (.getfield 15, 3) := by decide +kernel
theorem dX2_write_36 : decode cX2_write 36 = .ok (.iconst 1, 1) := by decide +kernel
theorem dX2_write_37 : decode cX2_write 37 = .ok (.iadd, 1) := by decide +kernel
theorem dX2_write_38 : decode cX2_write 38 = .ok (.putfield 15, 3) := by decide +kernel
theorem dX2_write_41 : decode cX2_write 41 = .ok (.iconst 1, 1) := by decide +kernel
theorem dX2_write_42 : decode cX2_write 42 = .ok (.ireturn, 1) := by decide +kernel
theorem dX2_clear_0 : decode cX2_clear 0 = .ok (.aload_n 0, 1) := by decide +kernel
theorem dX2_clear_1 : decode cX2_clear 1 = .ok (.getfield 15, 3) := by decide +kernel
theorem dX2_clear_4 : decode cX2_clear 4 = .ok (.istore_n 1, 1) := by decide +kernel
theorem dX2_clear_5 : decode cX2_clear 5 = .ok (.aload_n 0, 1) := by decide +kernel
theorem dX2_clear_6 : decode cX2_clear 6 = .ok (.iconst 0, 1) := by decide +kernel
theorem dX2_clear_7 : decode cX2_clear 7 = .ok (.putfield 15, 3) := by decide +kernel
theorem dX2_clear_10 : decode cX2_clear 10 = .ok (.iload_n 1, 1) := by decide +kernel
theorem dX2_clear_11 : decode cX2_clear 11 = .ok (.ireturn, 1) := by decide +kernel
theorem dX2_codeAt_0 : decode cX2_codeAt 0 = .ok (.iload_n 1, 1) := by decide +kernel
theorem dX2_codeAt_1 : decode cX2_codeAt 1 = .ok (.ifCond .lt 29, 3) := by decide +kernel
theorem dX2_codeAt_4 : decode cX2_codeAt 4 = .ok (.iload_n 1, 1) := by decide +kernel
theorem dX2_codeAt_5 : decode cX2_codeAt 5 = .ok (.aload_n 0, 1) := by decide +kernel
theorem dX2_codeAt_6 : decode cX2_codeAt 6 = .ok (.getfield 15, 3) := by decide +kernel
theorem dX2_codeAt_9 : decode cX2_codeAt 9 = .ok (.if_icmp .ge 21, 3) := by decide +kernel
theorem dX2_codeAt_12 : decode cX2_codeAt 12 = .ok (.iload_n 1, 1) := by decide +kernel
theorem dX2_codeAt_13 : decode cX2_codeAt 13 = .ok (.aload_n 0, 1) := by decide +kernel
theorem dX2_codeAt_14 : decode cX2_codeAt 14 = .ok (.getfield 9, 3) := by decide +kernel
theorem dX2_codeAt_17 : decode cX2_codeAt 17 = .ok (.arraylength, 1) := by decide +kernel
theorem dX2_codeAt_18 : decode cX2_codeAt 18 = .ok (.if_icmp .ge 12, 3) := by decide +kernel
theorem dX2_codeAt_21 : decode cX2_codeAt 21 = .ok (.aload_n 0, 1) := by decide +kernel
theorem dX2_codeAt_22 : decode cX2_codeAt 22 = .ok (.getfield 9, 3) := by decide +kernel
theorem dX2_codeAt_25 : decode cX2_codeAt 25 = .ok (.iload_n 1, 1) := by decide +kernel
theorem dX2_codeAt_26 : decode cX2_codeAt 26 = .ok (.iaload, 1) := by decide +kernel
theorem dX2_codeAt_27 : decode cX2_codeAt 27 = .ok (.goto 4, 3) := by decide +kernel
theorem dX2_codeAt_30 : decode cX2_codeAt 30 = .ok (.iconst (-1), 1) := by decide +kernel
theorem dX2_codeAt_31 : decode cX2_codeAt 31 = .ok (.ireturn, 1) := by decide +kernel
theorem dX2_faultAsSaying_0 : decode cX2_faultAsSaying 0 = .ok (.iconst 0, 1) := by decide +kernel
theorem dX2_faultAsSaying_1 : decode cX2_faultAsSaying 1 = .ok (.istore_n 1, 1) := by decide +kernel
theorem dX2_faultAsSaying_2 : decode cX2_faultAsSaying 2 = .ok (.iconst 0, 1) := by decide +kernel
theorem dX2_faultAsSaying_3 : decode cX2_faultAsSaying 3 = .ok (.istore_n 2, 1) := by decide +kernel
theorem dX2_faultAsSaying_4 : decode cX2_faultAsSaying 4 = .ok (.iconst 1, 1) := by decide +kernel
theorem dX2_faultAsSaying_5 : decode cX2_faultAsSaying 5 = .ok (.istore_n 3, 1) := by decide +kernel
theorem dX2_faultAsSaying_6 : decode cX2_faultAsSaying 6 = .ok (.iconst 0, 1) := by decide +kernel
theorem dX2_faultAsSaying_7 : decode cX2_faultAsSaying 7 = .ok (.istore 4, 2) := by decide +kernel
theorem dX2_faultAsSaying_9 : decode cX2_faultAsSaying 9 = .ok (.iload 4, 2) := by decide +kernel
theorem dX2_faultAsSaying_11 : decode cX2_faultAsSaying 11 = .ok (.aload_n 0, 1) := by decide +kernel
theorem dX2_faultAsSaying_12 : decode cX2_faultAsSaying 12 = .ok (.getfield 15, 3) := by decide +kernel
theorem dX2_faultAsSaying_15 : decode cX2_faultAsSaying 15 = .ok (.if_icmp .ge 84, 3) := by decide +kernel
theorem dX2_faultAsSaying_18 : decode cX2_faultAsSaying 18 = .ok (.aload_n 0, 1) := by decide +kernel
theorem dX2_faultAsSaying_19 : decode cX2_faultAsSaying 19 = .ok (.iload 4, 2) := by decide +kernel
theorem dX2_faultAsSaying_21 : decode cX2_faultAsSaying 21 = .ok (.invokevirtual 19, 3) := by decide +kernel
theorem dX2_faultAsSaying_24 : decode cX2_faultAsSaying 24 = .ok (.istore 5, 2) := by decide +kernel
theorem dX2_faultAsSaying_26 : decode cX2_faultAsSaying 26 = .ok (.iload_n 3, 1) := by decide +kernel
theorem dX2_faultAsSaying_27 : decode cX2_faultAsSaying 27 = .ok (.ifCond .eq 21, 3) := by decide +kernel
theorem dX2_faultAsSaying_30 : decode cX2_faultAsSaying 30 = .ok (.iload 5, 2) := by decide +kernel
theorem dX2_faultAsSaying_32 : decode cX2_faultAsSaying 32 = .ok (.invokestatic 23, 3) := by decide +kernel
theorem dX2_faultAsSaying_35 : decode cX2_faultAsSaying 35 = .ok (.ifCond .eq 13, 3) := by decide +kernel
theorem dX2_faultAsSaying_38 : decode cX2_faultAsSaying 38 = .ok (.iinc 1 1, 3) := by decide +kernel
theorem dX2_faultAsSaying_41 : decode cX2_faultAsSaying 41 = .ok (.iconst 0, 1) := by decide +kernel
theorem dX2_faultAsSaying_42 : decode cX2_faultAsSaying 42 = .ok (.istore_n 2, 1) := by decide +kernel
theorem dX2_faultAsSaying_43 : decode cX2_faultAsSaying 43 = .ok (.iconst 0, 1) := by decide +kernel
theorem dX2_faultAsSaying_44 : decode cX2_faultAsSaying 44 = .ok (.istore_n 3, 1) := by decide +kernel
theorem dX2_faultAsSaying_45 : decode cX2_faultAsSaying 45 = .ok (.goto 48, 3) := by decide +kernel
theorem dX2_faultAsSaying_48 : decode cX2_faultAsSaying 48 = .ok (.iload_n 3, 1) := by decide +kernel
theorem dX2_faultAsSaying_49 : decode cX2_faultAsSaying 49 = .ok (.ifCond .eq 19, 3) := by decide +kernel
theorem dX2_faultAsSaying_52 : decode cX2_faultAsSaying 52 = .ok (.iload 5, 2) := by decide +kernel
theorem dX2_faultAsSaying_54 : decode cX2_faultAsSaying 54 = .ok (.bipush 110, 2) := by decide +kernel
theorem dX2_faultAsSaying_56 : decode cX2_faultAsSaying 56 = .ok (.if_icmp .ne 12, 3) := by decide +kernel
theorem dX2_faultAsSaying_59 : decode cX2_faultAsSaying 59 = .ok (.iload_n 2, 1) := by decide +kernel
theorem dX2_faultAsSaying_60 : decode cX2_faultAsSaying 60 = .ok (.ifCond .ne 8, 3) := by decide +kernel
theorem dX2_faultAsSaying_63 : decode cX2_faultAsSaying 63 = .ok (.iconst 1, 1) := by decide +kernel
theorem dX2_faultAsSaying_64 : decode cX2_faultAsSaying 64 = .ok (.istore_n 2, 1) := by decide +kernel
theorem dX2_faultAsSaying_65 : decode cX2_faultAsSaying 65 = .ok (.goto 28, 3) := by decide +kernel
theorem dX2_faultAsSaying_68 : decode cX2_faultAsSaying 68 = .ok (.iload_n 3, 1) := by decide +kernel
theorem dX2_faultAsSaying_69 : decode cX2_faultAsSaying 69 = .ok (.ifCond .ne 21, 3) := by decide +kernel
theorem dX2_faultAsSaying_72 : decode cX2_faultAsSaying 72 = .ok (.iload_n 1, 1) := by decide +kernel
theorem dX2_faultAsSaying_73 : decode cX2_faultAsSaying 73 = .ok (.iconst 4, 1) := by decide +kernel
theorem dX2_faultAsSaying_74 : decode cX2_faultAsSaying 74 = .ok (.if_icmp .ge 16, 3) := by decide +kernel
theorem dX2_faultAsSaying_77 : decode cX2_faultAsSaying 77 = .ok (.iload 5, 2) := by decide +kernel
theorem dX2_faultAsSaying_79 : decode cX2_faultAsSaying 79 = .ok (.invokestatic 27, 3) := by decide +kernel
theorem dX2_faultAsSaying_82 : decode cX2_faultAsSaying 82 = .ok (.ifCond .eq 8, 3) := by decide +kernel
theorem dX2_faultAsSaying_85 : decode cX2_faultAsSaying 85 = .ok (.iconst 1, 1) := by decide +kernel
theorem dX2_faultAsSaying_86 : decode cX2_faultAsSaying 86 = .ok (.istore_n 3, 1) := by decide +kernel
theorem dX2_faultAsSaying_87 : decode cX2_faultAsSaying 87 = .ok (.goto 6, 3) := by decide +kernel
theorem dX2_faultAsSaying_90 : decode cX2_faultAsSaying 90 = .ok (.iload 4, 2) := by decide +kernel
theorem dX2_faultAsSaying_92 : decode cX2_faultAsSaying 92 = .ok (.ireturn, 1) := by decide +kernel
theorem dX2_faultAsSaying_93 : decode cX2_faultAsSaying 93 = .ok (.iinc 4 1, 3) := by decide +kernel
theorem dX2_faultAsSaying_96 : decode cX2_faultAsSaying 96 = .ok (.goto (-87), 3) := by decide +kernel
theorem dX2_faultAsSaying_99 : decode cX2_faultAsSaying 99 = .ok (.aload_n 0, 1) := by decide +kernel
theorem dX2_faultAsSaying_100 : decode cX2_faultAsSaying 100 = .ok (.getfield 15, 3) := by decide +kernel
theorem dX2_faultAsSaying_103 : decode cX2_faultAsSaying 103 = .ok (.ireturn, 1) := by decide +kernel
theorem dX2_faultAsSenses_0 : decode cX2_faultAsSenses 0 = .ok (.iconst 0, 1) := by decide +kernel
theorem dX2_faultAsSenses_1 : decode cX2_faultAsSenses 1 = .ok (.istore_n 1, 1) := by decide +kernel
theorem dX2_faultAsSenses_2 : decode cX2_faultAsSenses 2 = .ok (.iload_n 1, 1) := by decide +kernel
theorem dX2_faultAsSenses_3 : decode cX2_faultAsSenses 3 = .ok (.aload_n 0, 1) := by decide +kernel
theorem dX2_faultAsSenses_4 : decode cX2_faultAsSenses 4 = .ok (.getfield 15, 3) := by decide +kernel
theorem dX2_faultAsSenses_7 : decode cX2_faultAsSenses 7 = .ok (.if_icmp .ge 35, 3) := by decide +kernel
theorem dX2_faultAsSenses_10 : decode cX2_faultAsSenses 10 = .ok (.aload_n 0, 1) := by decide +kernel
theorem dX2_faultAsSenses_11 : decode cX2_faultAsSenses 11 = .ok (.iload_n 1, 1) := by decide +kernel
theorem dX2_faultAsSenses_12 : decode cX2_faultAsSenses 12 = .ok (.invokevirtual 19, 3) := by decide +kernel
theorem dX2_faultAsSenses_15 : decode cX2_faultAsSenses 15 = .ok (.istore_n 2, 1) := by decide +kernel
theorem dX2_faultAsSenses_16 : decode cX2_faultAsSenses 16 = .ok (.iload_n 1, 1) := by decide +kernel
theorem dX2_faultAsSenses_17 : decode cX2_faultAsSenses 17 = .ok (.bipush 6, 2) := by decide +kernel
theorem dX2_faultAsSenses_19 : decode cX2_faultAsSenses 19 = .ok (.if_icmp .ge 15, 3) := by decide +kernel
theorem dX2_faultAsSenses_22 : decode cX2_faultAsSenses 22 = .ok (.iload_n 2, 1) := by decide +kernel
theorem dX2_faultAsSenses_23 : decode cX2_faultAsSenses 23 = .ok (.bipush 48, 2) := by decide +kernel
theorem dX2_faultAsSenses_25 : decode cX2_faultAsSenses 25 = .ok (.if_icmp .lt 9, 3) := by decide +kernel
theorem dX2_faultAsSenses_28 : decode cX2_faultAsSenses 28 = .ok (.iload_n 2, 1) := by decide +kernel
theorem dX2_faultAsSenses_29 : decode cX2_faultAsSenses 29 = .ok (.bipush 53, 2) := by decide +kernel
theorem dX2_faultAsSenses_31 : decode cX2_faultAsSenses 31 = .ok (.if_icmp .le 5, 3) := by decide +kernel
theorem dX2_faultAsSenses_34 : decode cX2_faultAsSenses 34 = .ok (.iload_n 1, 1) := by decide +kernel
theorem dX2_faultAsSenses_35 : decode cX2_faultAsSenses 35 = .ok (.ireturn, 1) := by decide +kernel
theorem dX2_faultAsSenses_36 : decode cX2_faultAsSenses 36 = .ok (.iinc 1 1, 3) := by decide +kernel
theorem dX2_faultAsSenses_39 : decode cX2_faultAsSenses 39 = .ok (.goto (-37), 3) := by decide +kernel
theorem dX2_faultAsSenses_42 : decode cX2_faultAsSenses 42 = .ok (.aload_n 0, 1) := by decide +kernel
theorem dX2_faultAsSenses_43 : decode cX2_faultAsSenses 43 = .ok (.getfield 15, 3) := by decide +kernel
theorem dX2_faultAsSenses_46 : decode cX2_faultAsSenses 46 = .ok (.ireturn, 1) := by decide +kernel
theorem dX2_isSaying_0 : decode cX2_isSaying 0 = .ok (.aload_n 0, 1) := by decide +kernel
theorem dX2_isSaying_1 : decode cX2_isSaying 1 = .ok (.invokevirtual 30, 3) := by decide +kernel
theorem dX2_isSaying_4 : decode cX2_isSaying 4 = .ok (.aload_n 0, 1) := by decide +kernel
theorem dX2_isSaying_5 : decode cX2_isSaying 5 = .ok (.getfield 15, 3) := by decide +kernel
theorem dX2_isSaying_8 : decode cX2_isSaying 8 = .ok (.if_icmp .ne 23, 3) := by decide +kernel
theorem dX2_isSaying_11 : decode cX2_isSaying 11 = .ok (.aload_n 0, 1) := by decide +kernel
theorem dX2_isSaying_12 : decode cX2_isSaying 12 = .ok (.aload_n 0, 1) := by decide +kernel
theorem dX2_isSaying_13 : decode cX2_isSaying 13 = .ok (.getfield 15, 3) := by decide +kernel
theorem dX2_isSaying_16 : decode cX2_isSaying 16 = .ok (.iconst 1, 1) := by decide +kernel
theorem dX2_isSaying_17 : decode cX2_isSaying 17 = .ok (.isub, 1) := by decide +kernel
theorem dX2_isSaying_18 : decode cX2_isSaying 18 = .ok (.invokevirtual 19, 3) := by decide +kernel
theorem dX2_isSaying_21 : decode cX2_isSaying 21 = .ok (.invokestatic 23, 3) := by decide +kernel
theorem dX2_isSaying_24 : decode cX2_isSaying 24 = .ok (.ifCond .eq 7, 3) := by decide +kernel
theorem dX2_isSaying_27 : decode cX2_isSaying 27 = .ok (.iconst 1, 1) := by decide +kernel
theorem dX2_isSaying_28 : decode cX2_isSaying 28 = .ok (.goto 4, 3) := by decide +kernel
theorem dX2_isSaying_31 : decode cX2_isSaying 31 = .ok (.iconst 0, 1) := by decide +kernel
theorem dX2_isSaying_32 : decode cX2_isSaying 32 = .ok (.ireturn, 1) := by decide +kernel
theorem dX2_isSenses_0 : decode cX2_isSenses 0 = .ok (.aload_n 0, 1) := by decide +kernel
theorem dX2_isSenses_1 : decode cX2_isSenses 1 = .ok (.getfield 15, 3) := by decide +kernel
theorem dX2_isSenses_4 : decode cX2_isSenses 4 = .ok (.bipush 6, 2) := by decide +kernel
theorem dX2_isSenses_6 : decode cX2_isSenses 6 = .ok (.if_icmp .ne 18, 3) := by decide +kernel
theorem dX2_isSenses_9 : decode cX2_isSenses 9 = .ok (.aload_n 0, 1) := by decide +kernel
theorem dX2_isSenses_10 : decode cX2_isSenses 10 = .ok (.invokevirtual 34, 3) := by decide +kernel
theorem dX2_isSenses_13 : decode cX2_isSenses 13 = .ok (.aload_n 0, 1) := by decide +kernel
theorem dX2_isSenses_14 : decode cX2_isSenses 14 = .ok (.getfield 15, 3) := by decide +kernel
theorem dX2_isSenses_17 : decode cX2_isSenses 17 = .ok (.if_icmp .ne 7, 3) := by decide +kernel
theorem dX2_isSenses_20 : decode cX2_isSenses 20 = .ok (.iconst 1, 1) := by decide +kernel
theorem dX2_isSenses_21 : decode cX2_isSenses 21 = .ok (.goto 4, 3) := by decide +kernel
theorem dX2_isSenses_24 : decode cX2_isSenses 24 = .ok (.iconst 0, 1) := by decide +kernel
theorem dX2_isSenses_25 : decode cX2_isSenses 25 = .ok (.ireturn, 1) := by decide +kernel
theorem dX2_isWordLetter_0 : decode cX2_isWordLetter 0 = .ok (.iload_n 0, 1) := by decide +kernel
theorem dX2_isWordLetter_1 : decode cX2_isWordLetter 1 = .ok (.bipush 97, 2) := by decide +kernel
theorem dX2_isWordLetter_3 : decode cX2_isWordLetter 3 = .ok (.if_icmp .lt 13, 3) := by decide +kernel
theorem dX2_isWordLetter_6 : decode cX2_isWordLetter 6 = .ok (.iload_n 0, 1) := by decide +kernel
theorem dX2_isWordLetter_7 : decode cX2_isWordLetter 7 = .ok (.bipush 102, 2) := by decide +kernel
theorem dX2_isWordLetter_9 : decode cX2_isWordLetter 9 = .ok (.if_icmp .gt 7, 3) := by decide +kernel
theorem dX2_isWordLetter_12 : decode cX2_isWordLetter 12 = .ok (.iconst 1, 1) := by decide +kernel
theorem dX2_isWordLetter_13 : decode cX2_isWordLetter 13 = .ok (.goto 4, 3) := by decide +kernel
theorem dX2_isWordLetter_16 : decode cX2_isWordLetter 16 = .ok (.iconst 0, 1) := by decide +kernel
theorem dX2_isWordLetter_17 : decode cX2_isWordLetter 17 = .ok (.ireturn, 1) := by decide +kernel
theorem dX2_isJoining_0 : decode cX2_isJoining 0 = .ok (.iload_n 0, 1) := by decide +kernel
theorem dX2_isJoining_1 : decode cX2_isJoining 1 = .ok (.bipush 38, 2) := by decide +kernel
theorem dX2_isJoining_3 : decode cX2_isJoining 3 = .ok (.if_icmp .eq 9, 3) := by decide +kernel
theorem dX2_isJoining_6 : decode cX2_isJoining 6 = .ok (.iload_n 0, 1) := by decide +kernel
theorem dX2_isJoining_7 : decode cX2_isJoining 7 = .ok (.bipush 43, 2) := by decide +kernel
theorem dX2_isJoining_9 : decode cX2_isJoining 9 = .ok (.if_icmp .ne 7, 3) := by decide +kernel
theorem dX2_isJoining_12 : decode cX2_isJoining 12 = .ok (.iconst 1, 1) := by decide +kernel
theorem dX2_isJoining_13 : decode cX2_isJoining 13 = .ok (.goto 4, 3) := by decide +kernel
theorem dX2_isJoining_16 : decode cX2_isJoining 16 = .ok (.iconst 0, 1) := by decide +kernel
theorem dX2_isJoining_17 : decode cX2_isJoining 17 = .ok (.ireturn, 1) := by decide +kernel
theorem dX3_init_0 : decode cX3_init 0 = .ok (.aload_n 0, 1) := by decide +kernel
theorem dX3_init_1 : decode cX3_init 1 = .ok (.invokespecial 3, 3) := by decide +kernel
theorem dX3_init_4 : decode cX3_init 4 = .ok (.aload_n 0, 1) := by decide +kernel
theorem dX3_init_5 : decode cX3_init 5 = .ok (.iconst 4, 1) := by decide +kernel
theorem dX3_init_6 : decode cX3_init 6 = .ok (.newarray .int, 2) := by decide +kernel
theorem dX3_init_8 : decode cX3_init 8 = .ok (.putfield 9, 3) := by decide +kernel
theorem dX3_init_11 : decode cX3_init 11 = .ok (.aload_n 0, 1) := by decide +kernel
theorem dX3_init_12 : decode cX3_init 12 = .ok (.iconst 4, 1) := by decide +kernel
theorem dX3_init_13 : decode cX3_init 13 = .ok (.newarray .boolean, 2) := by decide +kernel
theorem dX3_init_15 : decode cX3_init 15 = .ok (.putfield 15, 3) := by decide +kernel
theorem dX3_init_18 : decode cX3_init 18 = .ok (.aload_n 0, 1) := by decide +kernel
theorem dX3_init_19 : decode cX3_init 19 = .ok (.iconst 4, 1) := by decide +kernel
theorem dX3_init_20 : decode cX3_init 20 = .ok (.newarray .boolean, 2) := by decide +kernel
theorem dX3_init_22 : decode cX3_init 22 = .ok (.putfield 19, 3) := by decide +kernel
theorem dX3_init_25 : decode cX3_init 25 = .ok (.aload_n 0, 1) := by decide +kernel
theorem dX3_init_26 : decode cX3_init 26 = .ok (.iconst 4, 1) := by decide +kernel
theorem dX3_init_27 : decode cX3_init 27 = .ok (.newarray .long, 2) := by decide +kernel
theorem dX3_init_29 : decode cX3_init 29 = .ok (.putfield 22, 3) := by decide +kernel
theorem dX3_init_32 : decode cX3_init 32 = .ok (.aload_n 0, 1) := by decide +kernel
theorem dX3_init_33 : decode cX3_init 33 = .ok (.iconst 4, 1) := by decide +kernel
theorem dX3_init_34 : decode cX3_init 34 = .ok (.newarray .long, 2) := by decide +kernel
theorem dX3_init_36 : decode cX3_init 36 = .ok (.putfield 26, 3) := by decide +kernel
theorem dX3_init_39 : decode cX3_init 39 = .ok (.aload_n 0, 1) := by decide +kernel
theorem dX3_init_40 : decode cX3_init 40 = .ok (.sipush 640, 3) := by decide +kernel
theorem dX3_init_43 : decode cX3_init 43 = .ok (.newarray .long, 2) := by decide +kernel
theorem dX3_init_45 : decode cX3_init 45 = .ok (.putfield 29, 3) := by decide +kernel
theorem dX3_init_48 : decode cX3_init 48 = .ok (.return_, 1) := by decide +kernel
theorem dX3_isNone_0 : decode cX3_isNone 0 = .ok (.aload_n 0, 1) := by decide +kernel
theorem dX3_isNone_1 : decode cX3_isNone 1 = .ok (.getfield 32, 3) := by decide +kernel
theorem dX3_isNone_4 : decode cX3_isNone 4 = .ok (.ifCond .ne 7, 3) := by decide +kernel
theorem dX3_isNone_7 : decode cX3_isNone 7 = .ok (.iconst 1, 1) := by decide +kernel
theorem dX3_isNone_8 : decode cX3_isNone 8 = .ok (.goto 4, 3) := by decide +kernel
theorem dX3_isNone_11 : decode cX3_isNone 11 = .ok (.iconst 0, 1) := by decide +kernel
theorem dX3_isNone_12 : decode cX3_isNone 12 = .ok (.ireturn, 1) := by decide +kernel
theorem dX3_hasReading_0 : decode cX3_hasReading 0 = .ok (.iload_n 1, 1) := by decide +kernel
theorem dX3_hasReading_1 : decode cX3_hasReading 1 = .ok (.ifCond .lt 15, 3) := by decide +kernel
theorem dX3_hasReading_4 : decode cX3_hasReading 4 = .ok (.iload_n 1, 1) := by decide +kernel
theorem dX3_hasReading_5 : decode cX3_hasReading 5 = .ok (.aload_n 0, 1) := by decide +kernel
theorem dX3_hasReading_6 : decode cX3_hasReading 6 = .ok (.getfield 36, 3) := by decide +kernel
theorem dX3_hasReading_9 : decode cX3_hasReading 9 = .ok (.if_icmp .ge 7, 3) := by decide +kernel
theorem dX3_hasReading_12 : decode cX3_hasReading 12 = .ok (.iconst 1, 1) := by decide +kernel
theorem dX3_hasReading_13 : decode cX3_hasReading 13 = .ok (.goto 4, 3) := by decide +kernel
theorem dX3_hasReading_16 : decode cX3_hasReading 16 = .ok (.iconst 0, 1) := by decide +kernel
theorem dX3_hasReading_17 : decode cX3_hasReading 17 = .ok (.ireturn, 1) := by decide +kernel
theorem dX3_truth_0 : decode cX3_truth 0 = .ok (.iload_n 1, 1) := by decide +kernel
theorem dX3_truth_1 : decode cX3_truth 1 = .ok (.ifCond .lt 29, 3) := by decide +kernel
theorem dX3_truth_4 : decode cX3_truth 4 = .ok (.iload_n 1, 1) := by decide +kernel
theorem dX3_truth_5 : decode cX3_truth 5 = .ok (.aload_n 0, 1) := by decide +kernel
theorem dX3_truth_6 : decode cX3_truth 6 = .ok (.getfield 36, 3) := by decide +kernel
theorem dX3_truth_9 : decode cX3_truth 9 = .ok (.if_icmp .ge 21, 3) := by decide +kernel
theorem dX3_truth_12 : decode cX3_truth 12 = .ok (.iload_n 1, 1) := by decide +kernel
theorem dX3_truth_13 : decode cX3_truth 13 = .ok (.aload_n 0, 1) := by decide +kernel
theorem dX3_truth_14 : decode cX3_truth 14 = .ok (.getfield 29, 3) := by decide +kernel
theorem dX3_truth_17 : decode cX3_truth 17 = .ok (.arraylength, 1) := by decide +kernel
theorem dX3_truth_18 : decode cX3_truth 18 = .ok (.if_icmp .ge 12, 3) := by decide +kernel
theorem dX3_truth_21 : decode cX3_truth 21 = .ok (.aload_n 0, 1) := by decide +kernel
theorem dX3_truth_22 : decode cX3_truth 22 = .ok (.getfield 29, 3) := by decide +kernel
theorem dX3_truth_25 : decode cX3_truth 25 = .ok (.iload_n 1, 1) := by decide +kernel
theorem dX3_truth_26 : decode cX3_truth 26 = .ok (.laload, 1) := by decide +kernel
theorem dX3_truth_27 : decode cX3_truth 27 = .ok (.goto 4, 3) := by decide +kernel
theorem dX3_truth_30 : decode cX3_truth 30 = .ok (.lconst 0, 1) := by decide +kernel
theorem dX3_truth_31 : decode cX3_truth 31 = .ok (.lreturn, 1) := by decide +kernel
theorem dX3_read_0 : decode cX3_read 0 = .ok (.aload_n 0, 1) := by decide +kernel
theorem dX3_read_1 : decode cX3_read 1 = .ok (.iconst 0, 1) := by decide +kernel
theorem dX3_read_2 : decode cX3_read 2 = .ok (.putfield 32, 3) := by decide +kernel
theorem dX3_read_5 : decode cX3_read 5 = .ok (.iconst 0, 1) := by decide +kernel
theorem dX3_read_6 : decode cX3_read 6 = .ok (.istore_n 2, 1) := by decide +kernel
theorem dX3_read_7 : decode cX3_read 7 = .ok (.iconst 0, 1) := by decide +kernel
theorem dX3_read_8 : decode cX3_read 8 = .ok (.istore_n 3, 1) := by decide +kernel
theorem dX3_read_9 : decode cX3_read 9 = .ok (.iconst 0, 1) := by decide +kernel
theorem dX3_read_10 : decode cX3_read 10 = .ok (.istore 4, 2) := by decide +kernel
theorem dX3_read_12 : decode cX3_read 12 = .ok (.iload 4, 2) := by decide +kernel
theorem dX3_read_14 : decode cX3_read 14 = .ok (.aload_n 1, 1) := by decide +kernel
theorem dX3_read_15 : decode cX3_read 15 = .ok (.getfield 39, 3) := by decide +kernel
theorem dX3_read_18 : decode cX3_read 18 = .ok (.if_icmp .ge 66, 3) := by decide +kernel
theorem dX3_read_21 : decode cX3_read 21 = .ok (.aload_n 1, 1) := by decide +kernel
theorem dX3_read_22 : decode cX3_read 22 = .ok (.iload 4, 2) := by decide +kernel
theorem dX3_read_24 : decode cX3_read 24 = .ok (.invokevirtual 44, 3) := by decide +kernel
theorem dX3_read_27 : decode cX3_read 27 = .ok (.istore 5, 2) := by decide +kernel
theorem dX3_read_29 : decode cX3_read 29 = .ok (.iload 5, 2) := by decide +kernel
theorem dX3_read_31 : decode cX3_read 31 = .ok (.bipush 110, 2) := by decide +kernel
theorem dX3_read_33 : decode cX3_read 33 = .ok (.if_icmp .ne 8, 3) := by decide +kernel
theorem dX3_read_36 : decode cX3_read 36 = .ok (.iconst 1, 1) := by decide +kernel
theorem dX3_read_37 : decode cX3_read 37 = .ok (.istore_n 3, 1) := by decide +kernel
theorem dX3_read_38 : decode cX3_read 38 = .ok (.goto 40, 3) := by decide +kernel
theorem dX3_read_41 : decode cX3_read 41 = .ok (.iload 5, 2) := by decide +kernel
theorem dX3_read_43 : decode cX3_read 43 = .ok (.invokestatic 48, 3) := by decide +kernel
theorem dX3_read_46 : decode cX3_read 46 = .ok (.ifCond .eq 19, 3) := by decide +kernel
theorem dX3_read_49 : decode cX3_read 49 = .ok (.iload 5, 2) := by decide +kernel
theorem dX3_read_51 : decode cX3_read 51 = .ok (.bipush 43, 2) := by decide +kernel
theorem dX3_read_53 : decode cX3_read 53 = .ok (.if_icmp .ne 7, 3) := by decide +kernel
theorem dX3_read_56 : decode cX3_read 56 = .ok (.iconst 1, 1) := by decide +kernel
theorem dX3_read_57 : decode cX3_read 57 = .ok (.goto 4, 3) := by decide +kernel
theorem dX3_read_60 : decode cX3_read 60 = .ok (.iconst 0, 1) := by decide +kernel
theorem dX3_read_61 : decode cX3_read 61 = .ok (.istore_n 2, 1) := by decide +kernel
theorem dX3_read_62 : decode cX3_read 62 = .ok (.goto 16, 3) := by decide +kernel
theorem dX3_read_65 : decode cX3_read 65 = .ok (.aload_n 0, 1) := by decide +kernel
theorem dX3_read_66 : decode cX3_read 66 = .ok (.iload_n 2, 1) := by decide +kernel
theorem dX3_read_67 : decode cX3_read 67 = .ok (.iload_n 3, 1) := by decide +kernel
theorem dX3_read_68 : decode cX3_read 68 = .ok (.iload 5, 2) := by decide +kernel
theorem dX3_read_70 : decode cX3_read 70 = .ok (.bipush 97, 2) := by decide +kernel
theorem dX3_read_72 : decode cX3_read 72 = .ok (.isub, 1) := by decide +kernel
theorem dX3_read_73 : decode cX3_read 73 = .ok (.invokevirtual 52, 3) := by decide +kernel
theorem dX3_read_76 : decode cX3_read 76 = .ok (.iconst 0, 1) := by decide +kernel
theorem dX3_read_77 : decode cX3_read 77 = .ok (.istore_n 3, 1) := by decide +kernel
theorem dX3_read_78 : decode cX3_read 78 = .ok (.iinc 4 1, 3) := by decide +kernel
theorem dX3_read_81 : decode cX3_read 81 = .ok (.goto (-69), 3) := by decide +kernel
theorem dX3_read_84 : decode cX3_read 84 = .ok (.return_, 1) := by decide +kernel
theorem dX3_append_0 : decode cX3_append 0 = .ok (.aload_n 0, 1) := by decide +kernel
theorem dX3_append_1 : decode cX3_append 1 = .ok (.getfield 32, 3) := by decide +kernel
theorem dX3_append_4 : decode cX3_append 4 = .ok (.ifCond .lt 11, 3) := by decide +kernel
theorem dX3_append_7 : decode cX3_append 7 = .ok (.aload_n 0, 1) := by decide +kernel
theorem dX3_append_8 : decode cX3_append 8 = .ok (.getfield 32, 3) := by decide +kernel
theorem dX3_append_11 : decode cX3_append 11 = .ok (.iconst 4, 1) := by decide +kernel
theorem dX3_append_12 : decode cX3_append 12 = .ok (.if_icmp .lt 4, 3) := by decide +kernel
theorem dX3_append_15 : decode cX3_append 15 = .ok (.return_, 1) := by decide +kernel
theorem dX3_append_16 : decode cX3_append 16 = .ok (.aload_n 0, 1) := by decide +kernel
theorem dX3_append_17 : decode cX3_append 17 = .ok (.getfield 19, 3) := by decide +kernel
theorem dX3_append_20 : decode cX3_append 20 = .ok (.aload_n 0, 1) := by decide +kernel
theorem dX3_append_21 : decode cX3_append 21 = .ok (.getfield 32, 3) := by decide +kernel
theorem dX3_append_24 : decode cX3_append 24 = .ok (.iload_n 1, 1) := by decide +kernel
theorem dX3_append_25 : decode cX3_append 25 = .ok (.bastore, 1) := by decide +kernel
theorem dX3_append_26 : decode cX3_append 26 = .ok (.aload_n 0, 1) := by decide +kernel
theorem dX3_append_27 : decode cX3_append 27 = .ok (.getfield 15, 3) := by decide +kernel
theorem dX3_append_30 : decode cX3_append 30 = .ok (.aload_n 0, 1) := by decide +kernel
theorem dX3_append_31 : decode cX3_append 31 = .ok (.getfield 32, 3) := by decide +kernel
theorem dX3_append_34 : decode cX3_append 34 = .ok (.iload_n 2, 1) := by decide +kernel
theorem dX3_append_35 : decode cX3_append 35 = .ok (.bastore, 1) := by decide +kernel
theorem dX3_append_36 : decode cX3_append 36 = .ok (.aload_n 0, 1) := by decide +kernel
theorem dX3_append_37 : decode cX3_append 37 = .ok (.getfield 9, 3) := by decide +kernel
theorem dX3_append_40 : decode cX3_append 40 = .ok (.aload_n 0, 1) := by decide +kernel
theorem dX3_append_41 : decode cX3_append 41 = .ok (.getfield 32, 3) := by decide +kernel
theorem dX3_append_44 : decode cX3_append 44 = .ok (.iload_n 3, 1) := by decide +kernel
theorem dX3_append_45 : decode cX3_append 45 = .ok (.iastore, 1) := by decide +kernel
theorem dX3_append_46 : decode cX3_append 46 = .ok (.aload_n 0, 1) := by decide +kernel
theorem dX3_append_47 : decode cX3_append 47 = .ok (.dup, 1) := by decide +kernel
theorem dX3_append_48 : decode cX3_append 48 = .ok (.getfield 32, 3) := by decide +kernel
theorem dX3_append_51 : decode cX3_append 51 = .ok (.iconst 1, 1) := by decide +kernel
theorem dX3_append_52 : decode cX3_append 52 = .ok (.iadd, 1) := by decide +kernel
theorem dX3_append_53 : decode cX3_append 53 = .ok (.putfield 32, 3) := by decide +kernel
theorem dX3_append_56 : decode cX3_append 56 = .ok (.return_, 1) := by decide +kernel
theorem dX3_become_0 : decode cX3_become 0 = .ok (.aload_n 0, 1) := by decide +kernel
theorem dX3_become_1 : decode cX3_become 1 = .ok (.iconst 0, 1) := by decide +kernel
theorem dX3_become_2 : decode cX3_become 2 = .ok (.putfield 32, 3) := by decide +kernel
theorem dX3_become_5 : decode cX3_become 5 = .ok (.iconst 0, 1) := by decide +kernel
theorem dX3_become_6 : decode cX3_become 6 = .ok (.istore_n 2, 1) := by decide +kernel
theorem dX3_become_7 : decode cX3_become 7 = .ok (.iload_n 2, 1) := by decide +kernel
theorem dX3_become_8 : decode cX3_become 8 = .ok (.aload_n 1, 1) := by decide +kernel
theorem dX3_become_9 : decode cX3_become 9 = .ok (.getfield 32, 3) := by decide +kernel
theorem dX3_become_12 : decode cX3_become 12 = .ok (.if_icmp .ge 36, 3) := by decide +kernel
theorem dX3_become_15 : decode cX3_become 15 = .ok (.iload_n 2, 1) := by decide +kernel
theorem dX3_become_16 : decode cX3_become 16 = .ok (.iconst 4, 1) := by decide +kernel
theorem dX3_become_17 : decode cX3_become 17 = .ok (.if_icmp .ge 31, 3) := by decide +kernel
theorem dX3_become_20 : decode cX3_become 20 = .ok (.aload_n 0, 1) := by decide +kernel
theorem dX3_become_21 : decode cX3_become 21 = .ok (.aload_n 1, 1) := by decide +kernel
theorem dX3_become_22 : decode cX3_become 22 = .ok (.getfield 19, 3) := by decide +kernel
theorem dX3_become_25 : decode cX3_become 25 = .ok (.iload_n 2, 1) := by decide +kernel
theorem dX3_become_26 : decode cX3_become 26 = .ok (.baload, 1) := by decide +kernel
theorem dX3_become_27 : decode cX3_become 27 = .ok (.aload_n 1, 1) := by decide +kernel
theorem dX3_become_28 : decode cX3_become 28 = .ok (.getfield 15, 3) := by decide +kernel
theorem dX3_become_31 : decode cX3_become 31 = .ok (.iload_n 2, 1) := by decide +kernel
theorem dX3_become_32 : decode cX3_become 32 = .ok (.baload, 1) := by decide +kernel
theorem dX3_become_33 : decode cX3_become 33 = .ok (.aload_n 1, 1) := by decide +kernel
theorem dX3_become_34 : decode cX3_become 34 = .ok (.getfield 9, 3) := by decide +kernel
theorem dX3_become_37 : decode cX3_become 37 = .ok (.iload_n 2, 1) := by decide +kernel
theorem dX3_become_38 : decode cX3_become 38 = .ok (.iaload, 1) := by decide +kernel
theorem dX3_become_39 : decode cX3_become 39 = .ok (.invokevirtual 52, 3) := by decide +kernel
theorem dX3_become_42 : decode cX3_become 42 = .ok (.iinc 2 1, 3) := by decide +kernel
theorem dX3_become_45 : decode cX3_become 45 = .ok (.goto (-38), 3) := by decide +kernel
theorem dX3_become_48 : decode cX3_become 48 = .ok (.return_, 1) := by decide +kernel
theorem dX3_workOut_0 : decode cX3_workOut 0 = .ok (.aload_n 0, 1) := by decide +kernel
theorem dX3_workOut_1 : decode cX3_workOut 1 = .ok (.aload_n 1, 1) := by decide +kernel
theorem dX3_workOut_2 : decode cX3_workOut 2 = .ok (.invokevirtual 56, 3) := by decide +kernel
theorem dX3_workOut_5 : decode cX3_workOut 5 = .ok (.aload_n 0, 1) := by decide +kernel
theorem dX3_workOut_6 : decode cX3_workOut 6 = .ok (.invokevirtual 60, 3) := by decide +kernel
theorem dX3_workOut_9 : decode cX3_workOut 9 = .ok (.return_, 1) := by decide +kernel
theorem dX3_workOutReadings_0 : decode cX3_workOutReadings 0 = .ok (.aload_n 0, 1) := by decide +kernel
theorem dX3_workOutReadings_1 : decode cX3_workOutReadings 1 = .ok (.iconst 0, 1) := by decide +kernel
theorem dX3_workOutReadings_2 : decode cX3_workOutReadings 2 = .ok (.putfield 36, 3) := by decide +kernel
theorem dX3_workOutReadings_5 : decode cX3_workOutReadings 5 = .ok (.aload_n 0, 1) := by decide +kernel
theorem dX3_workOutReadings_6 : decode cX3_workOutReadings 6 = .ok (.invokevirtual 63, 3) := by decide +kernel
theorem dX3_workOutReadings_9 : decode cX3_workOutReadings 9 = .ok (.ifCond .eq 4, 3) := by decide +kernel
theorem dX3_workOutReadings_12 : decode cX3_workOutReadings 12 = .ok (.return_, 1) := by decide +kernel
theorem dX3_workOutReadings_13 : decode cX3_workOutReadings 13 = .ok (.aload_n 0, 1) := by decide +kernel
theorem dX3_workOutReadings_14 : decode cX3_workOutReadings 14 = .ok (.aload_n 1, 1) := by decide +kernel
theorem dX3_workOutReadings_15 : decode cX3_workOutReadings 15 = .ok (.invokevirtual 67, 3) := by decide +kernel
theorem dX3_workOutReadings_18 : decode cX3_workOutReadings 18 = .ok (.iconst 1, 1) := by decide +kernel
theorem dX3_workOutReadings_19 : decode cX3_workOutReadings 19 = .ok (.aload_n 0, 1) := by decide +kernel
theorem dX3_workOutReadings_20 : decode cX3_workOutReadings 20 = .ok (.invokevirtual 70, 3) := by decide +kernel
theorem dX3_workOutReadings_23 : decode cX3_workOutReadings 23 = .ok (.ishl, 1) := by decide +kernel
theorem dX3_workOutReadings_24 : decode cX3_workOutReadings 24 = .ok (.istore_n 2, 1) := by decide +kernel
theorem dX3_workOutReadings_25 : decode cX3_workOutReadings 25 = .ok (.iconst 1, 1) := by decide +kernel
theorem dX3_workOutReadings_26 : decode cX3_workOutReadings 26 = .ok (.aload_n 0, 1) := by decide +kernel
theorem dX3_workOutReadings_27 : decode cX3_workOutReadings 27 = .ok (.getfield 32, 3) := by decide +kernel
theorem dX3_workOutReadings_30 : decode cX3_workOutReadings 30 = .ok (.ishl, 1) := by decide +kernel
theorem dX3_workOutReadings_31 : decode cX3_workOutReadings 31 = .ok (.istore_n 3, 1) := by decide +kernel
theorem dX3_workOutReadings_32 : decode cX3_workOutReadings 32 = .ok (.iconst 0, 1) := by decide +kernel
theorem dX3_workOutReadings_33 : decode cX3_workOutReadings 33 = .ok (.istore 4, 2) := by decide +kernel
theorem dX3_workOutReadings_35 : decode cX3_workOutReadings 35 = .ok (.iload 4, 2) := by decide +kernel
theorem dX3_workOutReadings_37 : decode cX3_workOutReadings 37 = .ok (.aload_n 0, 1) := by decide +kernel
theorem dX3_workOutReadings_38 : decode cX3_workOutReadings 38 = .ok (.invokevirtual 74, 3) := by decide +kernel
theorem dX3_workOutReadings_41 : decode cX3_workOutReadings 41 = .ok (.if_icmp .ge 88, 3) := by decide +kernel
theorem dX3_workOutReadings_44 : decode cX3_workOutReadings 44 = .ok (.iconst 0, 1) := by decide +kernel
theorem dX3_workOutReadings_45 : decode cX3_workOutReadings 45 = .ok (.istore 5, 2) := by decide +kernel
theorem dX3_workOutReadings_47 : decode cX3_workOutReadings 47 = .ok (.iload 5, 2) := by decide +kernel
theorem dX3_workOutReadings_49 : decode cX3_workOutReadings 49 = .ok (.iload_n 2, 1) := by decide +kernel
theorem dX3_workOutReadings_50 : decode cX3_workOutReadings 50 = .ok (.if_icmp .ge 73, 3) := by decide +kernel
theorem dX3_workOutReadings_53 : decode cX3_workOutReadings 53 = .ok (.aload_n 0, 1) := by decide +kernel
theorem dX3_workOutReadings_54 : decode cX3_workOutReadings 54 = .ok (.iload 5, 2) := by decide +kernel
theorem dX3_workOutReadings_56 : decode cX3_workOutReadings 56 = .ok (.invokevirtual 77, 3) := by decide +kernel
theorem dX3_workOutReadings_59 : decode cX3_workOutReadings 59 = .ok (.istore 6, 2) := by decide +kernel
theorem dX3_workOutReadings_61 : decode cX3_workOutReadings 61 = .ok (.iconst 0, 1) := by decide +kernel
theorem dX3_workOutReadings_62 : decode cX3_workOutReadings 62 = .ok (.istore 7, 2) := by decide +kernel
theorem dX3_workOutReadings_64 : decode cX3_workOutReadings 64 = .ok (.iload 7, 2) := by decide +kernel
theorem dX3_workOutReadings_66 : decode cX3_workOutReadings 66 = .ok (.iload_n 3, 1) := by decide +kernel
theorem dX3_workOutReadings_67 : decode cX3_workOutReadings 67 = .ok (.if_icmp .ge 50, 3) := by decide +kernel
theorem dX3_workOutReadings_70 : decode cX3_workOutReadings 70 = .ok (.aload_n 0, 1) := by decide +kernel
theorem dX3_workOutReadings_71 : decode cX3_workOutReadings 71 = .ok (.getfield 36, 3) := by decide +kernel
theorem dX3_workOutReadings_74 : decode cX3_workOutReadings 74 = .ok (.aload_n 0, 1) := by decide +kernel
theorem dX3_workOutReadings_75 : decode cX3_workOutReadings 75 = .ok (.getfield 29, 3) := by decide +kernel
theorem dX3_workOutReadings_78 : decode cX3_workOutReadings 78 = .ok (.arraylength, 1) := by decide +kernel
theorem dX3_workOutReadings_79 : decode cX3_workOutReadings 79 = .ok (.if_icmp .ge 38, 3) := by decide +kernel
theorem dX3_workOutReadings_82 : decode cX3_workOutReadings 82 = .ok (.aload_n 0, 1) := by decide +kernel
theorem dX3_workOutReadings_83 : decode cX3_workOutReadings 83 = .ok (.getfield 29, 3) := by decide +kernel
theorem dX3_workOutReadings_86 : decode cX3_workOutReadings 86 = .ok (.aload_n 0, 1) := by decide +kernel
theorem dX3_workOutReadings_87 : decode cX3_workOutReadings 87 = .ok (.getfield 36, 3) := by decide +kernel
theorem dX3_workOutReadings_90 : decode cX3_workOutReadings 90 = .ok (.aload_n 0, 1) := by decide +kernel
theorem dX3_workOutReadings_91 : decode cX3_workOutReadings 91 = .ok (.iload 4, 2) := by decide +kernel
theorem dX3_workOutReadings_93 : decode cX3_workOutReadings 93 = .ok (.iload 6, 2) := by decide +kernel
theorem dX3_workOutReadings_95 : decode cX3_workOutReadings 95 = .ok (.iload 7, 2) := by decide +kernel
theorem dX3_workOutReadings_97 : decode cX3_workOutReadings 97 = .ok (.invokevirtual 80, 3) := by decide +kernel
theorem dX3_workOutReadings_100 : decode cX3_workOutReadings 100 = .ok (.lastore, 1) := by decide +kernel
theorem dX3_workOutReadings_101 : decode cX3_workOutReadings 101 = .ok (.aload_n 0, 1) := by decide +kernel
theorem dX3_workOutReadings_102 : decode cX3_workOutReadings 102 = .ok (.dup, 1) := by decide +kernel
theorem dX3_workOutReadings_103 : decode cX3_workOutReadings 103 = .ok (.getfield 36, 3) := by decide +kernel
theorem dX3_workOutReadings_106 : decode cX3_workOutReadings 106 = .ok (.iconst 1, 1) := by decide +kernel
theorem dX3_workOutReadings_107 : decode cX3_workOutReadings 107 = .ok (.iadd, 1) := by decide +kernel
theorem dX3_workOutReadings_108 : decode cX3_workOutReadings 108 = .ok (.putfield 36, 3) := by decide +kernel
theorem dX3_workOutReadings_111 : decode cX3_workOutReadings 111 = .ok (.iinc 7 1, 3) := by decide +kernel
theorem dX3_workOutReadings_114 : decode cX3_workOutReadings 114 = .ok (.goto (-50), 3) := by decide +kernel
theorem dX3_workOutReadings_117 : decode cX3_workOutReadings 117 = .ok (.iinc 5 1, 3) := by decide +kernel
theorem dX3_workOutReadings_120 : decode cX3_workOutReadings 120 = .ok (.goto (-73), 3) := by decide +kernel
theorem dX3_workOutReadings_123 : decode cX3_workOutReadings 123 = .ok (.iinc 4 1, 3) := by decide +kernel
theorem dX3_workOutReadings_126 : decode cX3_workOutReadings 126 = .ok (.goto (-91), 3) := by decide +kernel
theorem dX3_workOutReadings_129 : decode cX3_workOutReadings 129 = .ok (.return_, 1) := by decide +kernel
theorem dX3_workOutWords_0 : decode cX3_workOutWords 0 = .ok (.iconst 0, 1) := by decide +kernel
theorem dX3_workOutWords_1 : decode cX3_workOutWords 1 = .ok (.istore_n 2, 1) := by decide +kernel
theorem dX3_workOutWords_2 : decode cX3_workOutWords 2 = .ok (.iload_n 2, 1) := by decide +kernel
theorem dX3_workOutWords_3 : decode cX3_workOutWords 3 = .ok (.aload_n 0, 1) := by decide +kernel
theorem dX3_workOutWords_4 : decode cX3_workOutWords 4 = .ok (.getfield 32, 3) := by decide +kernel
theorem dX3_workOutWords_7 : decode cX3_workOutWords 7 = .ok (.if_icmp .ge 85, 3) := by decide +kernel
theorem dX3_workOutWords_10 : decode cX3_workOutWords 10 = .ok (.iload_n 2, 1) := by decide +kernel
theorem dX3_workOutWords_11 : decode cX3_workOutWords 11 = .ok (.iconst 4, 1) := by decide +kernel
theorem dX3_workOutWords_12 : decode cX3_workOutWords 12 = .ok (.if_icmp .ge 80, 3) := by decide +kernel
theorem dX3_workOutWords_15 : decode cX3_workOutWords 15 = .ok (.aload_n 0, 1) := by decide +kernel
theorem dX3_workOutWords_16 : decode cX3_workOutWords 16 = .ok (.getfield 9, 3) := by decide +kernel
theorem dX3_workOutWords_19 : decode cX3_workOutWords 19 = .ok (.iload_n 2, 1) := by decide +kernel
theorem dX3_workOutWords_20 : decode cX3_workOutWords 20 = .ok (.iaload, 1) := by decide +kernel
theorem dX3_workOutWords_21 : decode cX3_workOutWords 21 = .ok (.istore_n 3, 1) := by decide +kernel
theorem dX3_workOutWords_22 : decode cX3_workOutWords 22 = .ok (.iload_n 3, 1) := by decide +kernel
theorem dX3_workOutWords_23 : decode cX3_workOutWords 23 = .ok (.ifCond .lt 15, 3) := by decide +kernel
theorem dX3_workOutWords_26 : decode cX3_workOutWords 26 = .ok (.iload_n 3, 1) := by decide +kernel
theorem dX3_workOutWords_27 : decode cX3_workOutWords 27 = .ok (.aload_n 1, 1) := by decide +kernel
theorem dX3_workOutWords_28 : decode cX3_workOutWords 28 = .ok (.arraylength, 1) := by decide +kernel
theorem dX3_workOutWords_29 : decode cX3_workOutWords 29 = .ok (.if_icmp .ge 9, 3) := by decide +kernel
theorem dX3_workOutWords_32 : decode cX3_workOutWords 32 = .ok (.aload_n 1, 1) := by decide +kernel
theorem dX3_workOutWords_33 : decode cX3_workOutWords 33 = .ok (.iload_n 3, 1) := by decide +kernel
theorem dX3_workOutWords_34 : decode cX3_workOutWords 34 = .ok (.iaload, 1) := by decide +kernel
theorem dX3_workOutWords_35 : decode cX3_workOutWords 35 = .ok (.goto 4, 3) := by decide +kernel
theorem dX3_workOutWords_38 : decode cX3_workOutWords 38 = .ok (.iload_n 3, 1) := by decide +kernel
theorem dX3_workOutWords_39 : decode cX3_workOutWords 39 = .ok (.istore 4, 2) := by decide +kernel
theorem dX3_workOutWords_41 : decode cX3_workOutWords 41 = .ok (.aload_n 0, 1) := by decide +kernel
theorem dX3_workOutWords_42 : decode cX3_workOutWords 42 = .ok (.getfield 15, 3) := by decide +kernel
theorem dX3_workOutWords_45 : decode cX3_workOutWords 45 = .ok (.iload_n 2, 1) := by decide +kernel
theorem dX3_workOutWords_46 : decode cX3_workOutWords 46 = .ok (.baload, 1) := by decide +kernel
theorem dX3_workOutWords_47 : decode cX3_workOutWords 47 = .ok (.ifCond .eq 9, 3) := by decide +kernel
theorem dX3_workOutWords_50 : decode cX3_workOutWords 50 = .ok (.ldc2_w 84, 3) := by decide +kernel
theorem dX3_workOutWords_53 : decode cX3_workOutWords 53 = .ok (.goto 4, 3) := by decide +kernel
theorem dX3_workOutWords_56 : decode cX3_workOutWords 56 = .ok (.lconst 0, 1) := by decide +kernel
theorem dX3_workOutWords_57 : decode cX3_workOutWords 57 = .ok (.lstore 5, 2) := by decide +kernel
theorem dX3_workOutWords_59 : decode cX3_workOutWords 59 = .ok (.aload_n 0, 1) := by decide +kernel
theorem dX3_workOutWords_60 : decode cX3_workOutWords 60 = .ok (.getfield 22, 3) := by decide +kernel
theorem dX3_workOutWords_63 : decode cX3_workOutWords 63 = .ok (.iload_n 2, 1) := by decide +kernel
theorem dX3_workOutWords_64 : decode cX3_workOutWords 64 = .ok (.iload_n 3, 1) := by decide +kernel
theorem dX3_workOutWords_65 : decode cX3_workOutWords 65 = .ok (.invokestatic 86, 3) := by decide +kernel
theorem dX3_workOutWords_68 : decode cX3_workOutWords 68 = .ok (.lload 5, 2) := by decide +kernel
theorem dX3_workOutWords_70 : decode cX3_workOutWords 70 = .ok (.lxor, 1) := by decide +kernel
theorem dX3_workOutWords_71 : decode cX3_workOutWords 71 = .ok (.lastore, 1) := by decide +kernel
theorem dX3_workOutWords_72 : decode cX3_workOutWords 72 = .ok (.aload_n 0, 1) := by decide +kernel
theorem dX3_workOutWords_73 : decode cX3_workOutWords 73 = .ok (.getfield 26, 3) := by decide +kernel
theorem dX3_workOutWords_76 : decode cX3_workOutWords 76 = .ok (.iload_n 2, 1) := by decide +kernel
theorem dX3_workOutWords_77 : decode cX3_workOutWords 77 = .ok (.iload 4, 2) := by decide +kernel
theorem dX3_workOutWords_79 : decode cX3_workOutWords 79 = .ok (.invokestatic 86, 3) := by decide +kernel
theorem dX3_workOutWords_82 : decode cX3_workOutWords 82 = .ok (.lload 5, 2) := by decide +kernel
theorem dX3_workOutWords_84 : decode cX3_workOutWords 84 = .ok (.lxor, 1) := by decide +kernel
theorem dX3_workOutWords_85 : decode cX3_workOutWords 85 = .ok (.lastore, 1) := by decide +kernel
theorem dX3_workOutWords_86 : decode cX3_workOutWords 86 = .ok (.iinc 2 1, 3) := by decide +kernel
theorem dX3_workOutWords_89 : decode cX3_workOutWords 89 = .ok (.goto (-87), 3) := by decide +kernel
theorem dX3_workOutWords_92 : decode cX3_workOutWords 92 = .ok (.return_, 1) := by decide +kernel
theorem dX3_countPluses_0 : decode cX3_countPluses 0 = .ok (.iconst 0, 1) := by decide +kernel
theorem dX3_countPluses_1 : decode cX3_countPluses 1 = .ok (.istore_n 1, 1) := by decide +kernel
theorem dX3_countPluses_2 : decode cX3_countPluses 2 = .ok (.iconst 1, 1) := by decide +kernel
theorem dX3_countPluses_3 : decode cX3_countPluses 3 = .ok (.istore_n 2, 1) := by decide +kernel
theorem dX3_countPluses_4 : decode cX3_countPluses 4 = .ok (.iload_n 2, 1) := by decide +kernel
theorem dX3_countPluses_5 : decode cX3_countPluses 5 = .ok (.aload_n 0, 1) := by decide +kernel
theorem dX3_countPluses_6 : decode cX3_countPluses 6 = .ok (.getfield 32, 3) := by decide +kernel
theorem dX3_countPluses_9 : decode cX3_countPluses 9 = .ok (.if_icmp .ge 31, 3) := by decide +kernel
theorem dX3_countPluses_12 : decode cX3_countPluses 12 = .ok (.iload_n 2, 1) := by decide +kernel
theorem dX3_countPluses_13 : decode cX3_countPluses 13 = .ok (.iconst 4, 1) := by decide +kernel
theorem dX3_countPluses_14 : decode cX3_countPluses 14 = .ok (.if_icmp .ge 26, 3) := by decide +kernel
theorem dX3_countPluses_17 : decode cX3_countPluses 17 = .ok (.iload_n 1, 1) := by decide +kernel
theorem dX3_countPluses_18 : decode cX3_countPluses 18 = .ok (.aload_n 0, 1) := by decide +kernel
theorem dX3_countPluses_19 : decode cX3_countPluses 19 = .ok (.getfield 19, 3) := by decide +kernel
theorem dX3_countPluses_22 : decode cX3_countPluses 22 = .ok (.iload_n 2, 1) := by decide +kernel
theorem dX3_countPluses_23 : decode cX3_countPluses 23 = .ok (.baload, 1) := by decide +kernel
theorem dX3_countPluses_24 : decode cX3_countPluses 24 = .ok (.ifCond .eq 7, 3) := by decide +kernel
theorem dX3_countPluses_27 : decode cX3_countPluses 27 = .ok (.iconst 1, 1) := by decide +kernel
theorem dX3_countPluses_28 : decode cX3_countPluses 28 = .ok (.goto 4, 3) := by decide +kernel
theorem dX3_countPluses_31 : decode cX3_countPluses 31 = .ok (.iconst 0, 1) := by decide +kernel
theorem dX3_countPluses_32 : decode cX3_countPluses 32 = .ok (.iadd, 1) := by decide +kernel
theorem dX3_countPluses_33 : decode cX3_countPluses 33 = .ok (.istore_n 1, 1) := by decide +kernel
theorem dX3_countPluses_34 : decode cX3_countPluses 34 = .ok (.iinc 2 1, 3) := by decide +kernel
theorem dX3_countPluses_37 : decode cX3_countPluses 37 = .ok (.goto (-33), 3) := by decide +kernel
theorem dX3_countPluses_40 : decode cX3_countPluses 40 = .ok (.iload_n 1, 1) := by decide +kernel
theorem dX3_countPluses_41 : decode cX3_countPluses 41 = .ok (.ireturn, 1) := by decide +kernel
theorem dX3_bracketings_0 : decode cX3_bracketings 0 = .ok (.aload_n 0, 1) := by decide +kernel
theorem dX3_bracketings_1 : decode cX3_bracketings 1 = .ok (.getfield 32, 3) := by decide +kernel
theorem dX3_bracketings_4 : decode cX3_bracketings 4 = .ok (.iconst 4, 1) := by decide +kernel
theorem dX3_bracketings_5 : decode cX3_bracketings 5 = .ok (.if_icmp .ne 7, 3) := by decide +kernel
theorem dX3_bracketings_8 : decode cX3_bracketings 8 = .ok (.iconst 5, 1) := by decide +kernel
theorem dX3_bracketings_9 : decode cX3_bracketings 9 = .ok (.goto 16, 3) := by decide +kernel
theorem dX3_bracketings_12 : decode cX3_bracketings 12 = .ok (.aload_n 0, 1) := by decide +kernel
theorem dX3_bracketings_13 : decode cX3_bracketings 13 = .ok (.getfield 32, 3) := by decide +kernel
theorem dX3_bracketings_16 : decode cX3_bracketings 16 = .ok (.iconst 3, 1) := by decide +kernel
theorem dX3_bracketings_17 : decode cX3_bracketings 17 = .ok (.if_icmp .ne 7, 3) := by decide +kernel
theorem dX3_bracketings_20 : decode cX3_bracketings 20 = .ok (.iconst 2, 1) := by decide +kernel
theorem dX3_bracketings_21 : decode cX3_bracketings 21 = .ok (.goto 4, 3) := by decide +kernel
theorem dX3_bracketings_24 : decode cX3_bracketings 24 = .ok (.iconst 1, 1) := by decide +kernel
theorem dX3_bracketings_25 : decode cX3_bracketings 25 = .ok (.ireturn, 1) := by decide +kernel
theorem dX3_joiningsThatAreOr_0 : decode cX3_joiningsThatAreOr 0 = .ok (.iconst 0, 1) := by decide +kernel
theorem dX3_joiningsThatAreOr_1 : decode cX3_joiningsThatAreOr 1 = .ok (.istore_n 2, 1) := by decide +kernel
theorem dX3_joiningsThatAreOr_2 : decode cX3_joiningsThatAreOr 2 = .ok (.iconst 0, 1) := by decide +kernel
theorem dX3_joiningsThatAreOr_3 : decode cX3_joiningsThatAreOr 3 = .ok (.istore_n 3, 1) := by decide +kernel
theorem dX3_joiningsThatAreOr_4 : decode cX3_joiningsThatAreOr 4 = .ok (.iconst 1, 1) := by decide +kernel
theorem dX3_joiningsThatAreOr_5 : decode cX3_joiningsThatAreOr 5 = .ok (.istore 4, 2) := by decide +kernel
theorem dX3_joiningsThatAreOr_7 : decode cX3_joiningsThatAreOr 7 = .ok (.iload 4, 2) := by decide +kernel
theorem dX3_joiningsThatAreOr_9 : decode cX3_joiningsThatAreOr 9 = .ok (.aload_n 0, 1) := by decide +kernel
theorem dX3_joiningsThatAreOr_10 : decode cX3_joiningsThatAreOr 10 = .ok (.getfield 32, 3) := by decide +kernel
theorem dX3_joiningsThatAreOr_13 : decode cX3_joiningsThatAreOr 13 = .ok (.if_icmp .ge 42, 3) := by decide +kernel
theorem dX3_joiningsThatAreOr_16 : decode cX3_joiningsThatAreOr 16 = .ok (.iload 4, 2) := by decide +kernel
theorem dX3_joiningsThatAreOr_18 : decode cX3_joiningsThatAreOr 18 = .ok (.iconst 4, 1) := by decide +kernel
theorem dX3_joiningsThatAreOr_19 : decode cX3_joiningsThatAreOr 19 = .ok (.if_icmp .ge 36, 3) := by decide +kernel
theorem dX3_joiningsThatAreOr_22 : decode cX3_joiningsThatAreOr 22 = .ok (.aload_n 0, 1) := by decide +kernel
theorem dX3_joiningsThatAreOr_23 : decode cX3_joiningsThatAreOr 23 = .ok (.getfield 19, 3) := by decide +kernel
theorem dX3_joiningsThatAreOr_26 : decode cX3_joiningsThatAreOr 26 = .ok (.iload 4, 2) := by decide +kernel
theorem dX3_joiningsThatAreOr_28 : decode cX3_joiningsThatAreOr 28 = .ok (.baload, 1) := by decide +kernel
theorem dX3_joiningsThatAreOr_29 : decode cX3_joiningsThatAreOr 29 = .ok (.ifCond .eq 20, 3) := by decide +kernel
theorem dX3_joiningsThatAreOr_32 : decode cX3_joiningsThatAreOr 32 = .ok (.iload_n 2, 1) := by decide +kernel
theorem dX3_joiningsThatAreOr_33 : decode cX3_joiningsThatAreOr 33 = .ok (.iload_n 1, 1) := by decide +kernel
theorem dX3_joiningsThatAreOr_34 : decode cX3_joiningsThatAreOr 34 = .ok (.i2l, 1) := by decide +kernel
theorem dX3_joiningsThatAreOr_35 : decode cX3_joiningsThatAreOr 35 = .ok (.iload_n 3, 1) := by decide +kernel
theorem dX3_joiningsThatAreOr_36 : decode cX3_joiningsThatAreOr 36 = .ok (.invokestatic 90, 3) := by decide +kernel
theorem dX3_joiningsThatAreOr_39 : decode cX3_joiningsThatAreOr 39 = .ok (.iload 4, 2) := by decide +kernel
theorem dX3_joiningsThatAreOr_41 : decode cX3_joiningsThatAreOr 41 = .ok (.iconst 1, 1) := by decide +kernel
theorem dX3_joiningsThatAreOr_42 : decode cX3_joiningsThatAreOr 42 = .ok (.isub, 1) := by decide +kernel
theorem dX3_joiningsThatAreOr_43 : decode cX3_joiningsThatAreOr 43 = .ok (.ishl, 1) := by decide +kernel
theorem dX3_joiningsThatAreOr_44 : decode cX3_joiningsThatAreOr 44 = .ok (.ior, 1) := by decide +kernel
theorem dX3_joiningsThatAreOr_45 : decode cX3_joiningsThatAreOr 45 = .ok (.istore_n 2, 1) := by decide +kernel
theorem dX3_joiningsThatAreOr_46 : decode cX3_joiningsThatAreOr 46 = .ok (.iinc 3 1, 3) := by decide +kernel
theorem dX3_joiningsThatAreOr_49 : decode cX3_joiningsThatAreOr 49 = .ok (.iinc 4 1, 3) := by decide +kernel
theorem dX3_joiningsThatAreOr_52 : decode cX3_joiningsThatAreOr 52 = .ok (.goto (-45), 3) := by decide +kernel
theorem dX3_joiningsThatAreOr_55 : decode cX3_joiningsThatAreOr 55 = .ok (.iload_n 2, 1) := by decide +kernel
theorem dX3_joiningsThatAreOr_56 : decode cX3_joiningsThatAreOr 56 = .ok (.ireturn, 1) := by decide +kernel
theorem dX3_truthOf_0 : decode cX3_truthOf 0 = .ok (.aload_n 0, 1) := by decide +kernel
theorem dX3_truthOf_1 : decode cX3_truthOf 1 = .ok (.getfield 32, 3) := by decide +kernel
theorem dX3_truthOf_4 : decode cX3_truthOf 4 = .ok (.tableswitch 61 1 3 #[28, 35, 53], 28) := by decide +kernel
theorem dX3_truthOf_32 : decode cX3_truthOf 32 = .ok (.aload_n 0, 1) := by decide +kernel
theorem dX3_truthOf_33 : decode cX3_truthOf 33 = .ok (.iconst 0, 1) := by decide +kernel
theorem dX3_truthOf_34 : decode cX3_truthOf 34 = .ok (.iload_n 3, 1) := by decide +kernel
theorem dX3_truthOf_35 : decode cX3_truthOf 35 = .ok (.invokevirtual 94, 3) := by decide +kernel
theorem dX3_truthOf_38 : decode cX3_truthOf 38 = .ok (.lreturn, 1) := by decide +kernel
theorem dX3_truthOf_39 : decode cX3_truthOf 39 = .ok (.iload_n 2, 1) := by decide +kernel
theorem dX3_truthOf_40 : decode cX3_truthOf 40 = .ok (.iconst 0, 1) := by decide +kernel
theorem dX3_truthOf_41 : decode cX3_truthOf 41 = .ok (.aload_n 0, 1) := by decide +kernel
theorem dX3_truthOf_42 : decode cX3_truthOf 42 = .ok (.iconst 0, 1) := by decide +kernel
theorem dX3_truthOf_43 : decode cX3_truthOf 43 = .ok (.iload_n 3, 1) := by decide +kernel
theorem dX3_truthOf_44 : decode cX3_truthOf 44 = .ok (.invokevirtual 94, 3) := by decide +kernel
theorem dX3_truthOf_47 : decode cX3_truthOf 47 = .ok (.aload_n 0, 1) := by decide +kernel
theorem dX3_truthOf_48 : decode cX3_truthOf 48 = .ok (.iconst 1, 1) := by decide +kernel
theorem dX3_truthOf_49 : decode cX3_truthOf 49 = .ok (.iload_n 3, 1) := by decide +kernel
theorem dX3_truthOf_50 : decode cX3_truthOf 50 = .ok (.invokevirtual 94, 3) := by decide +kernel
theorem dX3_truthOf_53 : decode cX3_truthOf 53 = .ok (.invokestatic 98, 3) := by decide +kernel
theorem dX3_truthOf_56 : decode cX3_truthOf 56 = .ok (.lreturn, 1) := by decide +kernel
theorem dX3_truthOf_57 : decode cX3_truthOf 57 = .ok (.aload_n 0, 1) := by decide +kernel
theorem dX3_truthOf_58 : decode cX3_truthOf 58 = .ok (.iload_n 1, 1) := by decide +kernel
theorem dX3_truthOf_59 : decode cX3_truthOf 59 = .ok (.iload_n 2, 1) := by decide +kernel
theorem dX3_truthOf_60 : decode cX3_truthOf 60 = .ok (.iload_n 3, 1) := by decide +kernel
theorem dX3_truthOf_61 : decode cX3_truthOf 61 = .ok (.invokevirtual 102, 3) := by decide +kernel
theorem dX3_truthOf_64 : decode cX3_truthOf 64 = .ok (.lreturn, 1) := by decide +kernel
theorem dX3_truthOf_65 : decode cX3_truthOf 65 = .ok (.aload_n 0, 1) := by decide +kernel
theorem dX3_truthOf_66 : decode cX3_truthOf 66 = .ok (.iload_n 1, 1) := by decide +kernel
theorem dX3_truthOf_67 : decode cX3_truthOf 67 = .ok (.iload_n 2, 1) := by decide +kernel
theorem dX3_truthOf_68 : decode cX3_truthOf 68 = .ok (.iload_n 3, 1) := by decide +kernel
theorem dX3_truthOf_69 : decode cX3_truthOf 69 = .ok (.invokevirtual 105, 3) := by decide +kernel
theorem dX3_truthOf_72 : decode cX3_truthOf 72 = .ok (.lreturn, 1) := by decide +kernel
theorem dX3_truthOfThree_0 : decode cX3_truthOfThree 0 = .ok (.aload_n 0, 1) := by decide +kernel
theorem dX3_truthOfThree_1 : decode cX3_truthOfThree 1 = .ok (.iconst 0, 1) := by decide +kernel
theorem dX3_truthOfThree_2 : decode cX3_truthOfThree 2 = .ok (.iload_n 3, 1) := by decide +kernel
theorem dX3_truthOfThree_3 : decode cX3_truthOfThree 3 = .ok (.invokevirtual 94, 3) := by decide +kernel
theorem dX3_truthOfThree_6 : decode cX3_truthOfThree 6 = .ok (.lstore 4, 2) := by decide +kernel
theorem dX3_truthOfThree_8 : decode cX3_truthOfThree 8 = .ok (.aload_n 0, 1) := by decide +kernel
theorem dX3_truthOfThree_9 : decode cX3_truthOfThree 9 = .ok (.iconst 1, 1) := by decide +kernel
theorem dX3_truthOfThree_10 : decode cX3_truthOfThree 10 = .ok (.iload_n 3, 1) := by decide +kernel
theorem dX3_truthOfThree_11 : decode cX3_truthOfThree 11 = .ok (.invokevirtual 94, 3) := by decide +kernel
theorem dX3_truthOfThree_14 : decode cX3_truthOfThree 14 = .ok (.lstore 6, 2) := by decide +kernel
theorem dX3_truthOfThree_16 : decode cX3_truthOfThree 16 = .ok (.aload_n 0, 1) := by decide +kernel
theorem dX3_truthOfThree_17 : decode cX3_truthOfThree 17 = .ok (.iconst 2, 1) := by decide +kernel
theorem dX3_truthOfThree_18 : decode cX3_truthOfThree 18 = .ok (.iload_n 3, 1) := by decide +kernel
theorem dX3_truthOfThree_19 : decode cX3_truthOfThree 19 = .ok (.invokevirtual 94, 3) := by decide +kernel
theorem dX3_truthOfThree_22 : decode cX3_truthOfThree 22 = .ok (.lstore 8, 2) := by decide +kernel
theorem dX3_truthOfThree_24 : decode cX3_truthOfThree 24 = .ok (.iload_n 1, 1) := by decide +kernel
theorem dX3_truthOfThree_25 : decode cX3_truthOfThree 25 = .ok (.ifCond .ne 20, 3) := by decide +kernel
theorem dX3_truthOfThree_28 : decode cX3_truthOfThree 28 = .ok (.iload_n 2, 1) := by decide +kernel
theorem dX3_truthOfThree_29 : decode cX3_truthOfThree 29 = .ok (.iconst 1, 1) := by decide +kernel
theorem dX3_truthOfThree_30 : decode cX3_truthOfThree 30 = .ok (.iload_n 2, 1) := by decide +kernel
theorem dX3_truthOfThree_31 : decode cX3_truthOfThree 31 = .ok (.iconst 0, 1) := by decide +kernel
theorem dX3_truthOfThree_32 : decode cX3_truthOfThree 32 = .ok (.lload 4, 2) := by decide +kernel
theorem dX3_truthOfThree_34 : decode cX3_truthOfThree 34 = .ok (.lload 6, 2) := by decide +kernel
theorem dX3_truthOfThree_36 : decode cX3_truthOfThree 36 = .ok (.invokestatic 98, 3) := by decide +kernel
theorem dX3_truthOfThree_39 : decode cX3_truthOfThree 39 = .ok (.lload 8, 2) := by decide +kernel
theorem dX3_truthOfThree_41 : decode cX3_truthOfThree 41 = .ok (.invokestatic 98, 3) := by decide +kernel
theorem dX3_truthOfThree_44 : decode cX3_truthOfThree 44 = .ok (.lreturn, 1) := by decide +kernel
theorem dX3_truthOfThree_45 : decode cX3_truthOfThree 45 = .ok (.iload_n 2, 1) := by decide +kernel
theorem dX3_truthOfThree_46 : decode cX3_truthOfThree 46 = .ok (.iconst 0, 1) := by decide +kernel
theorem dX3_truthOfThree_47 : decode cX3_truthOfThree 47 = .ok (.lload 4, 2) := by decide +kernel
theorem dX3_truthOfThree_49 : decode cX3_truthOfThree 49 = .ok (.iload_n 2, 1) := by decide +kernel
theorem dX3_truthOfThree_50 : decode cX3_truthOfThree 50 = .ok (.iconst 1, 1) := by decide +kernel
theorem dX3_truthOfThree_51 : decode cX3_truthOfThree 51 = .ok (.lload 6, 2) := by decide +kernel
theorem dX3_truthOfThree_53 : decode cX3_truthOfThree 53 = .ok (.lload 8, 2) := by decide +kernel
theorem dX3_truthOfThree_55 : decode cX3_truthOfThree 55 = .ok (.invokestatic 98, 3) := by decide +kernel
theorem dX3_truthOfThree_58 : decode cX3_truthOfThree 58 = .ok (.invokestatic 98, 3) := by decide +kernel
theorem dX3_truthOfThree_61 : decode cX3_truthOfThree 61 = .ok (.lreturn, 1) := by decide +kernel
theorem dX3_truthOfFour_0 : decode cX3_truthOfFour 0 = .ok (.aload_n 0, 1) := by decide +kernel
theorem dX3_truthOfFour_1 : decode cX3_truthOfFour 1 = .ok (.iconst 0, 1) := by decide +kernel
theorem dX3_truthOfFour_2 : decode cX3_truthOfFour 2 = .ok (.iload_n 3, 1) := by decide +kernel
theorem dX3_truthOfFour_3 : decode cX3_truthOfFour 3 = .ok (.invokevirtual 94, 3) := by decide +kernel
theorem dX3_truthOfFour_6 : decode cX3_truthOfFour 6 = .ok (.lstore 4, 2) := by decide +kernel
theorem dX3_truthOfFour_8 : decode cX3_truthOfFour 8 = .ok (.aload_n 0, 1) := by decide +kernel
theorem dX3_truthOfFour_9 : decode cX3_truthOfFour 9 = .ok (.iconst 1, 1) := by decide +kernel
theorem dX3_truthOfFour_10 : decode cX3_truthOfFour 10 = .ok (.iload_n 3, 1) := by decide +kernel
theorem dX3_truthOfFour_11 : decode cX3_truthOfFour 11 = .ok (.invokevirtual 94, 3) := by decide +kernel
theorem dX3_truthOfFour_14 : decode cX3_truthOfFour 14 = .ok (.lstore 6, 2) := by decide +kernel
theorem dX3_truthOfFour_16 : decode cX3_truthOfFour 16 = .ok (.aload_n 0, 1) := by decide +kernel
theorem dX3_truthOfFour_17 : decode cX3_truthOfFour 17 = .ok (.iconst 2, 1) := by decide +kernel
theorem dX3_truthOfFour_18 : decode cX3_truthOfFour 18 = .ok (.iload_n 3, 1) := by decide +kernel
theorem dX3_truthOfFour_19 : decode cX3_truthOfFour 19 = .ok (.invokevirtual 94, 3) := by decide +kernel
theorem dX3_truthOfFour_22 : decode cX3_truthOfFour 22 = .ok (.lstore 8, 2) := by decide +kernel
theorem dX3_truthOfFour_24 : decode cX3_truthOfFour 24 = .ok (.aload_n 0, 1) := by decide +kernel
theorem dX3_truthOfFour_25 : decode cX3_truthOfFour 25 = .ok (.iconst 3, 1) := by decide +kernel
theorem dX3_truthOfFour_26 : decode cX3_truthOfFour 26 = .ok (.iload_n 3, 1) := by decide +kernel
theorem dX3_truthOfFour_27 : decode cX3_truthOfFour 27 = .ok (.invokevirtual 94, 3) := by decide +kernel
theorem dX3_truthOfFour_30 : decode cX3_truthOfFour 30 = .ok (.lstore 10, 2) := by decide +kernel
theorem dX3_truthOfFour_32 : decode cX3_truthOfFour 32 = .ok (.iload_n 1, 1) := by decide +kernel
theorem dX3_truthOfFour_33 : decode cX3_truthOfFour 33 = .ok (.tableswitch 127 0 3 #[31, 55, 79, 103], 31) := by decide +kernel
theorem dX3_truthOfFour_64 : decode cX3_truthOfFour 64 = .ok (.iload_n 2, 1) := by decide +kernel
theorem dX3_truthOfFour_65 : decode cX3_truthOfFour 65 = .ok (.iconst 2, 1) := by decide +kernel
theorem dX3_truthOfFour_66 : decode cX3_truthOfFour 66 = .ok (.iload_n 2, 1) := by decide +kernel
theorem dX3_truthOfFour_67 : decode cX3_truthOfFour 67 = .ok (.iconst 1, 1) := by decide +kernel
theorem dX3_truthOfFour_68 : decode cX3_truthOfFour 68 = .ok (.iload_n 2, 1) := by decide +kernel
theorem dX3_truthOfFour_69 : decode cX3_truthOfFour 69 = .ok (.iconst 0, 1) := by decide +kernel
theorem dX3_truthOfFour_70 : decode cX3_truthOfFour 70 = .ok (.lload 4, 2) := by decide +kernel
theorem dX3_truthOfFour_72 : decode cX3_truthOfFour 72 = .ok (.lload 6, 2) := by decide +kernel
theorem dX3_truthOfFour_74 : decode cX3_truthOfFour 74 = .ok (.invokestatic 98, 3) := by decide +kernel
theorem dX3_truthOfFour_77 : decode cX3_truthOfFour 77 = .ok (.lload 8, 2) := by decide +kernel
theorem dX3_truthOfFour_79 : decode cX3_truthOfFour 79 = .ok (.invokestatic 98, 3) := by decide +kernel
theorem dX3_truthOfFour_82 : decode cX3_truthOfFour 82 = .ok (.lload 10, 2) := by decide +kernel
theorem dX3_truthOfFour_84 : decode cX3_truthOfFour 84 = .ok (.invokestatic 98, 3) := by decide +kernel
theorem dX3_truthOfFour_87 : decode cX3_truthOfFour 87 = .ok (.lreturn, 1) := by decide +kernel
theorem dX3_truthOfFour_88 : decode cX3_truthOfFour 88 = .ok (.iload_n 2, 1) := by decide +kernel
theorem dX3_truthOfFour_89 : decode cX3_truthOfFour 89 = .ok (.iconst 2, 1) := by decide +kernel
theorem dX3_truthOfFour_90 : decode cX3_truthOfFour 90 = .ok (.iload_n 2, 1) := by decide +kernel
theorem dX3_truthOfFour_91 : decode cX3_truthOfFour 91 = .ok (.iconst 0, 1) := by decide +kernel
theorem dX3_truthOfFour_92 : decode cX3_truthOfFour 92 = .ok (.lload 4, 2) := by decide +kernel
theorem dX3_truthOfFour_94 : decode cX3_truthOfFour 94 = .ok (.iload_n 2, 1) := by decide +kernel
theorem dX3_truthOfFour_95 : decode cX3_truthOfFour 95 = .ok (.iconst 1, 1) := by decide +kernel
theorem dX3_truthOfFour_96 : decode cX3_truthOfFour 96 = .ok (.lload 6, 2) := by decide +kernel
theorem dX3_truthOfFour_98 : decode cX3_truthOfFour 98 = .ok (.lload 8, 2) := by decide +kernel
theorem dX3_truthOfFour_100 : decode cX3_truthOfFour 100 = .ok (.invokestatic 98, 3) := by decide +kernel
theorem dX3_truthOfFour_103 : decode cX3_truthOfFour 103 = .ok (.invokestatic 98, 3) := by decide +kernel
theorem dX3_truthOfFour_106 : decode cX3_truthOfFour 106 = .ok (.lload 10, 2) := by decide +kernel
theorem dX3_truthOfFour_108 : decode cX3_truthOfFour 108 = .ok (.invokestatic 98, 3) := by decide +kernel
theorem dX3_truthOfFour_111 : decode cX3_truthOfFour 111 = .ok (.lreturn, 1) := by decide +kernel
theorem dX3_truthOfFour_112 : decode cX3_truthOfFour 112 = .ok (.iload_n 2, 1) := by decide +kernel
theorem dX3_truthOfFour_113 : decode cX3_truthOfFour 113 = .ok (.iconst 1, 1) := by decide +kernel
theorem dX3_truthOfFour_114 : decode cX3_truthOfFour 114 = .ok (.iload_n 2, 1) := by decide +kernel
theorem dX3_truthOfFour_115 : decode cX3_truthOfFour 115 = .ok (.iconst 0, 1) := by decide +kernel
theorem dX3_truthOfFour_116 : decode cX3_truthOfFour 116 = .ok (.lload 4, 2) := by decide +kernel
theorem dX3_truthOfFour_118 : decode cX3_truthOfFour 118 = .ok (.lload 6, 2) := by decide +kernel
theorem dX3_truthOfFour_120 : decode cX3_truthOfFour 120 = .ok (.invokestatic 98, 3) := by decide +kernel
theorem dX3_truthOfFour_123 : decode cX3_truthOfFour 123 = .ok (.iload_n 2, 1) := by decide +kernel
theorem dX3_truthOfFour_124 : decode cX3_truthOfFour 124 = .ok (.iconst 2, 1) := by decide +kernel
theorem dX3_truthOfFour_125 : decode cX3_truthOfFour 125 = .ok (.lload 8, 2) := by decide +kernel
theorem dX3_truthOfFour_127 : decode cX3_truthOfFour 127 = .ok (.lload 10, 2) := by decide +kernel
theorem dX3_truthOfFour_129 : decode cX3_truthOfFour 129 = .ok (.invokestatic 98, 3) := by decide +kernel
theorem dX3_truthOfFour_132 : decode cX3_truthOfFour 132 = .ok (.invokestatic 98, 3) := by decide +kernel
theorem dX3_truthOfFour_135 : decode cX3_truthOfFour 135 = .ok (.lreturn, 1) := by decide +kernel
theorem dX3_truthOfFour_136 : decode cX3_truthOfFour 136 = .ok (.iload_n 2, 1) := by decide +kernel
theorem dX3_truthOfFour_137 : decode cX3_truthOfFour 137 = .ok (.iconst 0, 1) := by decide +kernel
theorem dX3_truthOfFour_138 : decode cX3_truthOfFour 138 = .ok (.lload 4, 2) := by decide +kernel
theorem dX3_truthOfFour_140 : decode cX3_truthOfFour 140 = .ok (.iload_n 2, 1) := by decide +kernel
theorem dX3_truthOfFour_141 : decode cX3_truthOfFour 141 = .ok (.iconst 2, 1) := by decide +kernel
theorem dX3_truthOfFour_142 : decode cX3_truthOfFour 142 = .ok (.iload_n 2, 1) := by decide +kernel
theorem dX3_truthOfFour_143 : decode cX3_truthOfFour 143 = .ok (.iconst 1, 1) := by decide +kernel
theorem dX3_truthOfFour_144 : decode cX3_truthOfFour 144 = .ok (.lload 6, 2) := by decide +kernel
theorem dX3_truthOfFour_146 : decode cX3_truthOfFour 146 = .ok (.lload 8, 2) := by decide +kernel
theorem dX3_truthOfFour_148 : decode cX3_truthOfFour 148 = .ok (.invokestatic 98, 3) := by decide +kernel
theorem dX3_truthOfFour_151 : decode cX3_truthOfFour 151 = .ok (.lload 10, 2) := by decide +kernel
theorem dX3_truthOfFour_153 : decode cX3_truthOfFour 153 = .ok (.invokestatic 98, 3) := by decide +kernel
theorem dX3_truthOfFour_156 : decode cX3_truthOfFour 156 = .ok (.invokestatic 98, 3) := by decide +kernel
theorem dX3_truthOfFour_159 : decode cX3_truthOfFour 159 = .ok (.lreturn, 1) := by decide +kernel
theorem dX3_truthOfFour_160 : decode cX3_truthOfFour 160 = .ok (.iload_n 2, 1) := by decide +kernel
theorem dX3_truthOfFour_161 : decode cX3_truthOfFour 161 = .ok (.iconst 0, 1) := by decide +kernel
theorem dX3_truthOfFour_162 : decode cX3_truthOfFour 162 = .ok (.lload 4, 2) := by decide +kernel
theorem dX3_truthOfFour_164 : decode cX3_truthOfFour 164 = .ok (.iload_n 2, 1) := by decide +kernel
theorem dX3_truthOfFour_165 : decode cX3_truthOfFour 165 = .ok (.iconst 1, 1) := by decide +kernel
theorem dX3_truthOfFour_166 : decode cX3_truthOfFour 166 = .ok (.lload 6, 2) := by decide +kernel
theorem dX3_truthOfFour_168 : decode cX3_truthOfFour 168 = .ok (.iload_n 2, 1) := by decide +kernel
theorem dX3_truthOfFour_169 : decode cX3_truthOfFour 169 = .ok (.iconst 2, 1) := by decide +kernel
theorem dX3_truthOfFour_170 : decode cX3_truthOfFour 170 = .ok (.lload 8, 2) := by decide +kernel
theorem dX3_truthOfFour_172 : decode cX3_truthOfFour 172 = .ok (.lload 10, 2) := by decide +kernel
theorem dX3_truthOfFour_174 : decode cX3_truthOfFour 174 = .ok (.invokestatic 98, 3) := by decide +kernel
theorem dX3_truthOfFour_177 : decode cX3_truthOfFour 177 = .ok (.invokestatic 98, 3) := by decide +kernel
theorem dX3_truthOfFour_180 : decode cX3_truthOfFour 180 = .ok (.invokestatic 98, 3) := by decide +kernel
theorem dX3_truthOfFour_183 : decode cX3_truthOfFour 183 = .ok (.lreturn, 1) := by decide +kernel
theorem dX3_wordTruth_0 : decode cX3_wordTruth 0 = .ok (.iload_n 1, 1) := by decide +kernel
theorem dX3_wordTruth_1 : decode cX3_wordTruth 1 = .ok (.ifCond .lt 8, 3) := by decide +kernel
theorem dX3_wordTruth_4 : decode cX3_wordTruth 4 = .ok (.iload_n 1, 1) := by decide +kernel
theorem dX3_wordTruth_5 : decode cX3_wordTruth 5 = .ok (.iconst 4, 1) := by decide +kernel
theorem dX3_wordTruth_6 : decode cX3_wordTruth 6 = .ok (.if_icmp .lt 5, 3) := by decide +kernel
theorem dX3_wordTruth_9 : decode cX3_wordTruth 9 = .ok (.lconst 0, 1) := by decide +kernel
theorem dX3_wordTruth_10 : decode cX3_wordTruth 10 = .ok (.lreturn, 1) := by decide +kernel
theorem dX3_wordTruth_11 : decode cX3_wordTruth 11 = .ok (.iload_n 2, 1) := by decide +kernel
theorem dX3_wordTruth_12 : decode cX3_wordTruth 12 = .ok (.iconst 1, 1) := by decide +kernel
theorem dX3_wordTruth_13 : decode cX3_wordTruth 13 = .ok (.iload_n 1, 1) := by decide +kernel
theorem dX3_wordTruth_14 : decode cX3_wordTruth 14 = .ok (.ishl, 1) := by decide +kernel
theorem dX3_wordTruth_15 : decode cX3_wordTruth 15 = .ok (.iand, 1) := by decide +kernel
theorem dX3_wordTruth_16 : decode cX3_wordTruth 16 = .ok (.ifCond .eq 12, 3) := by decide +kernel
theorem dX3_wordTruth_19 : decode cX3_wordTruth 19 = .ok (.aload_n 0, 1) := by decide +kernel
theorem dX3_wordTruth_20 : decode cX3_wordTruth 20 = .ok (.getfield 26, 3) := by decide +kernel
theorem dX3_wordTruth_23 : decode cX3_wordTruth 23 = .ok (.iload_n 1, 1) := by decide +kernel
theorem dX3_wordTruth_24 : decode cX3_wordTruth 24 = .ok (.laload, 1) := by decide +kernel
theorem dX3_wordTruth_25 : decode cX3_wordTruth 25 = .ok (.goto 9, 3) := by decide +kernel
theorem dX3_wordTruth_28 : decode cX3_wordTruth 28 = .ok (.aload_n 0, 1) := by decide +kernel
theorem dX3_wordTruth_29 : decode cX3_wordTruth 29 = .ok (.getfield 22, 3) := by decide +kernel
theorem dX3_wordTruth_32 : decode cX3_wordTruth 32 = .ok (.iload_n 1, 1) := by decide +kernel
theorem dX3_wordTruth_33 : decode cX3_wordTruth 33 = .ok (.laload, 1) := by decide +kernel
theorem dX3_wordTruth_34 : decode cX3_wordTruth 34 = .ok (.lreturn, 1) := by decide +kernel
theorem dX3_joined_0 : decode cX3_joined 0 = .ok (.iload_n 0, 1) := by decide +kernel
theorem dX3_joined_1 : decode cX3_joined 1 = .ok (.iconst 1, 1) := by decide +kernel
theorem dX3_joined_2 : decode cX3_joined 2 = .ok (.iload_n 1, 1) := by decide +kernel
theorem dX3_joined_3 : decode cX3_joined 3 = .ok (.ishl, 1) := by decide +kernel
theorem dX3_joined_4 : decode cX3_joined 4 = .ok (.iand, 1) := by decide +kernel
theorem dX3_joined_5 : decode cX3_joined 5 = .ok (.ifCond .eq 10, 3) := by decide +kernel
theorem dX3_joined_8 : decode cX3_joined 8 = .ok (.lload_n 2, 1) := by decide +kernel
theorem dX3_joined_9 : decode cX3_joined 9 = .ok (.lload 4, 2) := by decide +kernel
theorem dX3_joined_11 : decode cX3_joined 11 = .ok (.lor, 1) := by decide +kernel
theorem dX3_joined_12 : decode cX3_joined 12 = .ok (.goto 7, 3) := by decide +kernel
theorem dX3_joined_15 : decode cX3_joined 15 = .ok (.lload_n 2, 1) := by decide +kernel
theorem dX3_joined_16 : decode cX3_joined 16 = .ok (.lload 4, 2) := by decide +kernel
theorem dX3_joined_18 : decode cX3_joined 18 = .ok (.land, 1) := by decide +kernel
theorem dX3_joined_19 : decode cX3_joined 19 = .ok (.lreturn, 1) := by decide +kernel
theorem dX3_weigh_0 : decode cX3_weigh 0 = .ok (.aload_n 0, 1) := by decide +kernel
theorem dX3_weigh_1 : decode cX3_weigh 1 = .ok (.lconst 0, 1) := by decide +kernel
theorem dX3_weigh_2 : decode cX3_weigh 2 = .ok (.putfield 108, 3) := by decide +kernel
theorem dX3_weigh_5 : decode cX3_weigh 5 = .ok (.aload_n 0, 1) := by decide +kernel
theorem dX3_weigh_6 : decode cX3_weigh 6 = .ok (.iconst 0, 1) := by decide +kernel
theorem dX3_weigh_7 : decode cX3_weigh 7 = .ok (.putfield 112, 3) := by decide +kernel
theorem dX3_weigh_10 : decode cX3_weigh 10 = .ok (.aload_n 0, 1) := by decide +kernel
theorem dX3_weigh_11 : decode cX3_weigh 11 = .ok (.iconst 0, 1) := by decide +kernel
theorem dX3_weigh_12 : decode cX3_weigh 12 = .ok (.putfield 115, 3) := by decide +kernel
theorem dX3_weigh_15 : decode cX3_weigh 15 = .ok (.iconst (-1), 1) := by decide +kernel
theorem dX3_weigh_16 : decode cX3_weigh 16 = .ok (.istore_n 1, 1) := by decide +kernel
theorem dX3_weigh_17 : decode cX3_weigh 17 = .ok (.bipush 65, 2) := by decide +kernel
theorem dX3_weigh_19 : decode cX3_weigh 19 = .ok (.istore_n 2, 1) := by decide +kernel
theorem dX3_weigh_20 : decode cX3_weigh 20 = .ok (.iconst 0, 1) := by decide +kernel
theorem dX3_weigh_21 : decode cX3_weigh 21 = .ok (.istore_n 3, 1) := by decide +kernel
theorem dX3_weigh_22 : decode cX3_weigh 22 = .ok (.iload_n 3, 1) := by decide +kernel
theorem dX3_weigh_23 : decode cX3_weigh 23 = .ok (.aload_n 0, 1) := by decide +kernel
theorem dX3_weigh_24 : decode cX3_weigh 24 = .ok (.getfield 36, 3) := by decide +kernel
theorem dX3_weigh_27 : decode cX3_weigh 27 = .ok (.if_icmp .ge 72, 3) := by decide +kernel
theorem dX3_weigh_30 : decode cX3_weigh 30 = .ok (.iload_n 3, 1) := by decide +kernel
theorem dX3_weigh_31 : decode cX3_weigh 31 = .ok (.aload_n 0, 1) := by decide +kernel
theorem dX3_weigh_32 : decode cX3_weigh 32 = .ok (.getfield 29, 3) := by decide +kernel
theorem dX3_weigh_35 : decode cX3_weigh 35 = .ok (.arraylength, 1) := by decide +kernel
theorem dX3_weigh_36 : decode cX3_weigh 36 = .ok (.if_icmp .ge 63, 3) := by decide +kernel
theorem dX3_weigh_39 : decode cX3_weigh 39 = .ok (.aload_n 0, 1) := by decide +kernel
theorem dX3_weigh_40 : decode cX3_weigh 40 = .ok (.dup, 1) := by decide +kernel
theorem dX3_weigh_41 : decode cX3_weigh 41 = .ok (.getfield 108, 3) := by decide +kernel
theorem dX3_weigh_44 : decode cX3_weigh 44 = .ok (.aload_n 0, 1) := by decide +kernel
theorem dX3_weigh_45 : decode cX3_weigh 45 = .ok (.getfield 29, 3) := by decide +kernel
theorem dX3_weigh_48 : decode cX3_weigh 48 = .ok (.iload_n 3, 1) := by decide +kernel
theorem dX3_weigh_49 : decode cX3_weigh 49 = .ok (.laload, 1) := by decide +kernel
theorem dX3_weigh_50 : decode cX3_weigh 50 = .ok (.lor, 1) := by decide +kernel
theorem dX3_weigh_51 : decode cX3_weigh 51 = .ok (.putfield 108, 3) := by decide +kernel
theorem dX3_weigh_54 : decode cX3_weigh 54 = .ok (.aload_n 0, 1) := by decide +kernel
theorem dX3_weigh_55 : decode cX3_weigh 55 = .ok (.getfield 29, 3) := by decide +kernel
theorem dX3_weigh_58 : decode cX3_weigh 58 = .ok (.iload_n 3, 1) := by decide +kernel
theorem dX3_weigh_59 : decode cX3_weigh 59 = .ok (.laload, 1) := by decide +kernel
theorem dX3_weigh_60 : decode cX3_weigh 60 = .ok (.invokestatic 118, 3) := by decide +kernel
theorem dX3_weigh_63 : decode cX3_weigh 63 = .ok (.istore 4, 2) := by decide +kernel
theorem dX3_weigh_65 : decode cX3_weigh 65 = .ok (.iload 4, 2) := by decide +kernel
theorem dX3_weigh_67 : decode cX3_weigh 67 = .ok (.iload_n 1, 1) := by decide +kernel
theorem dX3_weigh_68 : decode cX3_weigh 68 = .ok (.if_icmp .le 11, 3) := by decide +kernel
theorem dX3_weigh_71 : decode cX3_weigh 71 = .ok (.iload 4, 2) := by decide +kernel
theorem dX3_weigh_73 : decode cX3_weigh 73 = .ok (.istore_n 1, 1) := by decide +kernel
theorem dX3_weigh_74 : decode cX3_weigh 74 = .ok (.aload_n 0, 1) := by decide +kernel
theorem dX3_weigh_75 : decode cX3_weigh 75 = .ok (.iload_n 3, 1) := by decide +kernel
theorem dX3_weigh_76 : decode cX3_weigh 76 = .ok (.putfield 112, 3) := by decide +kernel
theorem dX3_weigh_79 : decode cX3_weigh 79 = .ok (.iload 4, 2) := by decide +kernel
theorem dX3_weigh_81 : decode cX3_weigh 81 = .ok (.iload_n 2, 1) := by decide +kernel
theorem dX3_weigh_82 : decode cX3_weigh 82 = .ok (.if_icmp .ge 11, 3) := by decide +kernel
theorem dX3_weigh_85 : decode cX3_weigh 85 = .ok (.iload 4, 2) := by decide +kernel
theorem dX3_weigh_87 : decode cX3_weigh 87 = .ok (.istore_n 2, 1) := by decide +kernel
theorem dX3_weigh_88 : decode cX3_weigh 88 = .ok (.aload_n 0, 1) := by decide +kernel
theorem dX3_weigh_89 : decode cX3_weigh 89 = .ok (.iload_n 3, 1) := by decide +kernel
theorem dX3_weigh_90 : decode cX3_weigh 90 = .ok (.putfield 115, 3) := by decide +kernel
theorem dX3_weigh_93 : decode cX3_weigh 93 = .ok (.iinc 3 1, 3) := by decide +kernel
theorem dX3_weigh_96 : decode cX3_weigh 96 = .ok (.goto (-74), 3) := by decide +kernel
theorem dX3_weigh_99 : decode cX3_weigh 99 = .ok (.return_, 1) := by decide +kernel
theorem dX3_readingsSoIn_0 : decode cX3_readingsSoIn 0 = .ok (.iconst 0, 1) := by decide +kernel
theorem dX3_readingsSoIn_1 : decode cX3_readingsSoIn 1 = .ok (.istore_n 2, 1) := by decide +kernel
theorem dX3_readingsSoIn_2 : decode cX3_readingsSoIn 2 = .ok (.iconst 0, 1) := by decide +kernel
theorem dX3_readingsSoIn_3 : decode cX3_readingsSoIn 3 = .ok (.istore_n 3, 1) := by decide +kernel
theorem dX3_readingsSoIn_4 : decode cX3_readingsSoIn 4 = .ok (.iload_n 3, 1) := by decide +kernel
theorem dX3_readingsSoIn_5 : decode cX3_readingsSoIn 5 = .ok (.aload_n 0, 1) := by decide +kernel
theorem dX3_readingsSoIn_6 : decode cX3_readingsSoIn 6 = .ok (.getfield 36, 3) := by decide +kernel
theorem dX3_readingsSoIn_9 : decode cX3_readingsSoIn 9 = .ok (.if_icmp .ge 21, 3) := by decide +kernel
theorem dX3_readingsSoIn_12 : decode cX3_readingsSoIn 12 = .ok (.iload_n 2, 1) := by decide +kernel
theorem dX3_readingsSoIn_13 : decode cX3_readingsSoIn 13 = .ok (.aload_n 0, 1) := by decide +kernel
theorem dX3_readingsSoIn_14 : decode cX3_readingsSoIn 14 = .ok (.iload_n 3, 1) := by decide +kernel
theorem dX3_readingsSoIn_15 : decode cX3_readingsSoIn 15 = .ok (.invokevirtual 124, 3) := by decide +kernel
theorem dX3_readingsSoIn_18 : decode cX3_readingsSoIn 18 = .ok (.iload_n 1, 1) := by decide +kernel
theorem dX3_readingsSoIn_19 : decode cX3_readingsSoIn 19 = .ok (.invokestatic 90, 3) := by decide +kernel
theorem dX3_readingsSoIn_22 : decode cX3_readingsSoIn 22 = .ok (.iadd, 1) := by decide +kernel
theorem dX3_readingsSoIn_23 : decode cX3_readingsSoIn 23 = .ok (.istore_n 2, 1) := by decide +kernel
theorem dX3_readingsSoIn_24 : decode cX3_readingsSoIn 24 = .ok (.iinc 3 1, 3) := by decide +kernel
theorem dX3_readingsSoIn_27 : decode cX3_readingsSoIn 27 = .ok (.goto (-23), 3) := by decide +kernel
theorem dX3_readingsSoIn_30 : decode cX3_readingsSoIn 30 = .ok (.iload_n 2, 1) := by decide +kernel
theorem dX3_readingsSoIn_31 : decode cX3_readingsSoIn 31 = .ok (.ireturn, 1) := by decide +kernel
theorem dX3_firstReadingSoIn_0 : decode cX3_firstReadingSoIn 0 = .ok (.iconst 0, 1) := by decide +kernel
theorem dX3_firstReadingSoIn_1 : decode cX3_firstReadingSoIn 1 = .ok (.istore_n 2, 1) := by decide +kernel
theorem dX3_firstReadingSoIn_2 : decode cX3_firstReadingSoIn 2 = .ok (.iload_n 2, 1) := by decide +kernel
theorem dX3_firstReadingSoIn_3 : decode cX3_firstReadingSoIn 3 = .ok (.aload_n 0, 1) := by decide +kernel
theorem dX3_firstReadingSoIn_4 : decode cX3_firstReadingSoIn 4 = .ok (.getfield 36, 3) := by decide +kernel
theorem dX3_firstReadingSoIn_7 : decode cX3_firstReadingSoIn 7 = .ok (.if_icmp .ge 24, 3) := by decide +kernel
theorem dX3_firstReadingSoIn_10 : decode cX3_firstReadingSoIn 10 = .ok (.aload_n 0, 1) := by decide +kernel
theorem dX3_firstReadingSoIn_11 : decode cX3_firstReadingSoIn 11 = .ok (.iload_n 2, 1) := by decide +kernel
theorem dX3_firstReadingSoIn_12 : decode cX3_firstReadingSoIn 12 = .ok (.invokevirtual 124, 3) := by decide +kernel
theorem dX3_firstReadingSoIn_15 : decode cX3_firstReadingSoIn 15 = .ok (.iload_n 1, 1) := by decide +kernel
theorem dX3_firstReadingSoIn_16 : decode cX3_firstReadingSoIn 16 = .ok (.invokestatic 90, 3) := by decide +kernel
theorem dX3_firstReadingSoIn_19 : decode cX3_firstReadingSoIn 19 = .ok (.iconst 1, 1) := by decide +kernel
theorem dX3_firstReadingSoIn_20 : decode cX3_firstReadingSoIn 20 = .ok (.if_icmp .ne 5, 3) := by decide +kernel
theorem dX3_firstReadingSoIn_23 : decode cX3_firstReadingSoIn 23 = .ok (.iload_n 2, 1) := by decide +kernel
theorem dX3_firstReadingSoIn_24 : decode cX3_firstReadingSoIn 24 = .ok (.ireturn, 1) := by decide +kernel
theorem dX3_firstReadingSoIn_25 : decode cX3_firstReadingSoIn 25 = .ok (.iinc 2 1, 3) := by decide +kernel
theorem dX3_firstReadingSoIn_28 : decode cX3_firstReadingSoIn 28 = .ok (.goto (-26), 3) := by decide +kernel
theorem dX3_firstReadingSoIn_31 : decode cX3_firstReadingSoIn 31 = .ok (.iconst (-1), 1) := by decide +kernel
theorem dX3_firstReadingSoIn_32 : decode cX3_firstReadingSoIn 32 = .ok (.ireturn, 1) := by decide +kernel
theorem dX4_init_0 : decode cX4_init 0 = .ok (.aload_n 0, 1) := by decide +kernel
theorem dX4_init_1 : decode cX4_init 1 = .ok (.invokespecial 3, 3) := by decide +kernel
theorem dX4_init_4 : decode cX4_init 4 = .ok (.aload_n 0, 1) := by decide +kernel
theorem dX4_init_5 : decode cX4_init 5 = .ok (.bipush 6, 2) := by decide +kernel
theorem dX4_init_7 : decode cX4_init 7 = .ok (.newarray .int, 2) := by decide +kernel
theorem dX4_init_9 : decode cX4_init 9 = .ok (.putfield 9, 3) := by decide +kernel
theorem dX4_init_12 : decode cX4_init 12 = .ok (.return_, 1) := by decide +kernel
theorem dX4_append_0 : decode cX4_append 0 = .ok (.aload_n 0, 1) := by decide +kernel
theorem dX4_append_1 : decode cX4_append 1 = .ok (.getfield 15, 3) := by decide +kernel
theorem dX4_append_4 : decode cX4_append 4 = .ok (.ifCond .lt 15, 3) := by decide +kernel
theorem dX4_append_7 : decode cX4_append 7 = .ok (.aload_n 0, 1) := by decide +kernel
theorem dX4_append_8 : decode cX4_append 8 = .ok (.getfield 15, 3) := by decide +kernel
theorem dX4_append_11 : decode cX4_append 11 = .ok (.aload_n 0, 1) := by decide +kernel
theorem dX4_append_12 : decode cX4_append 12 = .ok (.getfield 9, 3) := by decide +kernel
theorem dX4_append_15 : decode cX4_append 15 = .ok (.arraylength, 1) := by decide +kernel
theorem dX4_append_16 : decode cX4_append 16 = .ok (.if_icmp .lt 5, 3) := by decide +kernel
theorem dX4_append_19 : decode cX4_append 19 = .ok (.iconst 0, 1) := by decide +kernel
theorem dX4_append_20 : decode cX4_append 20 = .ok (.ireturn, 1) := by decide +kernel
theorem dX4_append_21 : decode cX4_append 21 = .ok (.aload_n 0, 1) := by decide +kernel
theorem dX4_append_22 : decode cX4_append 22 = .ok (.getfield 9, 3) := by decide +kernel
theorem dX4_append_25 : decode cX4_append 25 = .ok (.aload_n 0, 1) := by decide +kernel
theorem dX4_append_26 : decode cX4_append 26 = .ok (.getfield 15, 3) := by decide +kernel
theorem dX4_append_29 : decode cX4_append 29 = .ok (.iload_n 1, 1) := by decide +kernel
theorem dX4_append_30 : decode cX4_append 30 = .ok (.iastore, 1) := by decide +kernel
theorem dX4_append_31 : decode cX4_append 31 = .ok (.aload_n 0, 1) := by decide +kernel
theorem dX4_append_32 : decode cX4_append 32 = .ok (.dup, 1) := by decide +kernel
theorem dX4_append_33 : decode cX4_append 33 = .ok (.getfield 15, 3) := by decide +kernel
theorem dX4_append_36 : decode cX4_append 36 = .ok (.iconst 1, 1) := by decide +kernel
theorem dX4_append_37 : decode cX4_append 37 = .ok (.iadd, 1) := by decide +kernel
theorem dX4_append_38 : decode cX4_append 38 = .ok (.putfield 15, 3) := by decide +kernel
theorem dX4_append_41 : decode cX4_append 41 = .ok (.iconst 1, 1) := by decide +kernel
theorem dX4_append_42 : decode cX4_append 42 = .ok (.ireturn, 1) := by decide +kernel
theorem dX4_worldAt_0 : decode cX4_worldAt 0 = .ok (.iload_n 1, 1) := by decide +kernel
theorem dX4_worldAt_1 : decode cX4_worldAt 1 = .ok (.ifCond .lt 29, 3) := by decide +kernel
theorem dX4_worldAt_4 : decode cX4_worldAt 4 = .ok (.iload_n 1, 1) := by decide +kernel
theorem dX4_worldAt_5 : decode cX4_worldAt 5 = .ok (.aload_n 0, 1) := by decide +kernel
theorem dX4_worldAt_6 : decode cX4_worldAt 6 = .ok (.getfield 15, 3) := by decide +kernel
theorem dX4_worldAt_9 : decode cX4_worldAt 9 = .ok (.if_icmp .ge 21, 3) := by decide +kernel
theorem dX4_worldAt_12 : decode cX4_worldAt 12 = .ok (.iload_n 1, 1) := by decide +kernel
theorem dX4_worldAt_13 : decode cX4_worldAt 13 = .ok (.aload_n 0, 1) := by decide +kernel
theorem dX4_worldAt_14 : decode cX4_worldAt 14 = .ok (.getfield 9, 3) := by decide +kernel
theorem dX4_worldAt_17 : decode cX4_worldAt 17 = .ok (.arraylength, 1) := by decide +kernel
theorem dX4_worldAt_18 : decode cX4_worldAt 18 = .ok (.if_icmp .ge 12, 3) := by decide +kernel
theorem dX4_worldAt_21 : decode cX4_worldAt 21 = .ok (.aload_n 0, 1) := by decide +kernel
theorem dX4_worldAt_22 : decode cX4_worldAt 22 = .ok (.getfield 9, 3) := by decide +kernel
theorem dX4_worldAt_25 : decode cX4_worldAt 25 = .ok (.iload_n 1, 1) := by decide +kernel
theorem dX4_worldAt_26 : decode cX4_worldAt 26 = .ok (.iaload, 1) := by decide +kernel
theorem dX4_worldAt_27 : decode cX4_worldAt 27 = .ok (.goto 4, 3) := by decide +kernel
theorem dX4_worldAt_30 : decode cX4_worldAt 30 = .ok (.iconst (-1), 1) := by decide +kernel
theorem dX4_worldAt_31 : decode cX4_worldAt 31 = .ok (.ireturn, 1) := by decide +kernel
theorem dX4_become_0 : decode cX4_become 0 = .ok (.aload_n 0, 1) := by decide +kernel
theorem dX4_become_1 : decode cX4_become 1 = .ok (.iconst 0, 1) := by decide +kernel
theorem dX4_become_2 : decode cX4_become 2 = .ok (.putfield 15, 3) := by decide +kernel
theorem dX4_become_5 : decode cX4_become 5 = .ok (.iconst 0, 1) := by decide +kernel
theorem dX4_become_6 : decode cX4_become 6 = .ok (.istore_n 2, 1) := by decide +kernel
theorem dX4_become_7 : decode cX4_become 7 = .ok (.iload_n 2, 1) := by decide +kernel
theorem dX4_become_8 : decode cX4_become 8 = .ok (.aload_n 1, 1) := by decide +kernel
theorem dX4_become_9 : decode cX4_become 9 = .ok (.getfield 15, 3) := by decide +kernel
theorem dX4_become_12 : decode cX4_become 12 = .ok (.if_icmp .ge 19, 3) := by decide +kernel
theorem dX4_become_15 : decode cX4_become 15 = .ok (.aload_n 0, 1) := by decide +kernel
theorem dX4_become_16 : decode cX4_become 16 = .ok (.aload_n 1, 1) := by decide +kernel
theorem dX4_become_17 : decode cX4_become 17 = .ok (.iload_n 2, 1) := by decide +kernel
theorem dX4_become_18 : decode cX4_become 18 = .ok (.invokevirtual 19, 3) := by decide +kernel
theorem dX4_become_21 : decode cX4_become 21 = .ok (.invokevirtual 23, 3) := by decide +kernel
theorem dX4_become_24 : decode cX4_become 24 = .ok (.pop, 1) := by decide +kernel
theorem dX4_become_25 : decode cX4_become 25 = .ok (.iinc 2 1, 3) := by decide +kernel
theorem dX4_become_28 : decode cX4_become 28 = .ok (.goto (-21), 3) := by decide +kernel
theorem dX4_become_31 : decode cX4_become 31 = .ok (.return_, 1) := by decide +kernel
theorem dX5_init_0 : decode cX5_init 0 = .ok (.aload_n 0, 1) := by decide +kernel
theorem dX5_init_1 : decode cX5_init 1 = .ok (.invokespecial 1, 3) := by decide +kernel
theorem dX5_init_4 : decode cX5_init 4 = .ok (.aload_n 0, 1) := by decide +kernel
theorem dX5_init_5 : decode cX5_init 5 = .ok (.new 7, 3) := by decide +kernel
theorem dX5_init_8 : decode cX5_init 8 = .ok (.dup, 1) := by decide +kernel
theorem dX5_init_9 : decode cX5_init 9 = .ok (.invokespecial 9, 3) := by decide +kernel
theorem dX5_init_12 : decode cX5_init 12 = .ok (.putfield 10, 3) := by decide +kernel
theorem dX5_init_15 : decode cX5_init 15 = .ok (.aload_n 0, 1) := by decide +kernel
theorem dX5_init_16 : decode cX5_init 16 = .ok (.bipush 6, 2) := by decide +kernel
theorem dX5_init_18 : decode cX5_init 18 = .ok (.newarray .int, 2) := by decide +kernel
theorem dX5_init_20 : decode cX5_init 20 = .ok (.putfield 16, 3) := by decide +kernel
theorem dX5_init_23 : decode cX5_init 23 = .ok (.iconst 0, 1) := by decide +kernel
theorem dX5_init_24 : decode cX5_init 24 = .ok (.istore_n 1, 1) := by decide +kernel
theorem dX5_init_25 : decode cX5_init 25 = .ok (.iload_n 1, 1) := by decide +kernel
theorem dX5_init_26 : decode cX5_init 26 = .ok (.aload_n 0, 1) := by decide +kernel
theorem dX5_init_27 : decode cX5_init 27 = .ok (.getfield 16, 3) := by decide +kernel
theorem dX5_init_30 : decode cX5_init 30 = .ok (.arraylength, 1) := by decide +kernel
theorem dX5_init_31 : decode cX5_init 31 = .ok (.if_icmp .ge 16, 3) := by decide +kernel
theorem dX5_init_34 : decode cX5_init 34 = .ok (.aload_n 0, 1) := by decide +kernel
theorem dX5_init_35 : decode cX5_init 35 = .ok (.getfield 16, 3) := by decide +kernel
theorem dX5_init_38 : decode cX5_init 38 = .ok (.iload_n 1, 1) := by decide +kernel
theorem dX5_init_39 : decode cX5_init 39 = .ok (.iload_n 1, 1) := by decide +kernel
theorem dX5_init_40 : decode cX5_init 40 = .ok (.iastore, 1) := by decide +kernel
theorem dX5_init_41 : decode cX5_init 41 = .ok (.iinc 1 1, 3) := by decide +kernel
theorem dX5_init_44 : decode cX5_init 44 = .ok (.goto (-19), 3) := by decide +kernel
theorem dX5_init_47 : decode cX5_init 47 = .ok (.aload_n 0, 1) := by decide +kernel
theorem dX5_init_48 : decode cX5_init 48 = .ok (.new 20, 3) := by decide +kernel
theorem dX5_init_51 : decode cX5_init 51 = .ok (.dup, 1) := by decide +kernel
theorem dX5_init_52 : decode cX5_init 52 = .ok (.invokespecial 22, 3) := by decide +kernel
theorem dX5_init_55 : decode cX5_init 55 = .ok (.putfield 23, 3) := by decide +kernel
theorem dX5_init_58 : decode cX5_init 58 = .ok (.aload_n 0, 1) := by decide +kernel
theorem dX5_init_59 : decode cX5_init 59 = .ok (.new 20, 3) := by decide +kernel
theorem dX5_init_62 : decode cX5_init 62 = .ok (.dup, 1) := by decide +kernel
theorem dX5_init_63 : decode cX5_init 63 = .ok (.invokespecial 22, 3) := by decide +kernel
theorem dX5_init_66 : decode cX5_init 66 = .ok (.putfield 27, 3) := by decide +kernel
theorem dX5_init_69 : decode cX5_init 69 = .ok (.aload_n 0, 1) := by decide +kernel
theorem dX5_init_70 : decode cX5_init 70 = .ok (.new 20, 3) := by decide +kernel
theorem dX5_init_73 : decode cX5_init 73 = .ok (.dup, 1) := by decide +kernel
theorem dX5_init_74 : decode cX5_init 74 = .ok (.invokespecial 22, 3) := by decide +kernel
theorem dX5_init_77 : decode cX5_init 77 = .ok (.putfield 30, 3) := by decide +kernel
theorem dX5_init_80 : decode cX5_init 80 = .ok (.aload_n 0, 1) := by decide +kernel
theorem dX5_init_81 : decode cX5_init 81 = .ok (.new 33, 3) := by decide +kernel
theorem dX5_init_84 : decode cX5_init 84 = .ok (.dup, 1) := by decide +kernel
theorem dX5_init_85 : decode cX5_init 85 = .ok (.invokespecial 35, 3) := by decide +kernel
theorem dX5_init_88 : decode cX5_init 88 = .ok (.putfield 36, 3) := by decide +kernel
theorem dX5_init_91 : decode cX5_init 91 = .ok (.aload_n 0, 1) := by decide +kernel
theorem dX5_init_92 : decode cX5_init 92 = .ok (.new 40, 3) := by decide +kernel
theorem dX5_init_95 : decode cX5_init 95 = .ok (.dup, 1) := by decide +kernel
theorem dX5_init_96 : decode cX5_init 96 = .ok (.invokespecial 42, 3) := by decide +kernel
theorem dX5_init_99 : decode cX5_init 99 = .ok (.putfield 43, 3) := by decide +kernel
theorem dX5_init_102 : decode cX5_init 102 = .ok (.aload_n 0, 1) := by decide +kernel
theorem dX5_init_103 : decode cX5_init 103 = .ok (.new 47, 3) := by decide +kernel
theorem dX5_init_106 : decode cX5_init 106 = .ok (.dup, 1) := by decide +kernel
theorem dX5_init_107 : decode cX5_init 107 = .ok (.invokespecial 49, 3) := by decide +kernel
theorem dX5_init_110 : decode cX5_init 110 = .ok (.putfield 50, 3) := by decide +kernel
theorem dX5_init_113 : decode cX5_init 113 = .ok (.return_, 1) := by decide +kernel
theorem dX5_letter_0 : decode cX5_letter 0 = .ok (.iload_n 1, 1) := by decide +kernel
theorem dX5_letter_1 : decode cX5_letter 1 = .ok (.bipush 32, 2) := by decide +kernel
theorem dX5_letter_3 : decode cX5_letter 3 = .ok (.if_icmp .lt 9, 3) := by decide +kernel
theorem dX5_letter_6 : decode cX5_letter 6 = .ok (.iload_n 1, 1) := by decide +kernel
theorem dX5_letter_7 : decode cX5_letter 7 = .ok (.bipush 126, 2) := by decide +kernel
theorem dX5_letter_9 : decode cX5_letter 9 = .ok (.if_icmp .le 6, 3) := by decide +kernel
theorem dX5_letter_12 : decode cX5_letter 12 = .ok (.bipush (-102), 2) := by decide +kernel
theorem dX5_letter_14 : decode cX5_letter 14 = .ok (.ireturn, 1) := by decide +kernel
theorem dX5_letter_15 : decode cX5_letter 15 = .ok (.aload_n 0, 1) := by decide +kernel
theorem dX5_letter_16 : decode cX5_letter 16 = .ok (.getfield 10, 3) := by decide +kernel
theorem dX5_letter_19 : decode cX5_letter 19 = .ok (.iload_n 1, 1) := by decide +kernel
theorem dX5_letter_20 : decode cX5_letter 20 = .ok (.invokevirtual 54, 3) := by decide +kernel
theorem dX5_letter_23 : decode cX5_letter 23 = .ok (.ifCond .eq 13, 3) := by decide +kernel
theorem dX5_letter_26 : decode cX5_letter 26 = .ok (.aload_n 0, 1) := by decide +kernel
theorem dX5_letter_27 : decode cX5_letter 27 = .ok (.getfield 10, 3) := by decide +kernel
theorem dX5_letter_30 : decode cX5_letter 30 = .ok (.getfield 58, 3) := by decide +kernel
theorem dX5_letter_33 : decode cX5_letter 33 = .ok (.goto 5, 3) := by decide +kernel
theorem dX5_letter_36 : decode cX5_letter 36 = .ok (.bipush (-104), 2) := by decide +kernel
theorem dX5_letter_38 : decode cX5_letter 38 = .ok (.ireturn, 1) := by decide +kernel
theorem dX5_blank_0 : decode cX5_blank 0 = .ok (.aload_n 0, 1) := by decide +kernel
theorem dX5_blank_1 : decode cX5_blank 1 = .ok (.getfield 10, 3) := by decide +kernel
theorem dX5_blank_4 : decode cX5_blank 4 = .ok (.invokevirtual 62, 3) := by decide +kernel
theorem dX5_blank_7 : decode cX5_blank 7 = .ok (.ireturn, 1) := by decide +kernel
theorem dX5_fault_0 : decode cX5_fault 0 = .ok (.iload_n 1, 1) := by decide +kernel
theorem dX5_fault_1 : decode cX5_fault 1 = .ok (.lookupswitch 43 #[(0, 27), (1, 35)], 27) := by decide +kernel
theorem dX5_fault_28 : decode cX5_fault 28 = .ok (.aload_n 0, 1) := by decide +kernel
theorem dX5_fault_29 : decode cX5_fault 29 = .ok (.getfield 10, 3) := by decide +kernel
theorem dX5_fault_32 : decode cX5_fault 32 = .ok (.invokevirtual 66, 3) := by decide +kernel
theorem dX5_fault_35 : decode cX5_fault 35 = .ok (.ireturn, 1) := by decide +kernel
theorem dX5_fault_36 : decode cX5_fault 36 = .ok (.aload_n 0, 1) := by decide +kernel
theorem dX5_fault_37 : decode cX5_fault 37 = .ok (.getfield 10, 3) := by decide +kernel
theorem dX5_fault_40 : decode cX5_fault 40 = .ok (.invokevirtual 69, 3) := by decide +kernel
theorem dX5_fault_43 : decode cX5_fault 43 = .ok (.ireturn, 1) := by decide +kernel
theorem dX5_fault_44 : decode cX5_fault 44 = .ok (.bipush (-102), 2) := by decide +kernel
theorem dX5_fault_46 : decode cX5_fault 46 = .ok (.ireturn, 1) := by decide +kernel
theorem dX5_say_0 : decode cX5_say 0 = .ok (.aload_n 0, 1) := by decide +kernel
theorem dX5_say_1 : decode cX5_say 1 = .ok (.getfield 10, 3) := by decide +kernel
theorem dX5_say_4 : decode cX5_say 4 = .ok (.invokevirtual 72, 3) := by decide +kernel
theorem dX5_say_7 : decode cX5_say 7 = .ok (.ifCond .ne 6, 3) := by decide +kernel
theorem dX5_say_10 : decode cX5_say 10 = .ok (.bipush (-103), 2) := by decide +kernel
theorem dX5_say_12 : decode cX5_say 12 = .ok (.ireturn, 1) := by decide +kernel
theorem dX5_say_13 : decode cX5_say 13 = .ok (.aload_n 0, 1) := by decide +kernel
theorem dX5_say_14 : decode cX5_say 14 = .ok (.getfield 27, 3) := by decide +kernel
theorem dX5_say_17 : decode cX5_say 17 = .ok (.aload_n 0, 1) := by decide +kernel
theorem dX5_say_18 : decode cX5_say 18 = .ok (.getfield 23, 3) := by decide +kernel
theorem dX5_say_21 : decode cX5_say 21 = .ok (.invokevirtual 76, 3) := by decide +kernel
theorem dX5_say_24 : decode cX5_say 24 = .ok (.aload_n 0, 1) := by decide +kernel
theorem dX5_say_25 : decode cX5_say 25 = .ok (.getfield 27, 3) := by decide +kernel
theorem dX5_say_28 : decode cX5_say 28 = .ok (.aload_n 0, 1) := by decide +kernel
theorem dX5_say_29 : decode cX5_say 29 = .ok (.getfield 16, 3) := by decide +kernel
theorem dX5_say_32 : decode cX5_say 32 = .ok (.invokevirtual 80, 3) := by decide +kernel
theorem dX5_say_35 : decode cX5_say 35 = .ok (.aload_n 0, 1) := by decide +kernel
theorem dX5_say_36 : decode cX5_say 36 = .ok (.getfield 23, 3) := by decide +kernel
theorem dX5_say_39 : decode cX5_say 39 = .ok (.aload_n 0, 1) := by decide +kernel
theorem dX5_say_40 : decode cX5_say 40 = .ok (.getfield 10, 3) := by decide +kernel
theorem dX5_say_43 : decode cX5_say 43 = .ok (.invokevirtual 84, 3) := by decide +kernel
theorem dX5_say_46 : decode cX5_say 46 = .ok (.aload_n 0, 1) := by decide +kernel
theorem dX5_say_47 : decode cX5_say 47 = .ok (.getfield 23, 3) := by decide +kernel
theorem dX5_say_50 : decode cX5_say 50 = .ok (.aload_n 0, 1) := by decide +kernel
theorem dX5_say_51 : decode cX5_say 51 = .ok (.getfield 16, 3) := by decide +kernel
theorem dX5_say_54 : decode cX5_say 54 = .ok (.invokevirtual 80, 3) := by decide +kernel
theorem dX5_say_57 : decode cX5_say 57 = .ok (.aload_n 0, 1) := by decide +kernel
theorem dX5_say_58 : decode cX5_say 58 = .ok (.getfield 10, 3) := by decide +kernel
theorem dX5_say_61 : decode cX5_say 61 = .ok (.invokevirtual 62, 3) := by decide +kernel
theorem dX5_say_64 : decode cX5_say 64 = .ok (.pop, 1) := by decide +kernel
theorem dX5_say_65 : decode cX5_say 65 = .ok (.aload_n 0, 1) := by decide +kernel
theorem dX5_say_66 : decode cX5_say 66 = .ok (.dup, 1) := by decide +kernel
theorem dX5_say_67 : decode cX5_say 67 = .ok (.getfield 88, 3) := by decide +kernel
theorem dX5_say_70 : decode cX5_say 70 = .ok (.iconst 1, 1) := by decide +kernel
theorem dX5_say_71 : decode cX5_say 71 = .ok (.iadd, 1) := by decide +kernel
theorem dX5_say_72 : decode cX5_say 72 = .ok (.putfield 88, 3) := by decide +kernel
theorem dX5_say_75 : decode cX5_say 75 = .ok (.aload_n 0, 1) := by decide +kernel
theorem dX5_say_76 : decode cX5_say 76 = .ok (.getfield 23, 3) := by decide +kernel
theorem dX5_say_79 : decode cX5_say 79 = .ok (.getfield 91, 3) := by decide +kernel
theorem dX5_say_82 : decode cX5_say 82 = .ok (.ireturn, 1) := by decide +kernel
theorem dX5_senses_0 : decode cX5_senses 0 = .ok (.aload_n 0, 1) := by decide +kernel
theorem dX5_senses_1 : decode cX5_senses 1 = .ok (.getfield 10, 3) := by decide +kernel
theorem dX5_senses_4 : decode cX5_senses 4 = .ok (.invokevirtual 94, 3) := by decide +kernel
theorem dX5_senses_7 : decode cX5_senses 7 = .ok (.ifCond .ne 6, 3) := by decide +kernel
theorem dX5_senses_10 : decode cX5_senses 10 = .ok (.bipush (-103), 2) := by decide +kernel
theorem dX5_senses_12 : decode cX5_senses 12 = .ok (.ireturn, 1) := by decide +kernel
theorem dX5_senses_13 : decode cX5_senses 13 = .ok (.iconst 0, 1) := by decide +kernel
theorem dX5_senses_14 : decode cX5_senses 14 = .ok (.istore_n 1, 1) := by decide +kernel
theorem dX5_senses_15 : decode cX5_senses 15 = .ok (.iconst 0, 1) := by decide +kernel
theorem dX5_senses_16 : decode cX5_senses 16 = .ok (.istore_n 2, 1) := by decide +kernel
theorem dX5_senses_17 : decode cX5_senses 17 = .ok (.iload_n 2, 1) := by decide +kernel
theorem dX5_senses_18 : decode cX5_senses 18 = .ok (.aload_n 0, 1) := by decide +kernel
theorem dX5_senses_19 : decode cX5_senses 19 = .ok (.getfield 16, 3) := by decide +kernel
theorem dX5_senses_22 : decode cX5_senses 22 = .ok (.arraylength, 1) := by decide +kernel
theorem dX5_senses_23 : decode cX5_senses 23 = .ok (.if_icmp .ge 39, 3) := by decide +kernel
theorem dX5_senses_26 : decode cX5_senses 26 = .ok (.aload_n 0, 1) := by decide +kernel
theorem dX5_senses_27 : decode cX5_senses 27 = .ok (.getfield 16, 3) := by decide +kernel
theorem dX5_senses_30 : decode cX5_senses 30 = .ok (.iload_n 2, 1) := by decide +kernel
theorem dX5_senses_31 : decode cX5_senses 31 = .ok (.aload_n 0, 1) := by decide +kernel
theorem dX5_senses_32 : decode cX5_senses 32 = .ok (.getfield 10, 3) := by decide +kernel
theorem dX5_senses_35 : decode cX5_senses 35 = .ok (.iload_n 2, 1) := by decide +kernel
theorem dX5_senses_36 : decode cX5_senses 36 = .ok (.invokevirtual 97, 3) := by decide +kernel
theorem dX5_senses_39 : decode cX5_senses 39 = .ok (.bipush 48, 2) := by decide +kernel
theorem dX5_senses_41 : decode cX5_senses 41 = .ok (.isub, 1) := by decide +kernel
theorem dX5_senses_42 : decode cX5_senses 42 = .ok (.iastore, 1) := by decide +kernel
theorem dX5_senses_43 : decode cX5_senses 43 = .ok (.aload_n 0, 1) := by decide +kernel
theorem dX5_senses_44 : decode cX5_senses 44 = .ok (.getfield 16, 3) := by decide +kernel
theorem dX5_senses_47 : decode cX5_senses 47 = .ok (.iload_n 2, 1) := by decide +kernel
theorem dX5_senses_48 : decode cX5_senses 48 = .ok (.iaload, 1) := by decide +kernel
theorem dX5_senses_49 : decode cX5_senses 49 = .ok (.iload_n 2, 1) := by decide +kernel
theorem dX5_senses_50 : decode cX5_senses 50 = .ok (.if_icmp .eq 6, 3) := by decide +kernel
theorem dX5_senses_53 : decode cX5_senses 53 = .ok (.iinc 1 1, 3) := by decide +kernel
theorem dX5_senses_56 : decode cX5_senses 56 = .ok (.iinc 2 1, 3) := by decide +kernel
theorem dX5_senses_59 : decode cX5_senses 59 = .ok (.goto (-42), 3) := by decide +kernel
theorem dX5_senses_62 : decode cX5_senses 62 = .ok (.aload_n 0, 1) := by decide +kernel
theorem dX5_senses_63 : decode cX5_senses 63 = .ok (.getfield 23, 3) := by decide +kernel
theorem dX5_senses_66 : decode cX5_senses 66 = .ok (.aload_n 0, 1) := by decide +kernel
theorem dX5_senses_67 : decode cX5_senses 67 = .ok (.getfield 16, 3) := by decide +kernel
theorem dX5_senses_70 : decode cX5_senses 70 = .ok (.invokevirtual 80, 3) := by decide +kernel
theorem dX5_senses_73 : decode cX5_senses 73 = .ok (.aload_n 0, 1) := by decide +kernel
theorem dX5_senses_74 : decode cX5_senses 74 = .ok (.getfield 27, 3) := by decide +kernel
theorem dX5_senses_77 : decode cX5_senses 77 = .ok (.aload_n 0, 1) := by decide +kernel
theorem dX5_senses_78 : decode cX5_senses 78 = .ok (.getfield 16, 3) := by decide +kernel
theorem dX5_senses_81 : decode cX5_senses 81 = .ok (.invokevirtual 80, 3) := by decide +kernel
theorem dX5_senses_84 : decode cX5_senses 84 = .ok (.aload_n 0, 1) := by decide +kernel
theorem dX5_senses_85 : decode cX5_senses 85 = .ok (.getfield 10, 3) := by decide +kernel
theorem dX5_senses_88 : decode cX5_senses 88 = .ok (.invokevirtual 62, 3) := by decide +kernel
theorem dX5_senses_91 : decode cX5_senses 91 = .ok (.pop, 1) := by decide +kernel
theorem dX5_senses_92 : decode cX5_senses 92 = .ok (.iload_n 1, 1) := by decide +kernel
theorem dX5_senses_93 : decode cX5_senses 93 = .ok (.ireturn, 1) := by decide +kernel
theorem dX5_sense_0 : decode cX5_sense 0 = .ok (.iload_n 1, 1) := by decide +kernel
theorem dX5_sense_1 : decode cX5_sense 1 = .ok (.ifCond .lt 12, 3) := by decide +kernel
theorem dX5_sense_4 : decode cX5_sense 4 = .ok (.iload_n 1, 1) := by decide +kernel
theorem dX5_sense_5 : decode cX5_sense 5 = .ok (.aload_n 0, 1) := by decide +kernel
theorem dX5_sense_6 : decode cX5_sense 6 = .ok (.getfield 16, 3) := by decide +kernel
theorem dX5_sense_9 : decode cX5_sense 9 = .ok (.arraylength, 1) := by decide +kernel
theorem dX5_sense_10 : decode cX5_sense 10 = .ok (.if_icmp .lt 6, 3) := by decide +kernel
theorem dX5_sense_13 : decode cX5_sense 13 = .ok (.bipush (-101), 2) := by decide +kernel
theorem dX5_sense_15 : decode cX5_sense 15 = .ok (.ireturn, 1) := by decide +kernel
theorem dX5_sense_16 : decode cX5_sense 16 = .ok (.aload_n 0, 1) := by decide +kernel
theorem dX5_sense_17 : decode cX5_sense 17 = .ok (.getfield 16, 3) := by decide +kernel
theorem dX5_sense_20 : decode cX5_sense 20 = .ok (.iload_n 1, 1) := by decide +kernel
theorem dX5_sense_21 : decode cX5_sense 21 = .ok (.iaload, 1) := by decide +kernel
theorem dX5_sense_22 : decode cX5_sense 22 = .ok (.ireturn, 1) := by decide +kernel
theorem dX5_reading_0 : decode cX5_reading 0 = .ok (.aload_n 0, 1) := by decide +kernel
theorem dX5_reading_1 : decode cX5_reading 1 = .ok (.getfield 23, 3) := by decide +kernel
theorem dX5_reading_4 : decode cX5_reading 4 = .ok (.iload_n 1, 1) := by decide +kernel
theorem dX5_reading_5 : decode cX5_reading 5 = .ok (.invokevirtual 101, 3) := by decide +kernel
theorem dX5_reading_8 : decode cX5_reading 8 = .ok (.ifCond .ne 6, 3) := by decide +kernel
theorem dX5_reading_11 : decode cX5_reading 11 = .ok (.bipush (-101), 2) := by decide +kernel
theorem dX5_reading_13 : decode cX5_reading 13 = .ok (.ireturn, 1) := by decide +kernel
theorem dX5_reading_14 : decode cX5_reading 14 = .ok (.aload_n 0, 1) := by decide +kernel
theorem dX5_reading_15 : decode cX5_reading 15 = .ok (.getfield 23, 3) := by decide +kernel
theorem dX5_reading_18 : decode cX5_reading 18 = .ok (.iload_n 1, 1) := by decide +kernel
theorem dX5_reading_19 : decode cX5_reading 19 = .ok (.invokevirtual 104, 3) := by decide +kernel
theorem dX5_reading_22 : decode cX5_reading 22 = .ok (.invokestatic 108, 3) := by decide +kernel
theorem dX5_reading_25 : decode cX5_reading 25 = .ok (.ireturn, 1) := by decide +kernel
theorem dX5_isSo_0 : decode cX5_isSo 0 = .ok (.aload_n 0, 1) := by decide +kernel
theorem dX5_isSo_1 : decode cX5_isSo 1 = .ok (.getfield 23, 3) := by decide +kernel
theorem dX5_isSo_4 : decode cX5_isSo 4 = .ok (.iload_n 1, 1) := by decide +kernel
theorem dX5_isSo_5 : decode cX5_isSo 5 = .ok (.invokevirtual 101, 3) := by decide +kernel
theorem dX5_isSo_8 : decode cX5_isSo 8 = .ok (.ifCond .eq 10, 3) := by decide +kernel
theorem dX5_isSo_11 : decode cX5_isSo 11 = .ok (.iload_n 2, 1) := by decide +kernel
theorem dX5_isSo_12 : decode cX5_isSo 12 = .ok (.invokestatic 114, 3) := by decide +kernel
theorem dX5_isSo_15 : decode cX5_isSo 15 = .ok (.ifCond .ne 6, 3) := by decide +kernel
theorem dX5_isSo_18 : decode cX5_isSo 18 = .ok (.bipush (-101), 2) := by decide +kernel
theorem dX5_isSo_20 : decode cX5_isSo 20 = .ok (.ireturn, 1) := by decide +kernel
theorem dX5_isSo_21 : decode cX5_isSo 21 = .ok (.aload_n 0, 1) := by decide +kernel
theorem dX5_isSo_22 : decode cX5_isSo 22 = .ok (.getfield 23, 3) := by decide +kernel
theorem dX5_isSo_25 : decode cX5_isSo 25 = .ok (.iload_n 1, 1) := by decide +kernel
theorem dX5_isSo_26 : decode cX5_isSo 26 = .ok (.invokevirtual 104, 3) := by decide +kernel
theorem dX5_isSo_29 : decode cX5_isSo 29 = .ok (.iload_n 2, 1) := by decide +kernel
theorem dX5_isSo_30 : decode cX5_isSo 30 = .ok (.invokestatic 117, 3) := by decide +kernel
theorem dX5_isSo_33 : decode cX5_isSo 33 = .ok (.ireturn, 1) := by decide +kernel
theorem dX5_come_0 : decode cX5_come 0 = .ok (.iload_n 1, 1) := by decide +kernel
theorem dX5_come_1 : decode cX5_come 1 = .ok (.ifCond .lt 8, 3) := by decide +kernel
theorem dX5_come_4 : decode cX5_come 4 = .ok (.iload_n 1, 1) := by decide +kernel
theorem dX5_come_5 : decode cX5_come 5 = .ok (.iconst 1, 1) := by decide +kernel
theorem dX5_come_6 : decode cX5_come 6 = .ok (.if_icmp .le 6, 3) := by decide +kernel
theorem dX5_come_9 : decode cX5_come 9 = .ok (.bipush (-102), 2) := by decide +kernel
theorem dX5_come_11 : decode cX5_come 11 = .ok (.ireturn, 1) := by decide +kernel
theorem dX5_come_12 : decode cX5_come 12 = .ok (.aload_n 0, 1) := by decide +kernel
theorem dX5_come_13 : decode cX5_come 13 = .ok (.getfield 23, 3) := by decide +kernel
theorem dX5_come_16 : decode cX5_come 16 = .ok (.invokevirtual 121, 3) := by decide +kernel
theorem dX5_come_19 : decode cX5_come 19 = .ok (.ifCond .eq 6, 3) := by decide +kernel
theorem dX5_come_22 : decode cX5_come 22 = .ok (.bipush (-103), 2) := by decide +kernel
theorem dX5_come_24 : decode cX5_come 24 = .ok (.ireturn, 1) := by decide +kernel
theorem dX5_come_25 : decode cX5_come 25 = .ok (.iload_n 1, 1) := by decide +kernel
theorem dX5_come_26 : decode cX5_come 26 = .ok (.ifCond .ne 17, 3) := by decide +kernel
theorem dX5_come_29 : decode cX5_come 29 = .ok (.aload_n 0, 1) := by decide +kernel
theorem dX5_come_30 : decode cX5_come 30 = .ok (.getfield 23, 3) := by decide +kernel
theorem dX5_come_33 : decode cX5_come 33 = .ok (.aload_n 0, 1) := by decide +kernel
theorem dX5_come_34 : decode cX5_come 34 = .ok (.getfield 124, 3) := by decide +kernel
theorem dX5_come_37 : decode cX5_come 37 = .ok (.invokevirtual 127, 3) := by decide +kernel
theorem dX5_come_40 : decode cX5_come 40 = .ok (.goto 14, 3) := by decide +kernel
theorem dX5_come_43 : decode cX5_come 43 = .ok (.aload_n 0, 1) := by decide +kernel
theorem dX5_come_44 : decode cX5_come 44 = .ok (.getfield 23, 3) := by decide +kernel
theorem dX5_come_47 : decode cX5_come 47 = .ok (.aload_n 0, 1) := by decide +kernel
theorem dX5_come_48 : decode cX5_come 48 = .ok (.getfield 124, 3) := by decide +kernel
theorem dX5_come_51 : decode cX5_come 51 = .ok (.invokevirtual 130, 3) := by decide +kernel
theorem dX5_come_54 : decode cX5_come 54 = .ok (.ireturn, 1) := by decide +kernel
theorem dX5_fact_0 : decode cX5_fact 0 = .ok (.iload_n 1, 1) := by decide +kernel
theorem dX5_fact_1 : decode cX5_fact 1 = .ok (.invokestatic 133, 3) := by decide +kernel
theorem dX5_fact_4 : decode cX5_fact 4 = .ok (.ifCond .eq 15, 3) := by decide +kernel
theorem dX5_fact_7 : decode cX5_fact 7 = .ok (.aload_n 0, 1) := by decide +kernel
theorem dX5_fact_8 : decode cX5_fact 8 = .ok (.getfield 124, 3) := by decide +kernel
theorem dX5_fact_11 : decode cX5_fact 11 = .ok (.i2l, 1) := by decide +kernel
theorem dX5_fact_12 : decode cX5_fact 12 = .ok (.iload_n 1, 1) := by decide +kernel
theorem dX5_fact_13 : decode cX5_fact 13 = .ok (.invokestatic 117, 3) := by decide +kernel
theorem dX5_fact_16 : decode cX5_fact 16 = .ok (.goto 5, 3) := by decide +kernel
theorem dX5_fact_19 : decode cX5_fact 19 = .ok (.bipush (-101), 2) := by decide +kernel
theorem dX5_fact_21 : decode cX5_fact 21 = .ok (.ireturn, 1) := by decide +kernel
theorem dX5_set_0 : decode cX5_set 0 = .ok (.iload_n 1, 1) := by decide +kernel
theorem dX5_set_1 : decode cX5_set 1 = .ok (.invokestatic 133, 3) := by decide +kernel
theorem dX5_set_4 : decode cX5_set 4 = .ok (.ifCond .ne 6, 3) := by decide +kernel
theorem dX5_set_7 : decode cX5_set 7 = .ok (.bipush (-101), 2) := by decide +kernel
theorem dX5_set_9 : decode cX5_set 9 = .ok (.ireturn, 1) := by decide +kernel
theorem dX5_set_10 : decode cX5_set 10 = .ok (.iload_n 2, 1) := by decide +kernel
theorem dX5_set_11 : decode cX5_set 11 = .ok (.invokestatic 136, 3) := by decide +kernel
theorem dX5_set_14 : decode cX5_set 14 = .ok (.ifCond .ne 6, 3) := by decide +kernel
theorem dX5_set_17 : decode cX5_set 17 = .ok (.bipush (-102), 2) := by decide +kernel
theorem dX5_set_19 : decode cX5_set 19 = .ok (.ireturn, 1) := by decide +kernel
theorem dX5_set_20 : decode cX5_set 20 = .ok (.aload_n 0, 1) := by decide +kernel
theorem dX5_set_21 : decode cX5_set 21 = .ok (.getfield 124, 3) := by decide +kernel
theorem dX5_set_24 : decode cX5_set 24 = .ok (.i2l, 1) := by decide +kernel
theorem dX5_set_25 : decode cX5_set 25 = .ok (.iload_n 1, 1) := by decide +kernel
theorem dX5_set_26 : decode cX5_set 26 = .ok (.invokestatic 117, 3) := by decide +kernel
theorem dX5_set_29 : decode cX5_set 29 = .ok (.istore_n 3, 1) := by decide +kernel
theorem dX5_set_30 : decode cX5_set 30 = .ok (.aload_n 0, 1) := by decide +kernel
theorem dX5_set_31 : decode cX5_set 31 = .ok (.aload_n 0, 1) := by decide +kernel
theorem dX5_set_32 : decode cX5_set 32 = .ok (.getfield 124, 3) := by decide +kernel
theorem dX5_set_35 : decode cX5_set 35 = .ok (.iload_n 1, 1) := by decide +kernel
theorem dX5_set_36 : decode cX5_set 36 = .ok (.iload_n 2, 1) := by decide +kernel
theorem dX5_set_37 : decode cX5_set 37 = .ok (.invokestatic 139, 3) := by decide +kernel
theorem dX5_set_40 : decode cX5_set 40 = .ok (.putfield 124, 3) := by decide +kernel
theorem dX5_set_43 : decode cX5_set 43 = .ok (.iload_n 3, 1) := by decide +kernel
theorem dX5_set_44 : decode cX5_set 44 = .ok (.ireturn, 1) := by decide +kernel
theorem dX5_hearer_0 : decode cX5_hearer 0 = .ok (.iload_n 2, 1) := by decide +kernel
theorem dX5_hearer_1 : decode cX5_hearer 1 = .ok (.invokestatic 133, 3) := by decide +kernel
theorem dX5_hearer_4 : decode cX5_hearer 4 = .ok (.ifCond .ne 6, 3) := by decide +kernel
theorem dX5_hearer_7 : decode cX5_hearer 7 = .ok (.bipush (-101), 2) := by decide +kernel
theorem dX5_hearer_9 : decode cX5_hearer 9 = .ok (.ireturn, 1) := by decide +kernel
theorem dX5_hearer_10 : decode cX5_hearer 10 = .ok (.iload_n 1, 1) := by decide +kernel
theorem dX5_hearer_11 : decode cX5_hearer 11 = .ok (.invokestatic 143, 3) := by decide +kernel
theorem dX5_hearer_14 : decode cX5_hearer 14 = .ok (.ifCond .eq 10, 3) := by decide +kernel
theorem dX5_hearer_17 : decode cX5_hearer 17 = .ok (.iload_n 3, 1) := by decide +kernel
theorem dX5_hearer_18 : decode cX5_hearer 18 = .ok (.invokestatic 136, 3) := by decide +kernel
theorem dX5_hearer_21 : decode cX5_hearer 21 = .ok (.ifCond .ne 6, 3) := by decide +kernel
theorem dX5_hearer_24 : decode cX5_hearer 24 = .ok (.bipush (-102), 2) := by decide +kernel
theorem dX5_hearer_26 : decode cX5_hearer 26 = .ok (.ireturn, 1) := by decide +kernel
theorem dX5_hearer_27 : decode cX5_hearer 27 = .ok (.aload_n 0, 1) := by decide +kernel
theorem dX5_hearer_28 : decode cX5_hearer 28 = .ok (.getfield 36, 3) := by decide +kernel
theorem dX5_hearer_31 : decode cX5_hearer 31 = .ok (.iload_n 1, 1) := by decide +kernel
theorem dX5_hearer_32 : decode cX5_hearer 32 = .ok (.iload_n 2, 1) := by decide +kernel
theorem dX5_hearer_33 : decode cX5_hearer 33 = .ok (.iload_n 3, 1) := by decide +kernel
theorem dX5_hearer_34 : decode cX5_hearer 34 = .ok (.invokevirtual 146, 3) := by decide +kernel
theorem dX5_hearer_37 : decode cX5_hearer 37 = .ok (.ifCond .eq 15, 3) := by decide +kernel
theorem dX5_hearer_40 : decode cX5_hearer 40 = .ok (.aload_n 0, 1) := by decide +kernel
theorem dX5_hearer_41 : decode cX5_hearer 41 = .ok (.getfield 36, 3) := by decide +kernel
theorem dX5_hearer_44 : decode cX5_hearer 44 = .ok (.getfield 150, 3) := by decide +kernel
theorem dX5_hearer_47 : decode cX5_hearer 47 = .ok (.iconst 1, 1) := by decide +kernel
theorem dX5_hearer_48 : decode cX5_hearer 48 = .ok (.isub, 1) := by decide +kernel
theorem dX5_hearer_49 : decode cX5_hearer 49 = .ok (.goto 5, 3) := by decide +kernel
theorem dX5_hearer_52 : decode cX5_hearer 52 = .ok (.bipush (-104), 2) := by decide +kernel
theorem dX5_hearer_54 : decode cX5_hearer 54 = .ok (.ireturn, 1) := by decide +kernel
theorem dX5_about_0 : decode cX5_about 0 = .ok (.aload_n 0, 1) := by decide +kernel
theorem dX5_about_1 : decode cX5_about 1 = .ok (.getfield 36, 3) := by decide +kernel
theorem dX5_about_4 : decode cX5_about 4 = .ok (.iload_n 1, 1) := by decide +kernel
theorem dX5_about_5 : decode cX5_about 5 = .ok (.invokevirtual 153, 3) := by decide +kernel
theorem dX5_about_8 : decode cX5_about 8 = .ok (.ifCond .ne 6, 3) := by decide +kernel
theorem dX5_about_11 : decode cX5_about 11 = .ok (.bipush (-101), 2) := by decide +kernel
theorem dX5_about_13 : decode cX5_about 13 = .ok (.ireturn, 1) := by decide +kernel
theorem dX5_about_14 : decode cX5_about 14 = .ok (.iload_n 2, 1) := by decide +kernel
theorem dX5_about_15 : decode cX5_about 15 = .ok (.tableswitch 93 0 5 #[37, 46, 55, 64, 70, 84], 37) := by decide +kernel
theorem dX5_about_52 : decode cX5_about 52 = .ok (.aload_n 0, 1) := by decide +kernel
theorem dX5_about_53 : decode cX5_about 53 = .ok (.getfield 36, 3) := by decide +kernel
theorem dX5_about_56 : decode cX5_about 56 = .ok (.iload_n 1, 1) := by decide +kernel
theorem dX5_about_57 : decode cX5_about 57 = .ok (.invokevirtual 156, 3) := by decide +kernel
theorem dX5_about_60 : decode cX5_about 60 = .ok (.ireturn, 1) := by decide +kernel
theorem dX5_about_61 : decode cX5_about 61 = .ok (.aload_n 0, 1) := by decide +kernel
theorem dX5_about_62 : decode cX5_about 62 = .ok (.getfield 36, 3) := by decide +kernel
theorem dX5_about_65 : decode cX5_about 65 = .ok (.iload_n 1, 1) := by decide +kernel
theorem dX5_about_66 : decode cX5_about 66 = .ok (.invokevirtual 159, 3) := by decide +kernel
theorem dX5_about_69 : decode cX5_about 69 = .ok (.ireturn, 1) := by decide +kernel
theorem dX5_about_70 : decode cX5_about 70 = .ok (.aload_n 0, 1) := by decide +kernel
theorem dX5_about_71 : decode cX5_about 71 = .ok (.getfield 36, 3) := by decide +kernel
theorem dX5_about_74 : decode cX5_about 74 = .ok (.iload_n 1, 1) := by decide +kernel
theorem dX5_about_75 : decode cX5_about 75 = .ok (.invokevirtual 162, 3) := by decide +kernel
theorem dX5_about_78 : decode cX5_about 78 = .ok (.ireturn, 1) := by decide +kernel
theorem dX5_about_79 : decode cX5_about 79 = .ok (.aload_n 0, 1) := by decide +kernel
theorem dX5_about_80 : decode cX5_about 80 = .ok (.iload_n 1, 1) := by decide +kernel
theorem dX5_about_81 : decode cX5_about 81 = .ok (.invokevirtual 165, 3) := by decide +kernel
theorem dX5_about_84 : decode cX5_about 84 = .ok (.ireturn, 1) := by decide +kernel
theorem dX5_about_85 : decode cX5_about 85 = .ok (.aload_n 0, 1) := by decide +kernel
theorem dX5_about_86 : decode cX5_about 86 = .ok (.iload_n 1, 1) := by decide +kernel
theorem dX5_about_87 : decode cX5_about 87 = .ok (.invokevirtual 168, 3) := by decide +kernel
theorem dX5_about_90 : decode cX5_about 90 = .ok (.ifCond .eq 7, 3) := by decide +kernel
theorem dX5_about_93 : decode cX5_about 93 = .ok (.iconst 1, 1) := by decide +kernel
theorem dX5_about_94 : decode cX5_about 94 = .ok (.goto 4, 3) := by decide +kernel
theorem dX5_about_97 : decode cX5_about 97 = .ok (.iconst 0, 1) := by decide +kernel
theorem dX5_about_98 : decode cX5_about 98 = .ok (.ireturn, 1) := by decide +kernel
theorem dX5_about_99 : decode cX5_about 99 = .ok (.aload_n 0, 1) := by decide +kernel
theorem dX5_about_100 : decode cX5_about 100 = .ok (.getfield 36, 3) := by decide +kernel
theorem dX5_about_103 : decode cX5_about 103 = .ok (.iload_n 1, 1) := by decide +kernel
theorem dX5_about_104 : decode cX5_about 104 = .ok (.invokevirtual 171, 3) := by decide +kernel
theorem dX5_about_107 : decode cX5_about 107 = .ok (.ireturn, 1) := by decide +kernel
theorem dX5_about_108 : decode cX5_about 108 = .ok (.bipush (-102), 2) := by decide +kernel
theorem dX5_about_110 : decode cX5_about 110 = .ok (.ireturn, 1) := by decide +kernel
theorem dX5_as_0 : decode cX5_as 0 = .ok (.aload_n 0, 1) := by decide +kernel
theorem dX5_as_1 : decode cX5_as 1 = .ok (.getfield 36, 3) := by decide +kernel
theorem dX5_as_4 : decode cX5_as 4 = .ok (.iload_n 1, 1) := by decide +kernel
theorem dX5_as_5 : decode cX5_as 5 = .ok (.invokevirtual 153, 3) := by decide +kernel
theorem dX5_as_8 : decode cX5_as 8 = .ok (.ifCond .ne 6, 3) := by decide +kernel
theorem dX5_as_11 : decode cX5_as 11 = .ok (.bipush (-101), 2) := by decide +kernel
theorem dX5_as_13 : decode cX5_as 13 = .ok (.ireturn, 1) := by decide +kernel
theorem dX5_as_14 : decode cX5_as 14 = .ok (.iload_n 2, 1) := by decide +kernel
theorem dX5_as_15 : decode cX5_as 15 = .ok (.invokestatic 143, 3) := by decide +kernel
theorem dX5_as_18 : decode cX5_as 18 = .ok (.ifCond .ne 6, 3) := by decide +kernel
theorem dX5_as_21 : decode cX5_as 21 = .ok (.bipush (-102), 2) := by decide +kernel
theorem dX5_as_23 : decode cX5_as 23 = .ok (.ireturn, 1) := by decide +kernel
theorem dX5_as_24 : decode cX5_as 24 = .ok (.aload_n 0, 1) := by decide +kernel
theorem dX5_as_25 : decode cX5_as 25 = .ok (.getfield 36, 3) := by decide +kernel
theorem dX5_as_28 : decode cX5_as 28 = .ok (.iload_n 1, 1) := by decide +kernel
theorem dX5_as_29 : decode cX5_as 29 = .ok (.invokevirtual 156, 3) := by decide +kernel
theorem dX5_as_32 : decode cX5_as 32 = .ok (.iload_n 2, 1) := by decide +kernel
theorem dX5_as_33 : decode cX5_as 33 = .ok (.invokestatic 174, 3) := by decide +kernel
theorem dX5_as_36 : decode cX5_as 36 = .ok (.ifCond .eq 7, 3) := by decide +kernel
theorem dX5_as_39 : decode cX5_as 39 = .ok (.iload_n 1, 1) := by decide +kernel
theorem dX5_as_40 : decode cX5_as 40 = .ok (.goto 4, 3) := by decide +kernel
theorem dX5_as_43 : decode cX5_as 43 = .ok (.iconst (-1), 1) := by decide +kernel
theorem dX5_as_44 : decode cX5_as 44 = .ok (.ireturn, 1) := by decide +kernel
theorem dX5_act_0 : decode cX5_act 0 = .ok (.aload_n 0, 1) := by decide +kernel
theorem dX5_act_1 : decode cX5_act 1 = .ok (.getfield 36, 3) := by decide +kernel
theorem dX5_act_4 : decode cX5_act 4 = .ok (.iload_n 1, 1) := by decide +kernel
theorem dX5_act_5 : decode cX5_act 5 = .ok (.invokevirtual 153, 3) := by decide +kernel
theorem dX5_act_8 : decode cX5_act 8 = .ok (.ifCond .ne 6, 3) := by decide +kernel
theorem dX5_act_11 : decode cX5_act 11 = .ok (.bipush (-101), 2) := by decide +kernel
theorem dX5_act_13 : decode cX5_act 13 = .ok (.ireturn, 1) := by decide +kernel
theorem dX5_act_14 : decode cX5_act 14 = .ok (.aload_n 0, 1) := by decide +kernel
theorem dX5_act_15 : decode cX5_act 15 = .ok (.getfield 23, 3) := by decide +kernel
theorem dX5_act_18 : decode cX5_act 18 = .ok (.invokevirtual 121, 3) := by decide +kernel
theorem dX5_act_21 : decode cX5_act 21 = .ok (.ifCond .eq 6, 3) := by decide +kernel
theorem dX5_act_24 : decode cX5_act 24 = .ok (.bipush (-103), 2) := by decide +kernel
theorem dX5_act_26 : decode cX5_act 26 = .ok (.ireturn, 1) := by decide +kernel
theorem dX5_act_27 : decode cX5_act 27 = .ok (.aload_n 0, 1) := by decide +kernel
theorem dX5_act_28 : decode cX5_act 28 = .ok (.iload_n 1, 1) := by decide +kernel
theorem dX5_act_29 : decode cX5_act 29 = .ok (.invokevirtual 178, 3) := by decide +kernel
theorem dX5_act_32 : decode cX5_act 32 = .ok (.aload_n 0, 1) := by decide +kernel
theorem dX5_act_33 : decode cX5_act 33 = .ok (.getfield 124, 3) := by decide +kernel
theorem dX5_act_36 : decode cX5_act 36 = .ok (.ireturn, 1) := by decide +kernel
theorem dX5_round_0 : decode cX5_round 0 = .ok (.aload_n 0, 1) := by decide +kernel
theorem dX5_round_1 : decode cX5_round 1 = .ok (.getfield 23, 3) := by decide +kernel
theorem dX5_round_4 : decode cX5_round 4 = .ok (.invokevirtual 121, 3) := by decide +kernel
theorem dX5_round_7 : decode cX5_round 7 = .ok (.ifCond .eq 6, 3) := by decide +kernel
theorem dX5_round_10 : decode cX5_round 10 = .ok (.bipush (-103), 2) := by decide +kernel
theorem dX5_round_12 : decode cX5_round 12 = .ok (.ireturn, 1) := by decide +kernel
theorem dX5_round_13 : decode cX5_round 13 = .ok (.iconst 0, 1) := by decide +kernel
theorem dX5_round_14 : decode cX5_round 14 = .ok (.istore_n 1, 1) := by decide +kernel
theorem dX5_round_15 : decode cX5_round 15 = .ok (.iload_n 1, 1) := by decide +kernel
theorem dX5_round_16 : decode cX5_round 16 = .ok (.aload_n 0, 1) := by decide +kernel
theorem dX5_round_17 : decode cX5_round 17 = .ok (.getfield 36, 3) := by decide +kernel
theorem dX5_round_20 : decode cX5_round 20 = .ok (.getfield 150, 3) := by decide +kernel
theorem dX5_round_23 : decode cX5_round 23 = .ok (.if_icmp .ge 14, 3) := by decide +kernel
theorem dX5_round_26 : decode cX5_round 26 = .ok (.aload_n 0, 1) := by decide +kernel
theorem dX5_round_27 : decode cX5_round 27 = .ok (.iload_n 1, 1) := by decide +kernel
theorem dX5_round_28 : decode cX5_round 28 = .ok (.invokevirtual 178, 3) := by decide +kernel
theorem dX5_round_31 : decode cX5_round 31 = .ok (.iinc 1 1, 3) := by decide +kernel
theorem dX5_round_34 : decode cX5_round 34 = .ok (.goto (-19), 3) := by decide +kernel
theorem dX5_round_37 : decode cX5_round 37 = .ok (.aload_n 0, 1) := by decide +kernel
theorem dX5_round_38 : decode cX5_round 38 = .ok (.dup, 1) := by decide +kernel
theorem dX5_round_39 : decode cX5_round 39 = .ok (.getfield 182, 3) := by decide +kernel
theorem dX5_round_42 : decode cX5_round 42 = .ok (.iconst 1, 1) := by decide +kernel
theorem dX5_round_43 : decode cX5_round 43 = .ok (.iadd, 1) := by decide +kernel
theorem dX5_round_44 : decode cX5_round 44 = .ok (.putfield 182, 3) := by decide +kernel
theorem dX5_round_47 : decode cX5_round 47 = .ok (.aload_n 0, 1) := by decide +kernel
theorem dX5_round_48 : decode cX5_round 48 = .ok (.getfield 124, 3) := by decide +kernel
theorem dX5_round_51 : decode cX5_round 51 = .ok (.ireturn, 1) := by decide +kernel
theorem dX5_anyhow_0 : decode cX5_anyhow 0 = .ok (.aload_n 0, 1) := by decide +kernel
theorem dX5_anyhow_1 : decode cX5_anyhow 1 = .ok (.getfield 23, 3) := by decide +kernel
theorem dX5_anyhow_4 : decode cX5_anyhow 4 = .ok (.invokevirtual 121, 3) := by decide +kernel
theorem dX5_anyhow_7 : decode cX5_anyhow 7 = .ok (.ifCond .eq 6, 3) := by decide +kernel
theorem dX5_anyhow_10 : decode cX5_anyhow 10 = .ok (.bipush (-103), 2) := by decide +kernel
theorem dX5_anyhow_12 : decode cX5_anyhow 12 = .ok (.ireturn, 1) := by decide +kernel
theorem dX5_anyhow_13 : decode cX5_anyhow 13 = .ok (.iconst 0, 1) := by decide +kernel
theorem dX5_anyhow_14 : decode cX5_anyhow 14 = .ok (.istore_n 1, 1) := by decide +kernel
theorem dX5_anyhow_15 : decode cX5_anyhow 15 = .ok (.iconst 0, 1) := by decide +kernel
theorem dX5_anyhow_16 : decode cX5_anyhow 16 = .ok (.istore_n 2, 1) := by decide +kernel
theorem dX5_anyhow_17 : decode cX5_anyhow 17 = .ok (.iload_n 2, 1) := by decide +kernel
theorem dX5_anyhow_18 : decode cX5_anyhow 18 = .ok (.bipush 64, 2) := by decide +kernel
theorem dX5_anyhow_20 : decode cX5_anyhow 20 = .ok (.if_icmp .ge 27, 3) := by decide +kernel
theorem dX5_anyhow_23 : decode cX5_anyhow 23 = .ok (.iload_n 1, 1) := by decide +kernel
theorem dX5_anyhow_24 : decode cX5_anyhow 24 = .ok (.aload_n 0, 1) := by decide +kernel
theorem dX5_anyhow_25 : decode cX5_anyhow 25 = .ok (.getfield 23, 3) := by decide +kernel
theorem dX5_anyhow_28 : decode cX5_anyhow 28 = .ok (.getfield 185, 3) := by decide +kernel
theorem dX5_anyhow_31 : decode cX5_anyhow 31 = .ok (.aload_n 0, 1) := by decide +kernel
theorem dX5_anyhow_32 : decode cX5_anyhow 32 = .ok (.iload_n 2, 1) := by decide +kernel
theorem dX5_anyhow_33 : decode cX5_anyhow 33 = .ok (.invokevirtual 189, 3) := by decide +kernel
theorem dX5_anyhow_36 : decode cX5_anyhow 36 = .ok (.invokestatic 117, 3) := by decide +kernel
theorem dX5_anyhow_39 : decode cX5_anyhow 39 = .ok (.iadd, 1) := by decide +kernel
theorem dX5_anyhow_40 : decode cX5_anyhow 40 = .ok (.istore_n 1, 1) := by decide +kernel
theorem dX5_anyhow_41 : decode cX5_anyhow 41 = .ok (.iinc 2 1, 3) := by decide +kernel
theorem dX5_anyhow_44 : decode cX5_anyhow 44 = .ok (.goto (-27), 3) := by decide +kernel
theorem dX5_anyhow_47 : decode cX5_anyhow 47 = .ok (.iload_n 1, 1) := by decide +kernel
theorem dX5_anyhow_48 : decode cX5_anyhow 48 = .ok (.ireturn, 1) := by decide +kernel
theorem dX5_left_0 : decode cX5_left 0 = .ok (.iload_n 1, 1) := by decide +kernel
theorem dX5_left_1 : decode cX5_left 1 = .ok (.ifCond .lt 8, 3) := by decide +kernel
theorem dX5_left_4 : decode cX5_left 4 = .ok (.iload_n 1, 1) := by decide +kernel
theorem dX5_left_5 : decode cX5_left 5 = .ok (.iconst 2, 1) := by decide +kernel
theorem dX5_left_6 : decode cX5_left 6 = .ok (.if_icmp .le 6, 3) := by decide +kernel
theorem dX5_left_9 : decode cX5_left 9 = .ok (.bipush (-102), 2) := by decide +kernel
theorem dX5_left_11 : decode cX5_left 11 = .ok (.ireturn, 1) := by decide +kernel
theorem dX5_left_12 : decode cX5_left 12 = .ok (.aload_n 0, 1) := by decide +kernel
theorem dX5_left_13 : decode cX5_left 13 = .ok (.getfield 23, 3) := by decide +kernel
theorem dX5_left_16 : decode cX5_left 16 = .ok (.invokevirtual 121, 3) := by decide +kernel
theorem dX5_left_19 : decode cX5_left 19 = .ok (.ifCond .eq 6, 3) := by decide +kernel
theorem dX5_left_22 : decode cX5_left 22 = .ok (.bipush (-103), 2) := by decide +kernel
theorem dX5_left_24 : decode cX5_left 24 = .ok (.ireturn, 1) := by decide +kernel
theorem dX5_left_25 : decode cX5_left 25 = .ok (.aload_n 0, 1) := by decide +kernel
theorem dX5_left_26 : decode cX5_left 26 = .ok (.invokevirtual 192, 3) := by decide +kernel
theorem dX5_left_29 : decode cX5_left 29 = .ok (.lstore_n 2, 1) := by decide +kernel
theorem dX5_left_30 : decode cX5_left 30 = .ok (.iload_n 1, 1) := by decide +kernel
theorem dX5_left_31 : decode cX5_left 31 = .ok (.lookupswitch 35 #[(0, 25), (1, 30)], 25) := by decide +kernel
theorem dX5_left_56 : decode cX5_left 56 = .ok (.lload_n 2, 1) := by decide +kernel
theorem dX5_left_57 : decode cX5_left 57 = .ok (.invokestatic 108, 3) := by decide +kernel
theorem dX5_left_60 : decode cX5_left 60 = .ok (.ireturn, 1) := by decide +kernel
theorem dX5_left_61 : decode cX5_left 61 = .ok (.lload_n 2, 1) := by decide +kernel
theorem dX5_left_62 : decode cX5_left 62 = .ok (.invokestatic 196, 3) := by decide +kernel
theorem dX5_left_65 : decode cX5_left 65 = .ok (.ireturn, 1) := by decide +kernel
theorem dX5_left_66 : decode cX5_left 66 = .ok (.lload_n 2, 1) := by decide +kernel
theorem dX5_left_67 : decode cX5_left 67 = .ok (.invokestatic 199, 3) := by decide +kernel
theorem dX5_left_70 : decode cX5_left 70 = .ok (.ireturn, 1) := by decide +kernel
theorem dX5_ask_0 : decode cX5_ask 0 = .ok (.aload_n 0, 1) := by decide +kernel
theorem dX5_ask_1 : decode cX5_ask 1 = .ok (.getfield 23, 3) := by decide +kernel
theorem dX5_ask_4 : decode cX5_ask 4 = .ok (.invokevirtual 121, 3) := by decide +kernel
theorem dX5_ask_7 : decode cX5_ask 7 = .ok (.ifCond .eq 6, 3) := by decide +kernel
theorem dX5_ask_10 : decode cX5_ask 10 = .ok (.bipush (-103), 2) := by decide +kernel
theorem dX5_ask_12 : decode cX5_ask 12 = .ok (.ireturn, 1) := by decide +kernel
theorem dX5_ask_13 : decode cX5_ask 13 = .ok (.iconst 0, 1) := by decide +kernel
theorem dX5_ask_14 : decode cX5_ask 14 = .ok (.istore_n 1, 1) := by decide +kernel
theorem dX5_ask_15 : decode cX5_ask 15 = .ok (.aload_n 0, 1) := by decide +kernel
theorem dX5_ask_16 : decode cX5_ask 16 = .ok (.iconst 0, 1) := by decide +kernel
theorem dX5_ask_17 : decode cX5_ask 17 = .ok (.invokevirtual 202, 3) := by decide +kernel
theorem dX5_ask_20 : decode cX5_ask 20 = .ok (.istore_n 2, 1) := by decide +kernel
theorem dX5_ask_21 : decode cX5_ask 21 = .ok (.iconst 1, 1) := by decide +kernel
theorem dX5_ask_22 : decode cX5_ask 22 = .ok (.istore_n 3, 1) := by decide +kernel
theorem dX5_ask_23 : decode cX5_ask 23 = .ok (.iload_n 3, 1) := by decide +kernel
theorem dX5_ask_24 : decode cX5_ask 24 = .ok (.bipush 6, 2) := by decide +kernel
theorem dX5_ask_26 : decode cX5_ask 26 = .ok (.if_icmp .ge 27, 3) := by decide +kernel
theorem dX5_ask_29 : decode cX5_ask 29 = .ok (.aload_n 0, 1) := by decide +kernel
theorem dX5_ask_30 : decode cX5_ask 30 = .ok (.iload_n 3, 1) := by decide +kernel
theorem dX5_ask_31 : decode cX5_ask 31 = .ok (.invokevirtual 202, 3) := by decide +kernel
theorem dX5_ask_34 : decode cX5_ask 34 = .ok (.istore 4, 2) := by decide +kernel
theorem dX5_ask_36 : decode cX5_ask 36 = .ok (.iload 4, 2) := by decide +kernel
theorem dX5_ask_38 : decode cX5_ask 38 = .ok (.iload_n 2, 1) := by decide +kernel
theorem dX5_ask_39 : decode cX5_ask 39 = .ok (.if_icmp .ge 8, 3) := by decide +kernel
theorem dX5_ask_42 : decode cX5_ask 42 = .ok (.iload 4, 2) := by decide +kernel
theorem dX5_ask_44 : decode cX5_ask 44 = .ok (.istore_n 2, 1) := by decide +kernel
theorem dX5_ask_45 : decode cX5_ask 45 = .ok (.iload_n 3, 1) := by decide +kernel
theorem dX5_ask_46 : decode cX5_ask 46 = .ok (.istore_n 1, 1) := by decide +kernel
theorem dX5_ask_47 : decode cX5_ask 47 = .ok (.iinc 3 1, 3) := by decide +kernel
theorem dX5_ask_50 : decode cX5_ask 50 = .ok (.goto (-27), 3) := by decide +kernel
theorem dX5_ask_53 : decode cX5_ask 53 = .ok (.iload_n 1, 1) := by decide +kernel
theorem dX5_ask_54 : decode cX5_ask 54 = .ok (.ireturn, 1) := by decide +kernel
theorem dX5_add_0 : decode cX5_add 0 = .ok (.iload_n 1, 1) := by decide +kernel
theorem dX5_add_1 : decode cX5_add 1 = .ok (.ifCond .lt 8, 3) := by decide +kernel
theorem dX5_add_4 : decode cX5_add 4 = .ok (.iload_n 1, 1) := by decide +kernel
theorem dX5_add_5 : decode cX5_add 5 = .ok (.iconst 1, 1) := by decide +kernel
theorem dX5_add_6 : decode cX5_add 6 = .ok (.if_icmp .le 6, 3) := by decide +kernel
theorem dX5_add_9 : decode cX5_add 9 = .ok (.bipush (-102), 2) := by decide +kernel
theorem dX5_add_11 : decode cX5_add 11 = .ok (.ireturn, 1) := by decide +kernel
theorem dX5_add_12 : decode cX5_add 12 = .ok (.aload_n 0, 1) := by decide +kernel
theorem dX5_add_13 : decode cX5_add 13 = .ok (.getfield 23, 3) := by decide +kernel
theorem dX5_add_16 : decode cX5_add 16 = .ok (.invokevirtual 121, 3) := by decide +kernel
theorem dX5_add_19 : decode cX5_add 19 = .ok (.ifCond .ne 23, 3) := by decide +kernel
theorem dX5_add_22 : decode cX5_add 22 = .ok (.aload_n 0, 1) := by decide +kernel
theorem dX5_add_23 : decode cX5_add 23 = .ok (.getfield 23, 3) := by decide +kernel
theorem dX5_add_26 : decode cX5_add 26 = .ok (.getfield 205, 3) := by decide +kernel
theorem dX5_add_29 : decode cX5_add 29 = .ok (.iconst 4, 1) := by decide +kernel
theorem dX5_add_30 : decode cX5_add 30 = .ok (.if_icmp .ge 12, 3) := by decide +kernel
theorem dX5_add_33 : decode cX5_add 33 = .ok (.aload_n 0, 1) := by decide +kernel
theorem dX5_add_34 : decode cX5_add 34 = .ok (.getfield 208, 3) := by decide +kernel
theorem dX5_add_37 : decode cX5_add 37 = .ok (.bipush 60, 2) := by decide +kernel
theorem dX5_add_39 : decode cX5_add 39 = .ok (.if_icmp .lt 6, 3) := by decide +kernel
theorem dX5_add_42 : decode cX5_add 42 = .ok (.bipush (-103), 2) := by decide +kernel
theorem dX5_add_44 : decode cX5_add 44 = .ok (.ireturn, 1) := by decide +kernel
theorem dX5_add_45 : decode cX5_add 45 = .ok (.aload_n 0, 1) := by decide +kernel
theorem dX5_add_46 : decode cX5_add 46 = .ok (.dup, 1) := by decide +kernel
theorem dX5_add_47 : decode cX5_add 47 = .ok (.getfield 208, 3) := by decide +kernel
theorem dX5_add_50 : decode cX5_add 50 = .ok (.iconst 1, 1) := by decide +kernel
theorem dX5_add_51 : decode cX5_add 51 = .ok (.iadd, 1) := by decide +kernel
theorem dX5_add_52 : decode cX5_add 52 = .ok (.putfield 208, 3) := by decide +kernel
theorem dX5_add_55 : decode cX5_add 55 = .ok (.iconst 0, 1) := by decide +kernel
theorem dX5_add_56 : decode cX5_add 56 = .ok (.istore_n 2, 1) := by decide +kernel
theorem dX5_add_57 : decode cX5_add 57 = .ok (.aload_n 0, 1) := by decide +kernel
theorem dX5_add_58 : decode cX5_add 58 = .ok (.iconst 0, 1) := by decide +kernel
theorem dX5_add_59 : decode cX5_add 59 = .ok (.invokevirtual 211, 3) := by decide +kernel
theorem dX5_add_62 : decode cX5_add 62 = .ok (.istore_n 3, 1) := by decide +kernel
theorem dX5_add_63 : decode cX5_add 63 = .ok (.iconst 1, 1) := by decide +kernel
theorem dX5_add_64 : decode cX5_add 64 = .ok (.istore 4, 2) := by decide +kernel
theorem dX5_add_66 : decode cX5_add 66 = .ok (.iload 4, 2) := by decide +kernel
theorem dX5_add_68 : decode cX5_add 68 = .ok (.bipush 24, 2) := by decide +kernel
theorem dX5_add_70 : decode cX5_add 70 = .ok (.if_icmp .ge 29, 3) := by decide +kernel
theorem dX5_add_73 : decode cX5_add 73 = .ok (.aload_n 0, 1) := by decide +kernel
theorem dX5_add_74 : decode cX5_add 74 = .ok (.iload 4, 2) := by decide +kernel
theorem dX5_add_76 : decode cX5_add 76 = .ok (.invokevirtual 211, 3) := by decide +kernel
theorem dX5_add_79 : decode cX5_add 79 = .ok (.istore 5, 2) := by decide +kernel
theorem dX5_add_81 : decode cX5_add 81 = .ok (.iload 5, 2) := by decide +kernel
theorem dX5_add_83 : decode cX5_add 83 = .ok (.iload_n 3, 1) := by decide +kernel
theorem dX5_add_84 : decode cX5_add 84 = .ok (.if_icmp .le 9, 3) := by decide +kernel
theorem dX5_add_87 : decode cX5_add 87 = .ok (.iload 5, 2) := by decide +kernel
theorem dX5_add_89 : decode cX5_add 89 = .ok (.istore_n 3, 1) := by decide +kernel
theorem dX5_add_90 : decode cX5_add 90 = .ok (.iload 4, 2) := by decide +kernel
theorem dX5_add_92 : decode cX5_add 92 = .ok (.istore_n 2, 1) := by decide +kernel
theorem dX5_add_93 : decode cX5_add 93 = .ok (.iinc 4 1, 3) := by decide +kernel
theorem dX5_add_96 : decode cX5_add 96 = .ok (.goto (-30), 3) := by decide +kernel
theorem dX5_add_99 : decode cX5_add 99 = .ok (.iload_n 1, 1) := by decide +kernel
theorem dX5_add_100 : decode cX5_add 100 = .ok (.ifCond .ne 7, 3) := by decide +kernel
theorem dX5_add_103 : decode cX5_add 103 = .ok (.iload_n 2, 1) := by decide +kernel
theorem dX5_add_104 : decode cX5_add 104 = .ok (.goto 4, 3) := by decide +kernel
theorem dX5_add_107 : decode cX5_add 107 = .ok (.iload_n 3, 1) := by decide +kernel
theorem dX5_add_108 : decode cX5_add 108 = .ok (.ireturn, 1) := by decide +kernel
theorem dX5_tell_0 : decode cX5_tell 0 = .ok (.iload_n 1, 1) := by decide +kernel
theorem dX5_tell_1 : decode cX5_tell 1 = .ok (.invokestatic 114, 3) := by decide +kernel
theorem dX5_tell_4 : decode cX5_tell 4 = .ok (.ifCond .ne 6, 3) := by decide +kernel
theorem dX5_tell_7 : decode cX5_tell 7 = .ok (.bipush (-101), 2) := by decide +kernel
theorem dX5_tell_9 : decode cX5_tell 9 = .ok (.ireturn, 1) := by decide +kernel
theorem dX5_tell_10 : decode cX5_tell 10 = .ok (.aload_n 0, 1) := by decide +kernel
theorem dX5_tell_11 : decode cX5_tell 11 = .ok (.getfield 43, 3) := by decide +kernel
theorem dX5_tell_14 : decode cX5_tell 14 = .ok (.getfield 214, 3) := by decide +kernel
theorem dX5_tell_17 : decode cX5_tell 17 = .ok (.istore_n 2, 1) := by decide +kernel
theorem dX5_tell_18 : decode cX5_tell 18 = .ok (.aload_n 0, 1) := by decide +kernel
theorem dX5_tell_19 : decode cX5_tell 19 = .ok (.getfield 43, 3) := by decide +kernel
theorem dX5_tell_22 : decode cX5_tell 22 = .ok (.iconst 0, 1) := by decide +kernel
theorem dX5_tell_23 : decode cX5_tell 23 = .ok (.putfield 214, 3) := by decide +kernel
theorem dX5_tell_26 : decode cX5_tell 26 = .ok (.aload_n 0, 1) := by decide +kernel
theorem dX5_tell_27 : decode cX5_tell 27 = .ok (.getfield 43, 3) := by decide +kernel
theorem dX5_tell_30 : decode cX5_tell 30 = .ok (.iload_n 1, 1) := by decide +kernel
theorem dX5_tell_31 : decode cX5_tell 31 = .ok (.invokevirtual 215, 3) := by decide +kernel
theorem dX5_tell_34 : decode cX5_tell 34 = .ok (.pop, 1) := by decide +kernel
theorem dX5_tell_35 : decode cX5_tell 35 = .ok (.iload_n 2, 1) := by decide +kernel
theorem dX5_tell_36 : decode cX5_tell 36 = .ok (.ireturn, 1) := by decide +kernel
theorem dX5_then_0 : decode cX5_then 0 = .ok (.aload_n 0, 1) := by decide +kernel
theorem dX5_then_1 : decode cX5_then 1 = .ok (.getfield 43, 3) := by decide +kernel
theorem dX5_then_4 : decode cX5_then 4 = .ok (.getfield 214, 3) := by decide +kernel
theorem dX5_then_7 : decode cX5_then 7 = .ok (.ifCond .ne 6, 3) := by decide +kernel
theorem dX5_then_10 : decode cX5_then 10 = .ok (.bipush (-103), 2) := by decide +kernel
theorem dX5_then_12 : decode cX5_then 12 = .ok (.ireturn, 1) := by decide +kernel
theorem dX5_then_13 : decode cX5_then 13 = .ok (.iload_n 1, 1) := by decide +kernel
theorem dX5_then_14 : decode cX5_then 14 = .ok (.invokestatic 114, 3) := by decide +kernel
theorem dX5_then_17 : decode cX5_then 17 = .ok (.ifCond .ne 6, 3) := by decide +kernel
theorem dX5_then_20 : decode cX5_then 20 = .ok (.bipush (-101), 2) := by decide +kernel
theorem dX5_then_22 : decode cX5_then 22 = .ok (.ireturn, 1) := by decide +kernel
theorem dX5_then_23 : decode cX5_then 23 = .ok (.aload_n 0, 1) := by decide +kernel
theorem dX5_then_24 : decode cX5_then 24 = .ok (.getfield 43, 3) := by decide +kernel
theorem dX5_then_27 : decode cX5_then 27 = .ok (.iload_n 1, 1) := by decide +kernel
theorem dX5_then_28 : decode cX5_then 28 = .ok (.invokevirtual 215, 3) := by decide +kernel
theorem dX5_then_31 : decode cX5_then 31 = .ok (.ifCond .eq 13, 3) := by decide +kernel
theorem dX5_then_34 : decode cX5_then 34 = .ok (.aload_n 0, 1) := by decide +kernel
theorem dX5_then_35 : decode cX5_then 35 = .ok (.getfield 43, 3) := by decide +kernel
theorem dX5_then_38 : decode cX5_then 38 = .ok (.getfield 214, 3) := by decide +kernel
theorem dX5_then_41 : decode cX5_then 41 = .ok (.goto 5, 3) := by decide +kernel
theorem dX5_then_44 : decode cX5_then 44 = .ok (.bipush (-104), 2) := by decide +kernel
theorem dX5_then_46 : decode cX5_then 46 = .ok (.ireturn, 1) := by decide +kernel
theorem dX5_fits_0 : decode cX5_fits 0 = .ok (.aload_n 0, 1) := by decide +kernel
theorem dX5_fits_1 : decode cX5_fits 1 = .ok (.getfield 36, 3) := by decide +kernel
theorem dX5_fits_4 : decode cX5_fits 4 = .ok (.iload_n 1, 1) := by decide +kernel
theorem dX5_fits_5 : decode cX5_fits 5 = .ok (.invokevirtual 153, 3) := by decide +kernel
theorem dX5_fits_8 : decode cX5_fits 8 = .ok (.ifCond .ne 6, 3) := by decide +kernel
theorem dX5_fits_11 : decode cX5_fits 11 = .ok (.bipush (-101), 2) := by decide +kernel
theorem dX5_fits_13 : decode cX5_fits 13 = .ok (.ireturn, 1) := by decide +kernel
theorem dX5_fits_14 : decode cX5_fits 14 = .ok (.iload_n 2, 1) := by decide +kernel
theorem dX5_fits_15 : decode cX5_fits 15 = .ok (.ifCond .lt 8, 3) := by decide +kernel
theorem dX5_fits_18 : decode cX5_fits 18 = .ok (.iload_n 2, 1) := by decide +kernel
theorem dX5_fits_19 : decode cX5_fits 19 = .ok (.iconst 1, 1) := by decide +kernel
theorem dX5_fits_20 : decode cX5_fits 20 = .ok (.if_icmp .le 6, 3) := by decide +kernel
theorem dX5_fits_23 : decode cX5_fits 23 = .ok (.bipush (-102), 2) := by decide +kernel
theorem dX5_fits_25 : decode cX5_fits 25 = .ok (.ireturn, 1) := by decide +kernel
theorem dX5_fits_26 : decode cX5_fits 26 = .ok (.aload_n 0, 1) := by decide +kernel
theorem dX5_fits_27 : decode cX5_fits 27 = .ok (.getfield 23, 3) := by decide +kernel
theorem dX5_fits_30 : decode cX5_fits 30 = .ok (.invokevirtual 121, 3) := by decide +kernel
theorem dX5_fits_33 : decode cX5_fits 33 = .ok (.ifCond .ne 13, 3) := by decide +kernel
theorem dX5_fits_36 : decode cX5_fits 36 = .ok (.aload_n 0, 1) := by decide +kernel
theorem dX5_fits_37 : decode cX5_fits 37 = .ok (.getfield 43, 3) := by decide +kernel
theorem dX5_fits_40 : decode cX5_fits 40 = .ok (.getfield 214, 3) := by decide +kernel
theorem dX5_fits_43 : decode cX5_fits 43 = .ok (.ifCond .ne 6, 3) := by decide +kernel
theorem dX5_fits_46 : decode cX5_fits 46 = .ok (.bipush (-103), 2) := by decide +kernel
theorem dX5_fits_48 : decode cX5_fits 48 = .ok (.ireturn, 1) := by decide +kernel
theorem dX5_fits_49 : decode cX5_fits 49 = .ok (.iconst 0, 1) := by decide +kernel
theorem dX5_fits_50 : decode cX5_fits 50 = .ok (.istore_n 3, 1) := by decide +kernel
theorem dX5_fits_51 : decode cX5_fits 51 = .ok (.iconst (-1), 1) := by decide +kernel
theorem dX5_fits_52 : decode cX5_fits 52 = .ok (.istore 4, 2) := by decide +kernel
theorem dX5_fits_54 : decode cX5_fits 54 = .ok (.iconst 0, 1) := by decide +kernel
theorem dX5_fits_55 : decode cX5_fits 55 = .ok (.istore 5, 2) := by decide +kernel
theorem dX5_fits_57 : decode cX5_fits 57 = .ok (.iload 5, 2) := by decide +kernel
theorem dX5_fits_59 : decode cX5_fits 59 = .ok (.aload_n 0, 1) := by decide +kernel
theorem dX5_fits_60 : decode cX5_fits 60 = .ok (.getfield 23, 3) := by decide +kernel
theorem dX5_fits_63 : decode cX5_fits 63 = .ok (.getfield 91, 3) := by decide +kernel
theorem dX5_fits_66 : decode cX5_fits 66 = .ok (.if_icmp .ge 35, 3) := by decide +kernel
theorem dX5_fits_69 : decode cX5_fits 69 = .ok (.aload_n 0, 1) := by decide +kernel
theorem dX5_fits_70 : decode cX5_fits 70 = .ok (.iload_n 1, 1) := by decide +kernel
theorem dX5_fits_71 : decode cX5_fits 71 = .ok (.iload 5, 2) := by decide +kernel
theorem dX5_fits_73 : decode cX5_fits 73 = .ok (.invokevirtual 218, 3) := by decide +kernel
theorem dX5_fits_76 : decode cX5_fits 76 = .ok (.ifCond .eq 19, 3) := by decide +kernel
theorem dX5_fits_79 : decode cX5_fits 79 = .ok (.iload_n 3, 1) := by decide +kernel
theorem dX5_fits_80 : decode cX5_fits 80 = .ok (.ifCond .ne 8, 3) := by decide +kernel
theorem dX5_fits_83 : decode cX5_fits 83 = .ok (.iload 5, 2) := by decide +kernel
theorem dX5_fits_85 : decode cX5_fits 85 = .ok (.goto 5, 3) := by decide +kernel
theorem dX5_fits_88 : decode cX5_fits 88 = .ok (.iload 4, 2) := by decide +kernel
theorem dX5_fits_90 : decode cX5_fits 90 = .ok (.istore 4, 2) := by decide +kernel
theorem dX5_fits_92 : decode cX5_fits 92 = .ok (.iinc 3 1, 3) := by decide +kernel
theorem dX5_fits_95 : decode cX5_fits 95 = .ok (.iinc 5 1, 3) := by decide +kernel
theorem dX5_fits_98 : decode cX5_fits 98 = .ok (.goto (-41), 3) := by decide +kernel
theorem dX5_fits_101 : decode cX5_fits 101 = .ok (.iload_n 2, 1) := by decide +kernel
theorem dX5_fits_102 : decode cX5_fits 102 = .ok (.ifCond .ne 7, 3) := by decide +kernel
theorem dX5_fits_105 : decode cX5_fits 105 = .ok (.iload_n 3, 1) := by decide +kernel
theorem dX5_fits_106 : decode cX5_fits 106 = .ok (.goto 5, 3) := by decide +kernel
theorem dX5_fits_109 : decode cX5_fits 109 = .ok (.iload 4, 2) := by decide +kernel
theorem dX5_fits_111 : decode cX5_fits 111 = .ok (.ireturn, 1) := by decide +kernel
theorem dX5_times_0 : decode cX5_times 0 = .ok (.iload_n 1, 1) := by decide +kernel
theorem dX5_times_1 : decode cX5_times 1 = .ok (.iconst 1, 1) := by decide +kernel
theorem dX5_times_2 : decode cX5_times 2 = .ok (.if_icmp .lt 22, 3) := by decide +kernel
theorem dX5_times_5 : decode cX5_times 5 = .ok (.iload_n 1, 1) := by decide +kernel
theorem dX5_times_6 : decode cX5_times 6 = .ok (.bipush 60, 2) := by decide +kernel
theorem dX5_times_8 : decode cX5_times 8 = .ok (.if_icmp .gt 16, 3) := by decide +kernel
theorem dX5_times_11 : decode cX5_times 11 = .ok (.iload_n 2, 1) := by decide +kernel
theorem dX5_times_12 : decode cX5_times 12 = .ok (.ifCond .lt 12, 3) := by decide +kernel
theorem dX5_times_15 : decode cX5_times 15 = .ok (.iload_n 3, 1) := by decide +kernel
theorem dX5_times_16 : decode cX5_times 16 = .ok (.ifCond .lt 8, 3) := by decide +kernel
theorem dX5_times_19 : decode cX5_times 19 = .ok (.iload_n 3, 1) := by decide +kernel
theorem dX5_times_20 : decode cX5_times 20 = .ok (.iconst 2, 1) := by decide +kernel
theorem dX5_times_21 : decode cX5_times 21 = .ok (.if_icmp .le 6, 3) := by decide +kernel
theorem dX5_times_24 : decode cX5_times 24 = .ok (.bipush (-102), 2) := by decide +kernel
theorem dX5_times_26 : decode cX5_times 26 = .ok (.ireturn, 1) := by decide +kernel
theorem dX5_times_27 : decode cX5_times 27 = .ok (.aload_n 0, 1) := by decide +kernel
theorem dX5_times_28 : decode cX5_times 28 = .ok (.getfield 23, 3) := by decide +kernel
theorem dX5_times_31 : decode cX5_times 31 = .ok (.invokevirtual 121, 3) := by decide +kernel
theorem dX5_times_34 : decode cX5_times 34 = .ok (.ifCond .eq 6, 3) := by decide +kernel
theorem dX5_times_37 : decode cX5_times 37 = .ok (.bipush (-103), 2) := by decide +kernel
theorem dX5_times_39 : decode cX5_times 39 = .ok (.ireturn, 1) := by decide +kernel
theorem dX5_times_40 : decode cX5_times 40 = .ok (.aload_n 0, 1) := by decide +kernel
theorem dX5_times_41 : decode cX5_times 41 = .ok (.getfield 124, 3) := by decide +kernel
theorem dX5_times_44 : decode cX5_times 44 = .ok (.istore 4, 2) := by decide +kernel
theorem dX5_times_46 : decode cX5_times 46 = .ok (.iload_n 2, 1) := by decide +kernel
theorem dX5_times_47 : decode cX5_times 47 = .ok (.istore 5, 2) := by decide +kernel
theorem dX5_times_49 : decode cX5_times 49 = .ok (.iconst 0, 1) := by decide +kernel
theorem dX5_times_50 : decode cX5_times 50 = .ok (.istore 6, 2) := by decide +kernel
theorem dX5_times_52 : decode cX5_times 52 = .ok (.iconst 0, 1) := by decide +kernel
theorem dX5_times_53 : decode cX5_times 53 = .ok (.istore 7, 2) := by decide +kernel
theorem dX5_times_55 : decode cX5_times 55 = .ok (.iload 7, 2) := by decide +kernel
theorem dX5_times_57 : decode cX5_times 57 = .ok (.iload_n 1, 1) := by decide +kernel
theorem dX5_times_58 : decode cX5_times 58 = .ok (.if_icmp .ge 74, 3) := by decide +kernel
theorem dX5_times_61 : decode cX5_times 61 = .ok (.iload 5, 2) := by decide +kernel
theorem dX5_times_63 : decode cX5_times 63 = .ok (.invokestatic 221, 3) := by decide +kernel
theorem dX5_times_66 : decode cX5_times 66 = .ok (.istore 5, 2) := by decide +kernel
theorem dX5_times_68 : decode cX5_times 68 = .ok (.iload 5, 2) := by decide +kernel
theorem dX5_times_70 : decode cX5_times 70 = .ok (.iconst 2, 1) := by decide +kernel
theorem dX5_times_71 : decode cX5_times 71 = .ok (.invokestatic 224, 3) := by decide +kernel
theorem dX5_times_74 : decode cX5_times 74 = .ok (.ifCond .ne 14, 3) := by decide +kernel
theorem dX5_times_77 : decode cX5_times 77 = .ok (.aload_n 0, 1) := by decide +kernel
theorem dX5_times_78 : decode cX5_times 78 = .ok (.iload 4, 2) := by decide +kernel
theorem dX5_times_80 : decode cX5_times 80 = .ok (.invokevirtual 189, 3) := by decide +kernel
theorem dX5_times_83 : decode cX5_times 83 = .ok (.istore 4, 2) := by decide +kernel
theorem dX5_times_85 : decode cX5_times 85 = .ok (.goto 24, 3) := by decide +kernel
theorem dX5_times_88 : decode cX5_times 88 = .ok (.iload 5, 2) := by decide +kernel
theorem dX5_times_90 : decode cX5_times 90 = .ok (.invokestatic 221, 3) := by decide +kernel
theorem dX5_times_93 : decode cX5_times 93 = .ok (.istore 5, 2) := by decide +kernel
theorem dX5_times_95 : decode cX5_times 95 = .ok (.iload 4, 2) := by decide +kernel
theorem dX5_times_97 : decode cX5_times 97 = .ok (.iconst 1, 1) := by decide +kernel
theorem dX5_times_98 : decode cX5_times 98 = .ok (.iload 5, 2) := by decide +kernel
theorem dX5_times_100 : decode cX5_times 100 = .ok (.bipush 6, 2) := by decide +kernel
theorem dX5_times_102 : decode cX5_times 102 = .ok (.invokestatic 224, 3) := by decide +kernel
theorem dX5_times_105 : decode cX5_times 105 = .ok (.ishl, 1) := by decide +kernel
theorem dX5_times_106 : decode cX5_times 106 = .ok (.ixor, 1) := by decide +kernel
theorem dX5_times_107 : decode cX5_times 107 = .ok (.istore 4, 2) := by decide +kernel
theorem dX5_times_109 : decode cX5_times 109 = .ok (.iload 6, 2) := by decide +kernel
theorem dX5_times_111 : decode cX5_times 111 = .ok (.aload_n 0, 1) := by decide +kernel
theorem dX5_times_112 : decode cX5_times 112 = .ok (.getfield 23, 3) := by decide +kernel
theorem dX5_times_115 : decode cX5_times 115 = .ok (.getfield 185, 3) := by decide +kernel
theorem dX5_times_118 : decode cX5_times 118 = .ok (.iload 4, 2) := by decide +kernel
theorem dX5_times_120 : decode cX5_times 120 = .ok (.invokestatic 117, 3) := by decide +kernel
theorem dX5_times_123 : decode cX5_times 123 = .ok (.iadd, 1) := by decide +kernel
theorem dX5_times_124 : decode cX5_times 124 = .ok (.istore 6, 2) := by decide +kernel
theorem dX5_times_126 : decode cX5_times 126 = .ok (.iinc 7 1, 3) := by decide +kernel
theorem dX5_times_129 : decode cX5_times 129 = .ok (.goto (-74), 3) := by decide +kernel
theorem dX5_times_132 : decode cX5_times 132 = .ok (.iload_n 3, 1) := by decide +kernel
theorem dX5_times_133 : decode cX5_times 133 = .ok (.ifCond .ne 8, 3) := by decide +kernel
theorem dX5_times_136 : decode cX5_times 136 = .ok (.iload 4, 2) := by decide +kernel
theorem dX5_times_138 : decode cX5_times 138 = .ok (.goto 15, 3) := by decide +kernel
theorem dX5_times_141 : decode cX5_times 141 = .ok (.iload_n 3, 1) := by decide +kernel
theorem dX5_times_142 : decode cX5_times 142 = .ok (.iconst 1, 1) := by decide +kernel
theorem dX5_times_143 : decode cX5_times 143 = .ok (.if_icmp .ne 8, 3) := by decide +kernel
theorem dX5_times_146 : decode cX5_times 146 = .ok (.iload 6, 2) := by decide +kernel
theorem dX5_times_148 : decode cX5_times 148 = .ok (.goto 5, 3) := by decide +kernel
theorem dX5_times_151 : decode cX5_times 151 = .ok (.iload 5, 2) := by decide +kernel
theorem dX5_times_153 : decode cX5_times 153 = .ok (.ireturn, 1) := by decide +kernel
theorem dX5_image_0 : decode cX5_image 0 = .ok (.aload_n 0, 1) := by decide +kernel
theorem dX5_image_1 : decode cX5_image 1 = .ok (.getfield 50, 3) := by decide +kernel
theorem dX5_image_4 : decode cX5_image 4 = .ok (.iconst 1, 1) := by decide +kernel
theorem dX5_image_5 : decode cX5_image 5 = .ok (.putfield 228, 3) := by decide +kernel
theorem dX5_image_8 : decode cX5_image 8 = .ok (.aload_n 0, 1) := by decide +kernel
theorem dX5_image_9 : decode cX5_image 9 = .ok (.getfield 50, 3) := by decide +kernel
theorem dX5_image_12 : decode cX5_image 12 = .ok (.aload_n 0, 1) := by decide +kernel
theorem dX5_image_13 : decode cX5_image 13 = .ok (.getfield 124, 3) := by decide +kernel
theorem dX5_image_16 : decode cX5_image 16 = .ok (.putfield 232, 3) := by decide +kernel
theorem dX5_image_19 : decode cX5_image 19 = .ok (.aload_n 0, 1) := by decide +kernel
theorem dX5_image_20 : decode cX5_image 20 = .ok (.getfield 50, 3) := by decide +kernel
theorem dX5_image_23 : decode cX5_image 23 = .ok (.aload_n 0, 1) := by decide +kernel
theorem dX5_image_24 : decode cX5_image 24 = .ok (.getfield 182, 3) := by decide +kernel
theorem dX5_image_27 : decode cX5_image 27 = .ok (.putfield 233, 3) := by decide +kernel
theorem dX5_image_30 : decode cX5_image 30 = .ok (.aload_n 0, 1) := by decide +kernel
theorem dX5_image_31 : decode cX5_image 31 = .ok (.getfield 50, 3) := by decide +kernel
theorem dX5_image_34 : decode cX5_image 34 = .ok (.getfield 234, 3) := by decide +kernel
theorem dX5_image_37 : decode cX5_image 37 = .ok (.aload_n 0, 1) := by decide +kernel
theorem dX5_image_38 : decode cX5_image 38 = .ok (.getfield 36, 3) := by decide +kernel
theorem dX5_image_41 : decode cX5_image 41 = .ok (.invokevirtual 235, 3) := by decide +kernel
theorem dX5_image_44 : decode cX5_image 44 = .ok (.aload_n 0, 1) := by decide +kernel
theorem dX5_image_45 : decode cX5_image 45 = .ok (.getfield 50, 3) := by decide +kernel
theorem dX5_image_48 : decode cX5_image 48 = .ok (.getfield 238, 3) := by decide +kernel
theorem dX5_image_51 : decode cX5_image 51 = .ok (.aload_n 0, 1) := by decide +kernel
theorem dX5_image_52 : decode cX5_image 52 = .ok (.getfield 43, 3) := by decide +kernel
theorem dX5_image_55 : decode cX5_image 55 = .ok (.invokevirtual 239, 3) := by decide +kernel
theorem dX5_image_58 : decode cX5_image 58 = .ok (.aload_n 0, 1) := by decide +kernel
theorem dX5_image_59 : decode cX5_image 59 = .ok (.getfield 124, 3) := by decide +kernel
theorem dX5_image_62 : decode cX5_image 62 = .ok (.ireturn, 1) := by decide +kernel
theorem dX5_restore_0 : decode cX5_restore 0 = .ok (.aload_n 0, 1) := by decide +kernel
theorem dX5_restore_1 : decode cX5_restore 1 = .ok (.getfield 50, 3) := by decide +kernel
theorem dX5_restore_4 : decode cX5_restore 4 = .ok (.getfield 228, 3) := by decide +kernel
theorem dX5_restore_7 : decode cX5_restore 7 = .ok (.ifCond .ne 6, 3) := by decide +kernel
theorem dX5_restore_10 : decode cX5_restore 10 = .ok (.bipush (-103), 2) := by decide +kernel
theorem dX5_restore_12 : decode cX5_restore 12 = .ok (.ireturn, 1) := by decide +kernel
theorem dX5_restore_13 : decode cX5_restore 13 = .ok (.aload_n 0, 1) := by decide +kernel
theorem dX5_restore_14 : decode cX5_restore 14 = .ok (.aload_n 0, 1) := by decide +kernel
theorem dX5_restore_15 : decode cX5_restore 15 = .ok (.getfield 50, 3) := by decide +kernel
theorem dX5_restore_18 : decode cX5_restore 18 = .ok (.getfield 232, 3) := by decide +kernel
theorem dX5_restore_21 : decode cX5_restore 21 = .ok (.putfield 124, 3) := by decide +kernel
theorem dX5_restore_24 : decode cX5_restore 24 = .ok (.aload_n 0, 1) := by decide +kernel
theorem dX5_restore_25 : decode cX5_restore 25 = .ok (.aload_n 0, 1) := by decide +kernel
theorem dX5_restore_26 : decode cX5_restore 26 = .ok (.getfield 50, 3) := by decide +kernel
theorem dX5_restore_29 : decode cX5_restore 29 = .ok (.getfield 233, 3) := by decide +kernel
theorem dX5_restore_32 : decode cX5_restore 32 = .ok (.putfield 182, 3) := by decide +kernel
theorem dX5_restore_35 : decode cX5_restore 35 = .ok (.aload_n 0, 1) := by decide +kernel
theorem dX5_restore_36 : decode cX5_restore 36 = .ok (.getfield 36, 3) := by decide +kernel
theorem dX5_restore_39 : decode cX5_restore 39 = .ok (.aload_n 0, 1) := by decide +kernel
theorem dX5_restore_40 : decode cX5_restore 40 = .ok (.getfield 50, 3) := by decide +kernel
theorem dX5_restore_43 : decode cX5_restore 43 = .ok (.getfield 234, 3) := by decide +kernel
theorem dX5_restore_46 : decode cX5_restore 46 = .ok (.invokevirtual 235, 3) := by decide +kernel
theorem dX5_restore_49 : decode cX5_restore 49 = .ok (.aload_n 0, 1) := by decide +kernel
theorem dX5_restore_50 : decode cX5_restore 50 = .ok (.getfield 43, 3) := by decide +kernel
theorem dX5_restore_53 : decode cX5_restore 53 = .ok (.aload_n 0, 1) := by decide +kernel
theorem dX5_restore_54 : decode cX5_restore 54 = .ok (.getfield 50, 3) := by decide +kernel
theorem dX5_restore_57 : decode cX5_restore 57 = .ok (.getfield 238, 3) := by decide +kernel
theorem dX5_restore_60 : decode cX5_restore 60 = .ok (.invokevirtual 239, 3) := by decide +kernel
theorem dX5_restore_63 : decode cX5_restore 63 = .ok (.aload_n 0, 1) := by decide +kernel
theorem dX5_restore_64 : decode cX5_restore 64 = .ok (.getfield 124, 3) := by decide +kernel
theorem dX5_restore_67 : decode cX5_restore 67 = .ok (.ireturn, 1) := by decide +kernel
theorem dX5_count_0 : decode cX5_count 0 = .ok (.iload_n 1, 1) := by decide +kernel
theorem dX5_count_1 : decode cX5_count 1 = .ok (.tableswitch 123 0 9 #[55, 63, 71, 79, 87, 92, 97, 105, 113, 118], 55) := by decide +kernel
theorem dX5_count_56 : decode cX5_count 56 = .ok (.aload_n 0, 1) := by decide +kernel
theorem dX5_count_57 : decode cX5_count 57 = .ok (.getfield 23, 3) := by decide +kernel
theorem dX5_count_60 : decode cX5_count 60 = .ok (.getfield 91, 3) := by decide +kernel
theorem dX5_count_63 : decode cX5_count 63 = .ok (.ireturn, 1) := by decide +kernel
theorem dX5_count_64 : decode cX5_count 64 = .ok (.aload_n 0, 1) := by decide +kernel
theorem dX5_count_65 : decode cX5_count 65 = .ok (.getfield 23, 3) := by decide +kernel
theorem dX5_count_68 : decode cX5_count 68 = .ok (.getfield 205, 3) := by decide +kernel
theorem dX5_count_71 : decode cX5_count 71 = .ok (.ireturn, 1) := by decide +kernel
theorem dX5_count_72 : decode cX5_count 72 = .ok (.aload_n 0, 1) := by decide +kernel
theorem dX5_count_73 : decode cX5_count 73 = .ok (.getfield 27, 3) := by decide +kernel
theorem dX5_count_76 : decode cX5_count 76 = .ok (.getfield 91, 3) := by decide +kernel
theorem dX5_count_79 : decode cX5_count 79 = .ok (.ireturn, 1) := by decide +kernel
theorem dX5_count_80 : decode cX5_count 80 = .ok (.aload_n 0, 1) := by decide +kernel
theorem dX5_count_81 : decode cX5_count 81 = .ok (.getfield 36, 3) := by decide +kernel
theorem dX5_count_84 : decode cX5_count 84 = .ok (.getfield 150, 3) := by decide +kernel
theorem dX5_count_87 : decode cX5_count 87 = .ok (.ireturn, 1) := by decide +kernel
theorem dX5_count_88 : decode cX5_count 88 = .ok (.aload_n 0, 1) := by decide +kernel
theorem dX5_count_89 : decode cX5_count 89 = .ok (.getfield 182, 3) := by decide +kernel
theorem dX5_count_92 : decode cX5_count 92 = .ok (.ireturn, 1) := by decide +kernel
theorem dX5_count_93 : decode cX5_count 93 = .ok (.aload_n 0, 1) := by decide +kernel
theorem dX5_count_94 : decode cX5_count 94 = .ok (.getfield 124, 3) := by decide +kernel
theorem dX5_count_97 : decode cX5_count 97 = .ok (.ireturn, 1) := by decide +kernel
theorem dX5_count_98 : decode cX5_count 98 = .ok (.aload_n 0, 1) := by decide +kernel
theorem dX5_count_99 : decode cX5_count 99 = .ok (.getfield 43, 3) := by decide +kernel
theorem dX5_count_102 : decode cX5_count 102 = .ok (.getfield 214, 3) := by decide +kernel
theorem dX5_count_105 : decode cX5_count 105 = .ok (.ireturn, 1) := by decide +kernel
theorem dX5_count_106 : decode cX5_count 106 = .ok (.aload_n 0, 1) := by decide +kernel
theorem dX5_count_107 : decode cX5_count 107 = .ok (.getfield 10, 3) := by decide +kernel
theorem dX5_count_110 : decode cX5_count 110 = .ok (.getfield 58, 3) := by decide +kernel
theorem dX5_count_113 : decode cX5_count 113 = .ok (.ireturn, 1) := by decide +kernel
theorem dX5_count_114 : decode cX5_count 114 = .ok (.aload_n 0, 1) := by decide +kernel
theorem dX5_count_115 : decode cX5_count 115 = .ok (.getfield 88, 3) := by decide +kernel
theorem dX5_count_118 : decode cX5_count 118 = .ok (.ireturn, 1) := by decide +kernel
theorem dX5_count_119 : decode cX5_count 119 = .ok (.aload_n 0, 1) := by decide +kernel
theorem dX5_count_120 : decode cX5_count 120 = .ok (.getfield 208, 3) := by decide +kernel
theorem dX5_count_123 : decode cX5_count 123 = .ok (.ireturn, 1) := by decide +kernel
theorem dX5_count_124 : decode cX5_count 124 = .ok (.bipush (-102), 2) := by decide +kernel
theorem dX5_count_126 : decode cX5_count 126 = .ok (.ireturn, 1) := by decide +kernel
theorem dX5_digest_0 : decode cX5_digest 0 = .ok (.ldc2_w 242, 3) := by decide +kernel
theorem dX5_digest_3 : decode cX5_digest 3 = .ok (.lstore_n 1, 1) := by decide +kernel
theorem dX5_digest_4 : decode cX5_digest 4 = .ok (.iconst 0, 1) := by decide +kernel
theorem dX5_digest_5 : decode cX5_digest 5 = .ok (.istore_n 3, 1) := by decide +kernel
theorem dX5_digest_6 : decode cX5_digest 6 = .ok (.iload_n 3, 1) := by decide +kernel
theorem dX5_digest_7 : decode cX5_digest 7 = .ok (.bipush 6, 2) := by decide +kernel
theorem dX5_digest_9 : decode cX5_digest 9 = .ok (.if_icmp .ge 20, 3) := by decide +kernel
theorem dX5_digest_12 : decode cX5_digest 12 = .ok (.lload_n 1, 1) := by decide +kernel
theorem dX5_digest_13 : decode cX5_digest 13 = .ok (.aload_n 0, 1) := by decide +kernel
theorem dX5_digest_14 : decode cX5_digest 14 = .ok (.iload_n 3, 1) := by decide +kernel
theorem dX5_digest_15 : decode cX5_digest 15 = .ok (.invokevirtual 244, 3) := by decide +kernel
theorem dX5_digest_18 : decode cX5_digest 18 = .ok (.i2l, 1) := by decide +kernel
theorem dX5_digest_19 : decode cX5_digest 19 = .ok (.invokestatic 247, 3) := by decide +kernel
theorem dX5_digest_22 : decode cX5_digest 22 = .ok (.lstore_n 1, 1) := by decide +kernel
theorem dX5_digest_23 : decode cX5_digest 23 = .ok (.iinc 3 1, 3) := by decide +kernel
theorem dX5_digest_26 : decode cX5_digest 26 = .ok (.goto (-20), 3) := by decide +kernel
theorem dX5_digest_29 : decode cX5_digest 29 = .ok (.iconst 0, 1) := by decide +kernel
theorem dX5_digest_30 : decode cX5_digest 30 = .ok (.istore_n 3, 1) := by decide +kernel
theorem dX5_digest_31 : decode cX5_digest 31 = .ok (.iload_n 3, 1) := by decide +kernel
theorem dX5_digest_32 : decode cX5_digest 32 = .ok (.bipush 6, 2) := by decide +kernel
theorem dX5_digest_34 : decode cX5_digest 34 = .ok (.if_icmp .ge 20, 3) := by decide +kernel
theorem dX5_digest_37 : decode cX5_digest 37 = .ok (.lload_n 1, 1) := by decide +kernel
theorem dX5_digest_38 : decode cX5_digest 38 = .ok (.aload_n 0, 1) := by decide +kernel
theorem dX5_digest_39 : decode cX5_digest 39 = .ok (.iload_n 3, 1) := by decide +kernel
theorem dX5_digest_40 : decode cX5_digest 40 = .ok (.invokevirtual 251, 3) := by decide +kernel
theorem dX5_digest_43 : decode cX5_digest 43 = .ok (.i2l, 1) := by decide +kernel
theorem dX5_digest_44 : decode cX5_digest 44 = .ok (.invokestatic 247, 3) := by decide +kernel
theorem dX5_digest_47 : decode cX5_digest 47 = .ok (.lstore_n 1, 1) := by decide +kernel
theorem dX5_digest_48 : decode cX5_digest 48 = .ok (.iinc 3 1, 3) := by decide +kernel
theorem dX5_digest_51 : decode cX5_digest 51 = .ok (.goto (-20), 3) := by decide +kernel
theorem dX5_digest_54 : decode cX5_digest 54 = .ok (.aload_n 0, 1) := by decide +kernel
theorem dX5_digest_55 : decode cX5_digest 55 = .ok (.lload_n 1, 1) := by decide +kernel
theorem dX5_digest_56 : decode cX5_digest 56 = .ok (.invokevirtual 254, 3) := by decide +kernel
theorem dX5_digest_59 : decode cX5_digest 59 = .ok (.lstore_n 1, 1) := by decide +kernel
theorem dX5_digest_60 : decode cX5_digest 60 = .ok (.aload_n 0, 1) := by decide +kernel
theorem dX5_digest_61 : decode cX5_digest 61 = .ok (.getfield 23, 3) := by decide +kernel
theorem dX5_digest_64 : decode cX5_digest 64 = .ok (.invokevirtual 121, 3) := by decide +kernel
theorem dX5_digest_67 : decode cX5_digest 67 = .ok (.ifCond .ne 25, 3) := by decide +kernel
theorem dX5_digest_70 : decode cX5_digest 70 = .ok (.aload_n 0, 1) := by decide +kernel
theorem dX5_digest_71 : decode cX5_digest 71 = .ok (.lload_n 1, 1) := by decide +kernel
theorem dX5_digest_72 : decode cX5_digest 72 = .ok (.invokevirtual 258, 3) := by decide +kernel
theorem dX5_digest_75 : decode cX5_digest 75 = .ok (.lstore_n 1, 1) := by decide +kernel
theorem dX5_digest_76 : decode cX5_digest 76 = .ok (.aload_n 0, 1) := by decide +kernel
theorem dX5_digest_77 : decode cX5_digest 77 = .ok (.getfield 43, 3) := by decide +kernel
theorem dX5_digest_80 : decode cX5_digest 80 = .ok (.getfield 214, 3) := by decide +kernel
theorem dX5_digest_83 : decode cX5_digest 83 = .ok (.ifCond .le 9, 3) := by decide +kernel
theorem dX5_digest_86 : decode cX5_digest 86 = .ok (.aload_n 0, 1) := by decide +kernel
theorem dX5_digest_87 : decode cX5_digest 87 = .ok (.lload_n 1, 1) := by decide +kernel
theorem dX5_digest_88 : decode cX5_digest 88 = .ok (.invokevirtual 261, 3) := by decide +kernel
theorem dX5_digest_91 : decode cX5_digest 91 = .ok (.lstore_n 1, 1) := by decide +kernel
theorem dX5_digest_92 : decode cX5_digest 92 = .ok (.iconst 0, 1) := by decide +kernel
theorem dX5_digest_93 : decode cX5_digest 93 = .ok (.istore_n 3, 1) := by decide +kernel
theorem dX5_digest_94 : decode cX5_digest 94 = .ok (.iload_n 3, 1) := by decide +kernel
theorem dX5_digest_95 : decode cX5_digest 95 = .ok (.aload_n 0, 1) := by decide +kernel
theorem dX5_digest_96 : decode cX5_digest 96 = .ok (.getfield 10, 3) := by decide +kernel
theorem dX5_digest_99 : decode cX5_digest 99 = .ok (.getfield 58, 3) := by decide +kernel
theorem dX5_digest_102 : decode cX5_digest 102 = .ok (.if_icmp .ge 23, 3) := by decide +kernel
theorem dX5_digest_105 : decode cX5_digest 105 = .ok (.lload_n 1, 1) := by decide +kernel
theorem dX5_digest_106 : decode cX5_digest 106 = .ok (.aload_n 0, 1) := by decide +kernel
theorem dX5_digest_107 : decode cX5_digest 107 = .ok (.getfield 10, 3) := by decide +kernel
theorem dX5_digest_110 : decode cX5_digest 110 = .ok (.iload_n 3, 1) := by decide +kernel
theorem dX5_digest_111 : decode cX5_digest 111 = .ok (.invokevirtual 97, 3) := by decide +kernel
theorem dX5_digest_114 : decode cX5_digest 114 = .ok (.i2l, 1) := by decide +kernel
theorem dX5_digest_115 : decode cX5_digest 115 = .ok (.invokestatic 247, 3) := by decide +kernel
theorem dX5_digest_118 : decode cX5_digest 118 = .ok (.lstore_n 1, 1) := by decide +kernel
theorem dX5_digest_119 : decode cX5_digest 119 = .ok (.iinc 3 1, 3) := by decide +kernel
theorem dX5_digest_122 : decode cX5_digest 122 = .ok (.goto (-28), 3) := by decide +kernel
theorem dX5_digest_125 : decode cX5_digest 125 = .ok (.iconst 0, 1) := by decide +kernel
theorem dX5_digest_126 : decode cX5_digest 126 = .ok (.istore_n 3, 1) := by decide +kernel
theorem dX5_digest_127 : decode cX5_digest 127 = .ok (.iload_n 3, 1) := by decide +kernel
theorem dX5_digest_128 : decode cX5_digest 128 = .ok (.bipush 9, 2) := by decide +kernel
theorem dX5_digest_130 : decode cX5_digest 130 = .ok (.if_icmp .gt 20, 3) := by decide +kernel
theorem dX5_digest_133 : decode cX5_digest 133 = .ok (.lload_n 1, 1) := by decide +kernel
theorem dX5_digest_134 : decode cX5_digest 134 = .ok (.aload_n 0, 1) := by decide +kernel
theorem dX5_digest_135 : decode cX5_digest 135 = .ok (.iload_n 3, 1) := by decide +kernel
theorem dX5_digest_136 : decode cX5_digest 136 = .ok (.invokevirtual 264, 3) := by decide +kernel
theorem dX5_digest_139 : decode cX5_digest 139 = .ok (.i2l, 1) := by decide +kernel
theorem dX5_digest_140 : decode cX5_digest 140 = .ok (.invokestatic 247, 3) := by decide +kernel
theorem dX5_digest_143 : decode cX5_digest 143 = .ok (.lstore_n 1, 1) := by decide +kernel
theorem dX5_digest_144 : decode cX5_digest 144 = .ok (.iinc 3 1, 3) := by decide +kernel
theorem dX5_digest_147 : decode cX5_digest 147 = .ok (.goto (-20), 3) := by decide +kernel
theorem dX5_digest_150 : decode cX5_digest 150 = .ok (.lload_n 1, 1) := by decide +kernel
theorem dX5_digest_151 : decode cX5_digest 151 = .ok (.lreturn, 1) := by decide +kernel
theorem dX5_mixed_0 : decode cX5_mixed 0 = .ok (.ldc2_w 267, 3) := by decide +kernel
theorem dX5_mixed_3 : decode cX5_mixed 3 = .ok (.lload_n 0, 1) := by decide +kernel
theorem dX5_mixed_4 : decode cX5_mixed 4 = .ok (.lmul, 1) := by decide +kernel
theorem dX5_mixed_5 : decode cX5_mixed 5 = .ok (.lload_n 2, 1) := by decide +kernel
theorem dX5_mixed_6 : decode cX5_mixed 6 = .ok (.ladd, 1) := by decide +kernel
theorem dX5_mixed_7 : decode cX5_mixed 7 = .ok (.lreturn, 1) := by decide +kernel
theorem dX5_mixedWithHearers_0 : decode cX5_mixedWithHearers 0 = .ok (.lload_n 1, 1) := by decide +kernel
theorem dX5_mixedWithHearers_1 : decode cX5_mixedWithHearers 1 = .ok (.lstore_n 3, 1) := by decide +kernel
theorem dX5_mixedWithHearers_2 : decode cX5_mixedWithHearers 2 = .ok (.iconst 0, 1) := by decide +kernel
theorem dX5_mixedWithHearers_3 : decode cX5_mixedWithHearers 3 = .ok (.istore 5, 2) := by decide +kernel
theorem dX5_mixedWithHearers_5 : decode cX5_mixedWithHearers 5 = .ok (.iload 5, 2) := by decide +kernel
theorem dX5_mixedWithHearers_7 : decode cX5_mixedWithHearers 7 = .ok (.aload_n 0, 1) := by decide +kernel
theorem dX5_mixedWithHearers_8 : decode cX5_mixedWithHearers 8 = .ok (.getfield 36, 3) := by decide +kernel
theorem dX5_mixedWithHearers_11 : decode cX5_mixedWithHearers 11 = .ok (.getfield 150, 3) := by decide +kernel
theorem dX5_mixedWithHearers_14 : decode cX5_mixedWithHearers 14 = .ok (.if_icmp .ge 38, 3) := by decide +kernel
theorem dX5_mixedWithHearers_17 : decode cX5_mixedWithHearers 17 = .ok (.iconst 0, 1) := by decide +kernel
theorem dX5_mixedWithHearers_18 : decode cX5_mixedWithHearers 18 = .ok (.istore 6, 2) := by decide +kernel
theorem dX5_mixedWithHearers_20 : decode cX5_mixedWithHearers 20 = .ok (.iload 6, 2) := by decide +kernel
theorem dX5_mixedWithHearers_22 : decode cX5_mixedWithHearers 22 = .ok (.iconst 5, 1) := by decide +kernel
theorem dX5_mixedWithHearers_23 : decode cX5_mixedWithHearers 23 = .ok (.if_icmp .gt 23, 3) := by decide +kernel
theorem dX5_mixedWithHearers_26 : decode cX5_mixedWithHearers 26 = .ok (.lload_n 3, 1) := by decide +kernel
theorem dX5_mixedWithHearers_27 : decode cX5_mixedWithHearers 27 = .ok (.aload_n 0, 1) := by decide +kernel
theorem dX5_mixedWithHearers_28 : decode cX5_mixedWithHearers 28 = .ok (.iload 5, 2) := by decide +kernel
theorem dX5_mixedWithHearers_30 : decode cX5_mixedWithHearers 30 = .ok (.iload 6, 2) := by decide +kernel
theorem dX5_mixedWithHearers_32 : decode cX5_mixedWithHearers 32 = .ok (.invokevirtual 269, 3) := by decide +kernel
theorem dX5_mixedWithHearers_35 : decode cX5_mixedWithHearers 35 = .ok (.i2l, 1) := by decide +kernel
theorem dX5_mixedWithHearers_36 : decode cX5_mixedWithHearers 36 = .ok (.invokestatic 247, 3) := by decide +kernel
theorem dX5_mixedWithHearers_39 : decode cX5_mixedWithHearers 39 = .ok (.lstore_n 3, 1) := by decide +kernel
theorem dX5_mixedWithHearers_40 : decode cX5_mixedWithHearers 40 = .ok (.iinc 6 1, 3) := by decide +kernel
theorem dX5_mixedWithHearers_43 : decode cX5_mixedWithHearers 43 = .ok (.goto (-23), 3) := by decide +kernel
theorem dX5_mixedWithHearers_46 : decode cX5_mixedWithHearers 46 = .ok (.iinc 5 1, 3) := by decide +kernel
theorem dX5_mixedWithHearers_49 : decode cX5_mixedWithHearers 49 = .ok (.goto (-44), 3) := by decide +kernel
theorem dX5_mixedWithHearers_52 : decode cX5_mixedWithHearers 52 = .ok (.lload_n 3, 1) := by decide +kernel
theorem dX5_mixedWithHearers_53 : decode cX5_mixedWithHearers 53 = .ok (.lreturn, 1) := by decide +kernel
theorem dX5_mixedWithSaying_0 : decode cX5_mixedWithSaying 0 = .ok (.lload_n 1, 1) := by decide +kernel
theorem dX5_mixedWithSaying_1 : decode cX5_mixedWithSaying 1 = .ok (.aload_n 0, 1) := by decide +kernel
theorem dX5_mixedWithSaying_2 : decode cX5_mixedWithSaying 2 = .ok (.iconst 0, 1) := by decide +kernel
theorem dX5_mixedWithSaying_3 : decode cX5_mixedWithSaying 3 = .ok (.invokevirtual 272, 3) := by decide +kernel
theorem dX5_mixedWithSaying_6 : decode cX5_mixedWithSaying 6 = .ok (.i2l, 1) := by decide +kernel
theorem dX5_mixedWithSaying_7 : decode cX5_mixedWithSaying 7 = .ok (.invokestatic 247, 3) := by decide +kernel
theorem dX5_mixedWithSaying_10 : decode cX5_mixedWithSaying 10 = .ok (.aload_n 0, 1) := by decide +kernel
theorem dX5_mixedWithSaying_11 : decode cX5_mixedWithSaying 11 = .ok (.iconst 1, 1) := by decide +kernel
theorem dX5_mixedWithSaying_12 : decode cX5_mixedWithSaying 12 = .ok (.invokevirtual 272, 3) := by decide +kernel
theorem dX5_mixedWithSaying_15 : decode cX5_mixedWithSaying 15 = .ok (.i2l, 1) := by decide +kernel
theorem dX5_mixedWithSaying_16 : decode cX5_mixedWithSaying 16 = .ok (.invokestatic 247, 3) := by decide +kernel
theorem dX5_mixedWithSaying_19 : decode cX5_mixedWithSaying 19 = .ok (.lstore_n 3, 1) := by decide +kernel
theorem dX5_mixedWithSaying_20 : decode cX5_mixedWithSaying 20 = .ok (.lload_n 3, 1) := by decide +kernel
theorem dX5_mixedWithSaying_21 : decode cX5_mixedWithSaying 21 = .ok (.aload_n 0, 1) := by decide +kernel
theorem dX5_mixedWithSaying_22 : decode cX5_mixedWithSaying 22 = .ok (.invokevirtual 275, 3) := by decide +kernel
theorem dX5_mixedWithSaying_25 : decode cX5_mixedWithSaying 25 = .ok (.i2l, 1) := by decide +kernel
theorem dX5_mixedWithSaying_26 : decode cX5_mixedWithSaying 26 = .ok (.invokestatic 247, 3) := by decide +kernel
theorem dX5_mixedWithSaying_29 : decode cX5_mixedWithSaying 29 = .ok (.lstore_n 3, 1) := by decide +kernel
theorem dX5_mixedWithSaying_30 : decode cX5_mixedWithSaying 30 = .ok (.iconst 0, 1) := by decide +kernel
theorem dX5_mixedWithSaying_31 : decode cX5_mixedWithSaying 31 = .ok (.istore 5, 2) := by decide +kernel
theorem dX5_mixedWithSaying_33 : decode cX5_mixedWithSaying 33 = .ok (.iload 5, 2) := by decide +kernel
theorem dX5_mixedWithSaying_35 : decode cX5_mixedWithSaying 35 = .ok (.iconst 2, 1) := by decide +kernel
theorem dX5_mixedWithSaying_36 : decode cX5_mixedWithSaying 36 = .ok (.if_icmp .gt 21, 3) := by decide +kernel
theorem dX5_mixedWithSaying_39 : decode cX5_mixedWithSaying 39 = .ok (.lload_n 3, 1) := by decide +kernel
theorem dX5_mixedWithSaying_40 : decode cX5_mixedWithSaying 40 = .ok (.aload_n 0, 1) := by decide +kernel
theorem dX5_mixedWithSaying_41 : decode cX5_mixedWithSaying 41 = .ok (.iload 5, 2) := by decide +kernel
theorem dX5_mixedWithSaying_43 : decode cX5_mixedWithSaying 43 = .ok (.invokevirtual 278, 3) := by decide +kernel
theorem dX5_mixedWithSaying_46 : decode cX5_mixedWithSaying 46 = .ok (.i2l, 1) := by decide +kernel
theorem dX5_mixedWithSaying_47 : decode cX5_mixedWithSaying 47 = .ok (.invokestatic 247, 3) := by decide +kernel
theorem dX5_mixedWithSaying_50 : decode cX5_mixedWithSaying 50 = .ok (.lstore_n 3, 1) := by decide +kernel
theorem dX5_mixedWithSaying_51 : decode cX5_mixedWithSaying 51 = .ok (.iinc 5 1, 3) := by decide +kernel
theorem dX5_mixedWithSaying_54 : decode cX5_mixedWithSaying 54 = .ok (.goto (-21), 3) := by decide +kernel
theorem dX5_mixedWithSaying_57 : decode cX5_mixedWithSaying 57 = .ok (.lload_n 3, 1) := by decide +kernel
theorem dX5_mixedWithSaying_58 : decode cX5_mixedWithSaying 58 = .ok (.aload_n 0, 1) := by decide +kernel
theorem dX5_mixedWithSaying_59 : decode cX5_mixedWithSaying 59 = .ok (.invokevirtual 281, 3) := by decide +kernel
theorem dX5_mixedWithSaying_62 : decode cX5_mixedWithSaying 62 = .ok (.i2l, 1) := by decide +kernel
theorem dX5_mixedWithSaying_63 : decode cX5_mixedWithSaying 63 = .ok (.invokestatic 247, 3) := by decide +kernel
theorem dX5_mixedWithSaying_66 : decode cX5_mixedWithSaying 66 = .ok (.lreturn, 1) := by decide +kernel
theorem dX5_mixedWithFits_0 : decode cX5_mixedWithFits 0 = .ok (.lload_n 1, 1) := by decide +kernel
theorem dX5_mixedWithFits_1 : decode cX5_mixedWithFits 1 = .ok (.lstore_n 3, 1) := by decide +kernel
theorem dX5_mixedWithFits_2 : decode cX5_mixedWithFits 2 = .ok (.iconst 0, 1) := by decide +kernel
theorem dX5_mixedWithFits_3 : decode cX5_mixedWithFits 3 = .ok (.istore 5, 2) := by decide +kernel
theorem dX5_mixedWithFits_5 : decode cX5_mixedWithFits 5 = .ok (.iload 5, 2) := by decide +kernel
theorem dX5_mixedWithFits_7 : decode cX5_mixedWithFits 7 = .ok (.aload_n 0, 1) := by decide +kernel
theorem dX5_mixedWithFits_8 : decode cX5_mixedWithFits 8 = .ok (.getfield 36, 3) := by decide +kernel
theorem dX5_mixedWithFits_11 : decode cX5_mixedWithFits 11 = .ok (.getfield 150, 3) := by decide +kernel
theorem dX5_mixedWithFits_14 : decode cX5_mixedWithFits 14 = .ok (.if_icmp .ge 33, 3) := by decide +kernel
theorem dX5_mixedWithFits_17 : decode cX5_mixedWithFits 17 = .ok (.lload_n 3, 1) := by decide +kernel
theorem dX5_mixedWithFits_18 : decode cX5_mixedWithFits 18 = .ok (.aload_n 0, 1) := by decide +kernel
theorem dX5_mixedWithFits_19 : decode cX5_mixedWithFits 19 = .ok (.iload 5, 2) := by decide +kernel
theorem dX5_mixedWithFits_21 : decode cX5_mixedWithFits 21 = .ok (.iconst 0, 1) := by decide +kernel
theorem dX5_mixedWithFits_22 : decode cX5_mixedWithFits 22 = .ok (.invokevirtual 284, 3) := by decide +kernel
theorem dX5_mixedWithFits_25 : decode cX5_mixedWithFits 25 = .ok (.i2l, 1) := by decide +kernel
theorem dX5_mixedWithFits_26 : decode cX5_mixedWithFits 26 = .ok (.invokestatic 247, 3) := by decide +kernel
theorem dX5_mixedWithFits_29 : decode cX5_mixedWithFits 29 = .ok (.aload_n 0, 1) := by decide +kernel
theorem dX5_mixedWithFits_30 : decode cX5_mixedWithFits 30 = .ok (.iload 5, 2) := by decide +kernel
theorem dX5_mixedWithFits_32 : decode cX5_mixedWithFits 32 = .ok (.iconst 1, 1) := by decide +kernel
theorem dX5_mixedWithFits_33 : decode cX5_mixedWithFits 33 = .ok (.invokevirtual 284, 3) := by decide +kernel
theorem dX5_mixedWithFits_36 : decode cX5_mixedWithFits 36 = .ok (.i2l, 1) := by decide +kernel
theorem dX5_mixedWithFits_37 : decode cX5_mixedWithFits 37 = .ok (.invokestatic 247, 3) := by decide +kernel
theorem dX5_mixedWithFits_40 : decode cX5_mixedWithFits 40 = .ok (.lstore_n 3, 1) := by decide +kernel
theorem dX5_mixedWithFits_41 : decode cX5_mixedWithFits 41 = .ok (.iinc 5 1, 3) := by decide +kernel
theorem dX5_mixedWithFits_44 : decode cX5_mixedWithFits 44 = .ok (.goto (-39), 3) := by decide +kernel
theorem dX5_mixedWithFits_47 : decode cX5_mixedWithFits 47 = .ok (.lload_n 3, 1) := by decide +kernel
theorem dX5_mixedWithFits_48 : decode cX5_mixedWithFits 48 = .ok (.lreturn, 1) := by decide +kernel
theorem dX5_isFact_0 : decode cX5_isFact 0 = .ok (.iload_n 0, 1) := by decide +kernel
theorem dX5_isFact_1 : decode cX5_isFact 1 = .ok (.ifCond .lt 13, 3) := by decide +kernel
theorem dX5_isFact_4 : decode cX5_isFact 4 = .ok (.iload_n 0, 1) := by decide +kernel
theorem dX5_isFact_5 : decode cX5_isFact 5 = .ok (.bipush 6, 2) := by decide +kernel
theorem dX5_isFact_7 : decode cX5_isFact 7 = .ok (.if_icmp .ge 7, 3) := by decide +kernel
theorem dX5_isFact_10 : decode cX5_isFact 10 = .ok (.iconst 1, 1) := by decide +kernel
theorem dX5_isFact_11 : decode cX5_isFact 11 = .ok (.goto 4, 3) := by decide +kernel
theorem dX5_isFact_14 : decode cX5_isFact 14 = .ok (.iconst 0, 1) := by decide +kernel
theorem dX5_isFact_15 : decode cX5_isFact 15 = .ok (.ireturn, 1) := by decide +kernel
theorem dX5_isValue_0 : decode cX5_isValue 0 = .ok (.iload_n 0, 1) := by decide +kernel
theorem dX5_isValue_1 : decode cX5_isValue 1 = .ok (.ifCond .eq 8, 3) := by decide +kernel
theorem dX5_isValue_4 : decode cX5_isValue 4 = .ok (.iload_n 0, 1) := by decide +kernel
theorem dX5_isValue_5 : decode cX5_isValue 5 = .ok (.iconst 1, 1) := by decide +kernel
theorem dX5_isValue_6 : decode cX5_isValue 6 = .ok (.if_icmp .ne 7, 3) := by decide +kernel
theorem dX5_isValue_9 : decode cX5_isValue 9 = .ok (.iconst 1, 1) := by decide +kernel
theorem dX5_isValue_10 : decode cX5_isValue 10 = .ok (.goto 4, 3) := by decide +kernel
theorem dX5_isValue_13 : decode cX5_isValue 13 = .ok (.iconst 0, 1) := by decide +kernel
theorem dX5_isValue_14 : decode cX5_isValue 14 = .ok (.ireturn, 1) := by decide +kernel
theorem dX5_isWorld_0 : decode cX5_isWorld 0 = .ok (.iload_n 0, 1) := by decide +kernel
theorem dX5_isWorld_1 : decode cX5_isWorld 1 = .ok (.ifCond .lt 13, 3) := by decide +kernel
theorem dX5_isWorld_4 : decode cX5_isWorld 4 = .ok (.iload_n 0, 1) := by decide +kernel
theorem dX5_isWorld_5 : decode cX5_isWorld 5 = .ok (.bipush 64, 2) := by decide +kernel
theorem dX5_isWorld_7 : decode cX5_isWorld 7 = .ok (.if_icmp .ge 7, 3) := by decide +kernel
theorem dX5_isWorld_10 : decode cX5_isWorld 10 = .ok (.iconst 1, 1) := by decide +kernel
theorem dX5_isWorld_11 : decode cX5_isWorld 11 = .ok (.goto 4, 3) := by decide +kernel
theorem dX5_isWorld_14 : decode cX5_isWorld 14 = .ok (.iconst 0, 1) := by decide +kernel
theorem dX5_isWorld_15 : decode cX5_isWorld 15 = .ok (.ireturn, 1) := by decide +kernel
theorem dX5_isKind_0 : decode cX5_isKind 0 = .ok (.iload_n 0, 1) := by decide +kernel
theorem dX5_isKind_1 : decode cX5_isKind 1 = .ok (.ifCond .lt 12, 3) := by decide +kernel
theorem dX5_isKind_4 : decode cX5_isKind 4 = .ok (.iload_n 0, 1) := by decide +kernel
theorem dX5_isKind_5 : decode cX5_isKind 5 = .ok (.iconst 4, 1) := by decide +kernel
theorem dX5_isKind_6 : decode cX5_isKind 6 = .ok (.if_icmp .gt 7, 3) := by decide +kernel
theorem dX5_isKind_9 : decode cX5_isKind 9 = .ok (.iconst 1, 1) := by decide +kernel
theorem dX5_isKind_10 : decode cX5_isKind 10 = .ok (.goto 4, 3) := by decide +kernel
theorem dX5_isKind_13 : decode cX5_isKind 13 = .ok (.iconst 0, 1) := by decide +kernel
theorem dX5_isKind_14 : decode cX5_isKind 14 = .ok (.ireturn, 1) := by decide +kernel
theorem dX5_isOfKind_0 : decode cX5_isOfKind 0 = .ok (.iload_n 1, 1) := by decide +kernel
theorem dX5_isOfKind_1 : decode cX5_isOfKind 1 = .ok (.ifCond .eq 18, 3) := by decide +kernel
theorem dX5_isOfKind_4 : decode cX5_isOfKind 4 = .ok (.iload_n 1, 1) := by decide +kernel
theorem dX5_isOfKind_5 : decode cX5_isOfKind 5 = .ok (.iload_n 0, 1) := by decide +kernel
theorem dX5_isOfKind_6 : decode cX5_isOfKind 6 = .ok (.if_icmp .eq 13, 3) := by decide +kernel
theorem dX5_isOfKind_9 : decode cX5_isOfKind 9 = .ok (.iload_n 1, 1) := by decide +kernel
theorem dX5_isOfKind_10 : decode cX5_isOfKind 10 = .ok (.iconst 3, 1) := by decide +kernel
theorem dX5_isOfKind_11 : decode cX5_isOfKind 11 = .ok (.if_icmp .ne 12, 3) := by decide +kernel
theorem dX5_isOfKind_14 : decode cX5_isOfKind 14 = .ok (.iload_n 0, 1) := by decide +kernel
theorem dX5_isOfKind_15 : decode cX5_isOfKind 15 = .ok (.iconst 4, 1) := by decide +kernel
theorem dX5_isOfKind_16 : decode cX5_isOfKind 16 = .ok (.if_icmp .ne 7, 3) := by decide +kernel
theorem dX5_isOfKind_19 : decode cX5_isOfKind 19 = .ok (.iconst 1, 1) := by decide +kernel
theorem dX5_isOfKind_20 : decode cX5_isOfKind 20 = .ok (.goto 4, 3) := by decide +kernel
theorem dX5_isOfKind_23 : decode cX5_isOfKind 23 = .ok (.iconst 0, 1) := by decide +kernel
theorem dX5_isOfKind_24 : decode cX5_isOfKind 24 = .ok (.ireturn, 1) := by decide +kernel
theorem dX5_bitOf_0 : decode cX5_bitOf 0 = .ok (.lload_n 0, 1) := by decide +kernel
theorem dX5_bitOf_1 : decode cX5_bitOf 1 = .ok (.iload_n 2, 1) := by decide +kernel
theorem dX5_bitOf_2 : decode cX5_bitOf 2 = .ok (.lushr, 1) := by decide +kernel
theorem dX5_bitOf_3 : decode cX5_bitOf 3 = .ok (.lconst 1, 1) := by decide +kernel
theorem dX5_bitOf_4 : decode cX5_bitOf 4 = .ok (.land, 1) := by decide +kernel
theorem dX5_bitOf_5 : decode cX5_bitOf 5 = .ok (.l2i, 1) := by decide +kernel
theorem dX5_bitOf_6 : decode cX5_bitOf 6 = .ok (.ireturn, 1) := by decide +kernel
theorem dX5_withFact_0 : decode cX5_withFact 0 = .ok (.iload_n 0, 1) := by decide +kernel
theorem dX5_withFact_1 : decode cX5_withFact 1 = .ok (.iconst 1, 1) := by decide +kernel
theorem dX5_withFact_2 : decode cX5_withFact 2 = .ok (.iload_n 1, 1) := by decide +kernel
theorem dX5_withFact_3 : decode cX5_withFact 3 = .ok (.ishl, 1) := by decide +kernel
theorem dX5_withFact_4 : decode cX5_withFact 4 = .ok (.iconst (-1), 1) := by decide +kernel
theorem dX5_withFact_5 : decode cX5_withFact 5 = .ok (.ixor, 1) := by decide +kernel
theorem dX5_withFact_6 : decode cX5_withFact 6 = .ok (.iand, 1) := by decide +kernel
theorem dX5_withFact_7 : decode cX5_withFact 7 = .ok (.iload_n 2, 1) := by decide +kernel
theorem dX5_withFact_8 : decode cX5_withFact 8 = .ok (.iload_n 1, 1) := by decide +kernel
theorem dX5_withFact_9 : decode cX5_withFact 9 = .ok (.ishl, 1) := by decide +kernel
theorem dX5_withFact_10 : decode cX5_withFact 10 = .ok (.ior, 1) := by decide +kernel
theorem dX5_withFact_11 : decode cX5_withFact 11 = .ok (.ireturn, 1) := by decide +kernel
theorem dX5_worldsOfFact_0 : decode cX5_worldsOfFact 0 = .ok (.iload_n 0, 1) := by decide +kernel
theorem dX5_worldsOfFact_1 : decode cX5_worldsOfFact 1 = .ok (.ifCond .lt 19, 3) := by decide +kernel
theorem dX5_worldsOfFact_4 : decode cX5_worldsOfFact 4 = .ok (.iload_n 0, 1) := by decide +kernel
theorem dX5_worldsOfFact_5 : decode cX5_worldsOfFact 5 = .ok (.getstatic 287, 3) := by decide +kernel
theorem dX5_worldsOfFact_8 : decode cX5_worldsOfFact 8 = .ok (.arraylength, 1) := by decide +kernel
theorem dX5_worldsOfFact_9 : decode cX5_worldsOfFact 9 = .ok (.if_icmp .ge 11, 3) := by decide +kernel
theorem dX5_worldsOfFact_12 : decode cX5_worldsOfFact 12 = .ok (.getstatic 287, 3) := by decide +kernel
theorem dX5_worldsOfFact_15 : decode cX5_worldsOfFact 15 = .ok (.iload_n 0, 1) := by decide +kernel
theorem dX5_worldsOfFact_16 : decode cX5_worldsOfFact 16 = .ok (.laload, 1) := by decide +kernel
theorem dX5_worldsOfFact_17 : decode cX5_worldsOfFact 17 = .ok (.goto 4, 3) := by decide +kernel
theorem dX5_worldsOfFact_20 : decode cX5_worldsOfFact 20 = .ok (.lconst 0, 1) := by decide +kernel
theorem dX5_worldsOfFact_21 : decode cX5_worldsOfFact 21 = .ok (.lreturn, 1) := by decide +kernel
theorem dX5_taken_0 : decode cX5_taken 0 = .ok (.aload_n 0, 1) := by decide +kernel
theorem dX5_taken_1 : decode cX5_taken 1 = .ok (.getfield 23, 3) := by decide +kernel
theorem dX5_taken_4 : decode cX5_taken 4 = .ok (.invokevirtual 121, 3) := by decide +kernel
theorem dX5_taken_7 : decode cX5_taken 7 = .ok (.ifCond .eq 5, 3) := by decide +kernel
theorem dX5_taken_10 : decode cX5_taken 10 = .ok (.iconst (-1), 1) := by decide +kernel
theorem dX5_taken_11 : decode cX5_taken 11 = .ok (.ireturn, 1) := by decide +kernel
theorem dX5_taken_12 : decode cX5_taken 12 = .ok (.aload_n 0, 1) := by decide +kernel
theorem dX5_taken_13 : decode cX5_taken 13 = .ok (.getfield 36, 3) := by decide +kernel
theorem dX5_taken_16 : decode cX5_taken 16 = .ok (.iload_n 1, 1) := by decide +kernel
theorem dX5_taken_17 : decode cX5_taken 17 = .ok (.invokevirtual 156, 3) := by decide +kernel
theorem dX5_taken_20 : decode cX5_taken 20 = .ok (.tableswitch 58 1 4 #[32, 42, 50, 50], 32) := by decide +kernel
theorem dX5_taken_52 : decode cX5_taken 52 = .ok (.aload_n 0, 1) := by decide +kernel
theorem dX5_taken_53 : decode cX5_taken 53 = .ok (.getfield 23, 3) := by decide +kernel
theorem dX5_taken_56 : decode cX5_taken 56 = .ok (.getfield 91, 3) := by decide +kernel
theorem dX5_taken_59 : decode cX5_taken 59 = .ok (.iconst 1, 1) := by decide +kernel
theorem dX5_taken_60 : decode cX5_taken 60 = .ok (.isub, 1) := by decide +kernel
theorem dX5_taken_61 : decode cX5_taken 61 = .ok (.ireturn, 1) := by decide +kernel
theorem dX5_taken_62 : decode cX5_taken 62 = .ok (.aload_n 0, 1) := by decide +kernel
theorem dX5_taken_63 : decode cX5_taken 63 = .ok (.getfield 23, 3) := by decide +kernel
theorem dX5_taken_66 : decode cX5_taken 66 = .ok (.getfield 291, 3) := by decide +kernel
theorem dX5_taken_69 : decode cX5_taken 69 = .ok (.ireturn, 1) := by decide +kernel
theorem dX5_taken_70 : decode cX5_taken 70 = .ok (.aload_n 0, 1) := by decide +kernel
theorem dX5_taken_71 : decode cX5_taken 71 = .ok (.getfield 23, 3) := by decide +kernel
theorem dX5_taken_74 : decode cX5_taken 74 = .ok (.getfield 294, 3) := by decide +kernel
theorem dX5_taken_77 : decode cX5_taken 77 = .ok (.ireturn, 1) := by decide +kernel
theorem dX5_taken_78 : decode cX5_taken 78 = .ok (.iconst 0, 1) := by decide +kernel
theorem dX5_taken_79 : decode cX5_taken 79 = .ok (.ireturn, 1) := by decide +kernel
theorem dX5_actsNow_0 : decode cX5_actsNow 0 = .ok (.aload_n 0, 1) := by decide +kernel
theorem dX5_actsNow_1 : decode cX5_actsNow 1 = .ok (.getfield 23, 3) := by decide +kernel
theorem dX5_actsNow_4 : decode cX5_actsNow 4 = .ok (.invokevirtual 121, 3) := by decide +kernel
theorem dX5_actsNow_7 : decode cX5_actsNow 7 = .ok (.ifCond .ne 24, 3) := by decide +kernel
theorem dX5_actsNow_10 : decode cX5_actsNow 10 = .ok (.aload_n 0, 1) := by decide +kernel
theorem dX5_actsNow_11 : decode cX5_actsNow 11 = .ok (.iload_n 1, 1) := by decide +kernel
theorem dX5_actsNow_12 : decode cX5_actsNow 12 = .ok (.aload_n 0, 1) := by decide +kernel
theorem dX5_actsNow_13 : decode cX5_actsNow 13 = .ok (.iload_n 1, 1) := by decide +kernel
theorem dX5_actsNow_14 : decode cX5_actsNow 14 = .ok (.invokevirtual 165, 3) := by decide +kernel
theorem dX5_actsNow_17 : decode cX5_actsNow 17 = .ok (.aload_n 0, 1) := by decide +kernel
theorem dX5_actsNow_18 : decode cX5_actsNow 18 = .ok (.getfield 124, 3) := by decide +kernel
theorem dX5_actsNow_21 : decode cX5_actsNow 21 = .ok (.invokevirtual 297, 3) := by decide +kernel
theorem dX5_actsNow_24 : decode cX5_actsNow 24 = .ok (.ifCond .eq 7, 3) := by decide +kernel
theorem dX5_actsNow_27 : decode cX5_actsNow 27 = .ok (.iconst 1, 1) := by decide +kernel
theorem dX5_actsNow_28 : decode cX5_actsNow 28 = .ok (.goto 4, 3) := by decide +kernel
theorem dX5_actsNow_31 : decode cX5_actsNow 31 = .ok (.iconst 0, 1) := by decide +kernel
theorem dX5_actsNow_32 : decode cX5_actsNow 32 = .ok (.ireturn, 1) := by decide +kernel
theorem dX5_actsBy_0 : decode cX5_actsBy 0 = .ok (.aload_n 0, 1) := by decide +kernel
theorem dX5_actsBy_1 : decode cX5_actsBy 1 = .ok (.getfield 23, 3) := by decide +kernel
theorem dX5_actsBy_4 : decode cX5_actsBy 4 = .ok (.iload_n 2, 1) := by decide +kernel
theorem dX5_actsBy_5 : decode cX5_actsBy 5 = .ok (.invokevirtual 104, 3) := by decide +kernel
theorem dX5_actsBy_8 : decode cX5_actsBy 8 = .ok (.iload_n 3, 1) := by decide +kernel
theorem dX5_actsBy_9 : decode cX5_actsBy 9 = .ok (.invokestatic 117, 3) := by decide +kernel
theorem dX5_actsBy_12 : decode cX5_actsBy 12 = .ok (.iconst 1, 1) := by decide +kernel
theorem dX5_actsBy_13 : decode cX5_actsBy 13 = .ok (.if_icmp .ne 7, 3) := by decide +kernel
theorem dX5_actsBy_16 : decode cX5_actsBy 16 = .ok (.iconst 1, 1) := by decide +kernel
theorem dX5_actsBy_17 : decode cX5_actsBy 17 = .ok (.goto 4, 3) := by decide +kernel
theorem dX5_actsBy_20 : decode cX5_actsBy 20 = .ok (.iconst 0, 1) := by decide +kernel
theorem dX5_actsBy_21 : decode cX5_actsBy 21 = .ok (.istore 4, 2) := by decide +kernel
theorem dX5_actsBy_23 : decode cX5_actsBy 23 = .ok (.aload_n 0, 1) := by decide +kernel
theorem dX5_actsBy_24 : decode cX5_actsBy 24 = .ok (.getfield 36, 3) := by decide +kernel
theorem dX5_actsBy_27 : decode cX5_actsBy 27 = .ok (.iload_n 1, 1) := by decide +kernel
theorem dX5_actsBy_28 : decode cX5_actsBy 28 = .ok (.invokevirtual 156, 3) := by decide +kernel
theorem dX5_actsBy_31 : decode cX5_actsBy 31 = .ok (.iconst 4, 1) := by decide +kernel
theorem dX5_actsBy_32 : decode cX5_actsBy 32 = .ok (.if_icmp .ne 8, 3) := by decide +kernel
theorem dX5_actsBy_35 : decode cX5_actsBy 35 = .ok (.iload 4, 2) := by decide +kernel
theorem dX5_actsBy_37 : decode cX5_actsBy 37 = .ok (.goto 13, 3) := by decide +kernel
theorem dX5_actsBy_40 : decode cX5_actsBy 40 = .ok (.iload 4, 2) := by decide +kernel
theorem dX5_actsBy_42 : decode cX5_actsBy 42 = .ok (.ifCond .ne 7, 3) := by decide +kernel
theorem dX5_actsBy_45 : decode cX5_actsBy 45 = .ok (.iconst 1, 1) := by decide +kernel
theorem dX5_actsBy_46 : decode cX5_actsBy 46 = .ok (.goto 4, 3) := by decide +kernel
theorem dX5_actsBy_49 : decode cX5_actsBy 49 = .ok (.iconst 0, 1) := by decide +kernel
theorem dX5_actsBy_50 : decode cX5_actsBy 50 = .ok (.ireturn, 1) := by decide +kernel
theorem dX5_behindAct_0 : decode cX5_behindAct 0 = .ok (.aload_n 0, 1) := by decide +kernel
theorem dX5_behindAct_1 : decode cX5_behindAct 1 = .ok (.iload_n 1, 1) := by decide +kernel
theorem dX5_behindAct_2 : decode cX5_behindAct 2 = .ok (.iload_n 2, 1) := by decide +kernel
theorem dX5_behindAct_3 : decode cX5_behindAct 3 = .ok (.iload_n 3, 1) := by decide +kernel
theorem dX5_behindAct_4 : decode cX5_behindAct 4 = .ok (.invokevirtual 297, 3) := by decide +kernel
theorem dX5_behindAct_7 : decode cX5_behindAct 7 = .ok (.ifCond .ne 5, 3) := by decide +kernel
theorem dX5_behindAct_10 : decode cX5_behindAct 10 = .ok (.iload_n 3, 1) := by decide +kernel
theorem dX5_behindAct_11 : decode cX5_behindAct 11 = .ok (.ireturn, 1) := by decide +kernel
theorem dX5_behindAct_12 : decode cX5_behindAct 12 = .ok (.iload_n 3, 1) := by decide +kernel
theorem dX5_behindAct_13 : decode cX5_behindAct 13 = .ok (.aload_n 0, 1) := by decide +kernel
theorem dX5_behindAct_14 : decode cX5_behindAct 14 = .ok (.getfield 36, 3) := by decide +kernel
theorem dX5_behindAct_17 : decode cX5_behindAct 17 = .ok (.iload_n 1, 1) := by decide +kernel
theorem dX5_behindAct_18 : decode cX5_behindAct 18 = .ok (.invokevirtual 159, 3) := by decide +kernel
theorem dX5_behindAct_21 : decode cX5_behindAct 21 = .ok (.aload_n 0, 1) := by decide +kernel
theorem dX5_behindAct_22 : decode cX5_behindAct 22 = .ok (.getfield 36, 3) := by decide +kernel
theorem dX5_behindAct_25 : decode cX5_behindAct 25 = .ok (.iload_n 1, 1) := by decide +kernel
theorem dX5_behindAct_26 : decode cX5_behindAct 26 = .ok (.invokevirtual 162, 3) := by decide +kernel
theorem dX5_behindAct_29 : decode cX5_behindAct 29 = .ok (.invokestatic 139, 3) := by decide +kernel
theorem dX5_behindAct_32 : decode cX5_behindAct 32 = .ok (.ireturn, 1) := by decide +kernel
theorem dX5_behindRound_0 : decode cX5_behindRound 0 = .ok (.iload_n 1, 1) := by decide +kernel
theorem dX5_behindRound_1 : decode cX5_behindRound 1 = .ok (.istore_n 2, 1) := by decide +kernel
theorem dX5_behindRound_2 : decode cX5_behindRound 2 = .ok (.iconst 0, 1) := by decide +kernel
theorem dX5_behindRound_3 : decode cX5_behindRound 3 = .ok (.istore_n 3, 1) := by decide +kernel
theorem dX5_behindRound_4 : decode cX5_behindRound 4 = .ok (.iload_n 3, 1) := by decide +kernel
theorem dX5_behindRound_5 : decode cX5_behindRound 5 = .ok (.aload_n 0, 1) := by decide +kernel
theorem dX5_behindRound_6 : decode cX5_behindRound 6 = .ok (.getfield 36, 3) := by decide +kernel
theorem dX5_behindRound_9 : decode cX5_behindRound 9 = .ok (.getfield 150, 3) := by decide +kernel
theorem dX5_behindRound_12 : decode cX5_behindRound 12 = .ok (.if_icmp .ge 21, 3) := by decide +kernel
theorem dX5_behindRound_15 : decode cX5_behindRound 15 = .ok (.aload_n 0, 1) := by decide +kernel
theorem dX5_behindRound_16 : decode cX5_behindRound 16 = .ok (.iload_n 3, 1) := by decide +kernel
theorem dX5_behindRound_17 : decode cX5_behindRound 17 = .ok (.aload_n 0, 1) := by decide +kernel
theorem dX5_behindRound_18 : decode cX5_behindRound 18 = .ok (.iload_n 3, 1) := by decide +kernel
theorem dX5_behindRound_19 : decode cX5_behindRound 19 = .ok (.invokevirtual 165, 3) := by decide +kernel
theorem dX5_behindRound_22 : decode cX5_behindRound 22 = .ok (.iload_n 2, 1) := by decide +kernel
theorem dX5_behindRound_23 : decode cX5_behindRound 23 = .ok (.invokevirtual 300, 3) := by decide +kernel
theorem dX5_behindRound_26 : decode cX5_behindRound 26 = .ok (.istore_n 2, 1) := by decide +kernel
theorem dX5_behindRound_27 : decode cX5_behindRound 27 = .ok (.iinc 3 1, 3) := by decide +kernel
theorem dX5_behindRound_30 : decode cX5_behindRound 30 = .ok (.goto (-26), 3) := by decide +kernel
theorem dX5_behindRound_33 : decode cX5_behindRound 33 = .ok (.iload_n 2, 1) := by decide +kernel
theorem dX5_behindRound_34 : decode cX5_behindRound 34 = .ok (.ireturn, 1) := by decide +kernel
theorem dX5_letAct_0 : decode cX5_letAct 0 = .ok (.aload_n 0, 1) := by decide +kernel
theorem dX5_letAct_1 : decode cX5_letAct 1 = .ok (.iload_n 1, 1) := by decide +kernel
theorem dX5_letAct_2 : decode cX5_letAct 2 = .ok (.aload_n 0, 1) := by decide +kernel
theorem dX5_letAct_3 : decode cX5_letAct 3 = .ok (.iload_n 1, 1) := by decide +kernel
theorem dX5_letAct_4 : decode cX5_letAct 4 = .ok (.invokevirtual 165, 3) := by decide +kernel
theorem dX5_letAct_7 : decode cX5_letAct 7 = .ok (.aload_n 0, 1) := by decide +kernel
theorem dX5_letAct_8 : decode cX5_letAct 8 = .ok (.getfield 124, 3) := by decide +kernel
theorem dX5_letAct_11 : decode cX5_letAct 11 = .ok (.invokevirtual 300, 3) := by decide +kernel
theorem dX5_letAct_14 : decode cX5_letAct 14 = .ok (.istore_n 2, 1) := by decide +kernel
theorem dX5_letAct_15 : decode cX5_letAct 15 = .ok (.iload_n 2, 1) := by decide +kernel
theorem dX5_letAct_16 : decode cX5_letAct 16 = .ok (.aload_n 0, 1) := by decide +kernel
theorem dX5_letAct_17 : decode cX5_letAct 17 = .ok (.getfield 124, 3) := by decide +kernel
theorem dX5_letAct_20 : decode cX5_letAct 20 = .ok (.if_icmp .eq 11, 3) := by decide +kernel
theorem dX5_letAct_23 : decode cX5_letAct 23 = .ok (.aload_n 0, 1) := by decide +kernel
theorem dX5_letAct_24 : decode cX5_letAct 24 = .ok (.getfield 36, 3) := by decide +kernel
theorem dX5_letAct_27 : decode cX5_letAct 27 = .ok (.iload_n 1, 1) := by decide +kernel
theorem dX5_letAct_28 : decode cX5_letAct 28 = .ok (.invokevirtual 303, 3) := by decide +kernel
theorem dX5_letAct_31 : decode cX5_letAct 31 = .ok (.aload_n 0, 1) := by decide +kernel
theorem dX5_letAct_32 : decode cX5_letAct 32 = .ok (.iload_n 2, 1) := by decide +kernel
theorem dX5_letAct_33 : decode cX5_letAct 33 = .ok (.putfield 124, 3) := by decide +kernel
theorem dX5_letAct_36 : decode cX5_letAct 36 = .ok (.return_, 1) := by decide +kernel
theorem dX5_worldsLeft_0 : decode cX5_worldsLeft 0 = .ok (.aload_n 0, 1) := by decide +kernel
theorem dX5_worldsLeft_1 : decode cX5_worldsLeft 1 = .ok (.getfield 27, 3) := by decide +kernel
theorem dX5_worldsLeft_4 : decode cX5_worldsLeft 4 = .ok (.invokevirtual 121, 3) := by decide +kernel
theorem dX5_worldsLeft_7 : decode cX5_worldsLeft 7 = .ok (.ifCond .eq 13, 3) := by decide +kernel
theorem dX5_worldsLeft_10 : decode cX5_worldsLeft 10 = .ok (.aload_n 0, 1) := by decide +kernel
theorem dX5_worldsLeft_11 : decode cX5_worldsLeft 11 = .ok (.getfield 23, 3) := by decide +kernel
theorem dX5_worldsLeft_14 : decode cX5_worldsLeft 14 = .ok (.getfield 185, 3) := by decide +kernel
theorem dX5_worldsLeft_17 : decode cX5_worldsLeft 17 = .ok (.goto 18, 3) := by decide +kernel
theorem dX5_worldsLeft_20 : decode cX5_worldsLeft 20 = .ok (.aload_n 0, 1) := by decide +kernel
theorem dX5_worldsLeft_21 : decode cX5_worldsLeft 21 = .ok (.getfield 23, 3) := by decide +kernel
theorem dX5_worldsLeft_24 : decode cX5_worldsLeft 24 = .ok (.getfield 185, 3) := by decide +kernel
theorem dX5_worldsLeft_27 : decode cX5_worldsLeft 27 = .ok (.aload_n 0, 1) := by decide +kernel
theorem dX5_worldsLeft_28 : decode cX5_worldsLeft 28 = .ok (.getfield 27, 3) := by decide +kernel
theorem dX5_worldsLeft_31 : decode cX5_worldsLeft 31 = .ok (.getfield 185, 3) := by decide +kernel
theorem dX5_worldsLeft_34 : decode cX5_worldsLeft 34 = .ok (.land, 1) := by decide +kernel
theorem dX5_worldsLeft_35 : decode cX5_worldsLeft 35 = .ok (.lreturn, 1) := by decide +kernel
theorem dX5_factsSoInAll_0 : decode cX5_factsSoInAll 0 = .ok (.iconst 0, 1) := by decide +kernel
theorem dX5_factsSoInAll_1 : decode cX5_factsSoInAll 1 = .ok (.istore_n 2, 1) := by decide +kernel
theorem dX5_factsSoInAll_2 : decode cX5_factsSoInAll 2 = .ok (.iconst 0, 1) := by decide +kernel
theorem dX5_factsSoInAll_3 : decode cX5_factsSoInAll 3 = .ok (.istore_n 3, 1) := by decide +kernel
theorem dX5_factsSoInAll_4 : decode cX5_factsSoInAll 4 = .ok (.iload_n 3, 1) := by decide +kernel
theorem dX5_factsSoInAll_5 : decode cX5_factsSoInAll 5 = .ok (.bipush 6, 2) := by decide +kernel
theorem dX5_factsSoInAll_7 : decode cX5_factsSoInAll 7 = .ok (.if_icmp .ge 30, 3) := by decide +kernel
theorem dX5_factsSoInAll_10 : decode cX5_factsSoInAll 10 = .ok (.lload_n 0, 1) := by decide +kernel
theorem dX5_factsSoInAll_11 : decode cX5_factsSoInAll 11 = .ok (.iload_n 3, 1) := by decide +kernel
theorem dX5_factsSoInAll_12 : decode cX5_factsSoInAll 12 = .ok (.invokestatic 306, 3) := by decide +kernel
theorem dX5_factsSoInAll_15 : decode cX5_factsSoInAll 15 = .ok (.ldc2_w 309, 3) := by decide +kernel
theorem dX5_factsSoInAll_18 : decode cX5_factsSoInAll 18 = .ok (.lxor, 1) := by decide +kernel
theorem dX5_factsSoInAll_19 : decode cX5_factsSoInAll 19 = .ok (.land, 1) := by decide +kernel
theorem dX5_factsSoInAll_20 : decode cX5_factsSoInAll 20 = .ok (.lconst 0, 1) := by decide +kernel
theorem dX5_factsSoInAll_21 : decode cX5_factsSoInAll 21 = .ok (.lcmp, 1) := by decide +kernel
theorem dX5_factsSoInAll_22 : decode cX5_factsSoInAll 22 = .ok (.ifCond .ne 9, 3) := by decide +kernel
theorem dX5_factsSoInAll_25 : decode cX5_factsSoInAll 25 = .ok (.iload_n 2, 1) := by decide +kernel
theorem dX5_factsSoInAll_26 : decode cX5_factsSoInAll 26 = .ok (.iconst 1, 1) := by decide +kernel
theorem dX5_factsSoInAll_27 : decode cX5_factsSoInAll 27 = .ok (.iload_n 3, 1) := by decide +kernel
theorem dX5_factsSoInAll_28 : decode cX5_factsSoInAll 28 = .ok (.ishl, 1) := by decide +kernel
theorem dX5_factsSoInAll_29 : decode cX5_factsSoInAll 29 = .ok (.ior, 1) := by decide +kernel
theorem dX5_factsSoInAll_30 : decode cX5_factsSoInAll 30 = .ok (.istore_n 2, 1) := by decide +kernel
theorem dX5_factsSoInAll_31 : decode cX5_factsSoInAll 31 = .ok (.iinc 3 1, 3) := by decide +kernel
theorem dX5_factsSoInAll_34 : decode cX5_factsSoInAll 34 = .ok (.goto (-30), 3) := by decide +kernel
theorem dX5_factsSoInAll_37 : decode cX5_factsSoInAll 37 = .ok (.iload_n 2, 1) := by decide +kernel
theorem dX5_factsSoInAll_38 : decode cX5_factsSoInAll 38 = .ok (.ireturn, 1) := by decide +kernel
theorem dX5_factsSoInNone_0 : decode cX5_factsSoInNone 0 = .ok (.bipush 63, 2) := by decide +kernel
theorem dX5_factsSoInNone_2 : decode cX5_factsSoInNone 2 = .ok (.istore_n 2, 1) := by decide +kernel
theorem dX5_factsSoInNone_3 : decode cX5_factsSoInNone 3 = .ok (.iconst 0, 1) := by decide +kernel
theorem dX5_factsSoInNone_4 : decode cX5_factsSoInNone 4 = .ok (.istore_n 3, 1) := by decide +kernel
theorem dX5_factsSoInNone_5 : decode cX5_factsSoInNone 5 = .ok (.iload_n 3, 1) := by decide +kernel
theorem dX5_factsSoInNone_6 : decode cX5_factsSoInNone 6 = .ok (.bipush 6, 2) := by decide +kernel
theorem dX5_factsSoInNone_8 : decode cX5_factsSoInNone 8 = .ok (.if_icmp .ge 28, 3) := by decide +kernel
theorem dX5_factsSoInNone_11 : decode cX5_factsSoInNone 11 = .ok (.lload_n 0, 1) := by decide +kernel
theorem dX5_factsSoInNone_12 : decode cX5_factsSoInNone 12 = .ok (.iload_n 3, 1) := by decide +kernel
theorem dX5_factsSoInNone_13 : decode cX5_factsSoInNone 13 = .ok (.invokestatic 306, 3) := by decide +kernel
theorem dX5_factsSoInNone_16 : decode cX5_factsSoInNone 16 = .ok (.land, 1) := by decide +kernel
theorem dX5_factsSoInNone_17 : decode cX5_factsSoInNone 17 = .ok (.lconst 0, 1) := by decide +kernel
theorem dX5_factsSoInNone_18 : decode cX5_factsSoInNone 18 = .ok (.lcmp, 1) := by decide +kernel
theorem dX5_factsSoInNone_19 : decode cX5_factsSoInNone 19 = .ok (.ifCond .eq 11, 3) := by decide +kernel
theorem dX5_factsSoInNone_22 : decode cX5_factsSoInNone 22 = .ok (.iload_n 2, 1) := by decide +kernel
theorem dX5_factsSoInNone_23 : decode cX5_factsSoInNone 23 = .ok (.iconst 1, 1) := by decide +kernel
theorem dX5_factsSoInNone_24 : decode cX5_factsSoInNone 24 = .ok (.iload_n 3, 1) := by decide +kernel
theorem dX5_factsSoInNone_25 : decode cX5_factsSoInNone 25 = .ok (.ishl, 1) := by decide +kernel
theorem dX5_factsSoInNone_26 : decode cX5_factsSoInNone 26 = .ok (.iconst (-1), 1) := by decide +kernel
theorem dX5_factsSoInNone_27 : decode cX5_factsSoInNone 27 = .ok (.ixor, 1) := by decide +kernel
theorem dX5_factsSoInNone_28 : decode cX5_factsSoInNone 28 = .ok (.iand, 1) := by decide +kernel
theorem dX5_factsSoInNone_29 : decode cX5_factsSoInNone 29 = .ok (.istore_n 2, 1) := by decide +kernel
theorem dX5_factsSoInNone_30 : decode cX5_factsSoInNone 30 = .ok (.iinc 3 1, 3) := by decide +kernel
theorem dX5_factsSoInNone_33 : decode cX5_factsSoInNone 33 = .ok (.goto (-28), 3) := by decide +kernel
theorem dX5_factsSoInNone_36 : decode cX5_factsSoInNone 36 = .ok (.iload_n 2, 1) := by decide +kernel
theorem dX5_factsSoInNone_37 : decode cX5_factsSoInNone 37 = .ok (.ireturn, 1) := by decide +kernel
theorem dX5_leftAtWorst_0 : decode cX5_leftAtWorst 0 = .ok (.aload_n 0, 1) := by decide +kernel
theorem dX5_leftAtWorst_1 : decode cX5_leftAtWorst 1 = .ok (.getfield 23, 3) := by decide +kernel
theorem dX5_leftAtWorst_4 : decode cX5_leftAtWorst 4 = .ok (.getfield 185, 3) := by decide +kernel
theorem dX5_leftAtWorst_7 : decode cX5_leftAtWorst 7 = .ok (.iload_n 1, 1) := by decide +kernel
theorem dX5_leftAtWorst_8 : decode cX5_leftAtWorst 8 = .ok (.invokestatic 306, 3) := by decide +kernel
theorem dX5_leftAtWorst_11 : decode cX5_leftAtWorst 11 = .ok (.land, 1) := by decide +kernel
theorem dX5_leftAtWorst_12 : decode cX5_leftAtWorst 12 = .ok (.invokestatic 108, 3) := by decide +kernel
theorem dX5_leftAtWorst_15 : decode cX5_leftAtWorst 15 = .ok (.istore_n 2, 1) := by decide +kernel
theorem dX5_leftAtWorst_16 : decode cX5_leftAtWorst 16 = .ok (.aload_n 0, 1) := by decide +kernel
theorem dX5_leftAtWorst_17 : decode cX5_leftAtWorst 17 = .ok (.getfield 23, 3) := by decide +kernel
theorem dX5_leftAtWorst_20 : decode cX5_leftAtWorst 20 = .ok (.getfield 185, 3) := by decide +kernel
theorem dX5_leftAtWorst_23 : decode cX5_leftAtWorst 23 = .ok (.iload_n 1, 1) := by decide +kernel
theorem dX5_leftAtWorst_24 : decode cX5_leftAtWorst 24 = .ok (.invokestatic 306, 3) := by decide +kernel
theorem dX5_leftAtWorst_27 : decode cX5_leftAtWorst 27 = .ok (.ldc2_w 309, 3) := by decide +kernel
theorem dX5_leftAtWorst_30 : decode cX5_leftAtWorst 30 = .ok (.lxor, 1) := by decide +kernel
theorem dX5_leftAtWorst_31 : decode cX5_leftAtWorst 31 = .ok (.land, 1) := by decide +kernel
theorem dX5_leftAtWorst_32 : decode cX5_leftAtWorst 32 = .ok (.invokestatic 108, 3) := by decide +kernel
theorem dX5_leftAtWorst_35 : decode cX5_leftAtWorst 35 = .ok (.istore_n 3, 1) := by decide +kernel
theorem dX5_leftAtWorst_36 : decode cX5_leftAtWorst 36 = .ok (.iload_n 2, 1) := by decide +kernel
theorem dX5_leftAtWorst_37 : decode cX5_leftAtWorst 37 = .ok (.iload_n 3, 1) := by decide +kernel
theorem dX5_leftAtWorst_38 : decode cX5_leftAtWorst 38 = .ok (.invokestatic 311, 3) := by decide +kernel
theorem dX5_leftAtWorst_41 : decode cX5_leftAtWorst 41 = .ok (.ireturn, 1) := by decide +kernel
theorem dX5_readingsWith_0 : decode cX5_readingsWith 0 = .ok (.iload_n 1, 1) := by decide +kernel
theorem dX5_readingsWith_1 : decode cX5_readingsWith 1 = .ok (.bipush 12, 2) := by decide +kernel
theorem dX5_readingsWith_3 : decode cX5_readingsWith 3 = .ok (.if_icmp .lt 7, 3) := by decide +kernel
theorem dX5_readingsWith_6 : decode cX5_readingsWith 6 = .ok (.iconst 1, 1) := by decide +kernel
theorem dX5_readingsWith_7 : decode cX5_readingsWith 7 = .ok (.goto 4, 3) := by decide +kernel
theorem dX5_readingsWith_10 : decode cX5_readingsWith 10 = .ok (.iconst 0, 1) := by decide +kernel
theorem dX5_readingsWith_11 : decode cX5_readingsWith 11 = .ok (.istore_n 2, 1) := by decide +kernel
theorem dX5_readingsWith_12 : decode cX5_readingsWith 12 = .ok (.iload_n 1, 1) := by decide +kernel
theorem dX5_readingsWith_13 : decode cX5_readingsWith 13 = .ok (.bipush 12, 2) := by decide +kernel
theorem dX5_readingsWith_15 : decode cX5_readingsWith 15 = .ok (.irem, 1) := by decide +kernel
theorem dX5_readingsWith_16 : decode cX5_readingsWith 16 = .ok (.bipush 6, 2) := by decide +kernel
theorem dX5_readingsWith_18 : decode cX5_readingsWith 18 = .ok (.if_icmp .lt 7, 3) := by decide +kernel
theorem dX5_readingsWith_21 : decode cX5_readingsWith 21 = .ok (.iconst 1, 1) := by decide +kernel
theorem dX5_readingsWith_22 : decode cX5_readingsWith 22 = .ok (.goto 4, 3) := by decide +kernel
theorem dX5_readingsWith_25 : decode cX5_readingsWith 25 = .ok (.iconst 0, 1) := by decide +kernel
theorem dX5_readingsWith_26 : decode cX5_readingsWith 26 = .ok (.istore_n 3, 1) := by decide +kernel
theorem dX5_readingsWith_27 : decode cX5_readingsWith 27 = .ok (.aload_n 0, 1) := by decide +kernel
theorem dX5_readingsWith_28 : decode cX5_readingsWith 28 = .ok (.getfield 30, 3) := by decide +kernel
theorem dX5_readingsWith_31 : decode cX5_readingsWith 31 = .ok (.aload_n 0, 1) := by decide +kernel
theorem dX5_readingsWith_32 : decode cX5_readingsWith 32 = .ok (.getfield 23, 3) := by decide +kernel
theorem dX5_readingsWith_35 : decode cX5_readingsWith 35 = .ok (.invokevirtual 76, 3) := by decide +kernel
theorem dX5_readingsWith_38 : decode cX5_readingsWith 38 = .ok (.aload_n 0, 1) := by decide +kernel
theorem dX5_readingsWith_39 : decode cX5_readingsWith 39 = .ok (.getfield 30, 3) := by decide +kernel
theorem dX5_readingsWith_42 : decode cX5_readingsWith 42 = .ok (.iload_n 2, 1) := by decide +kernel
theorem dX5_readingsWith_43 : decode cX5_readingsWith 43 = .ok (.iload_n 3, 1) := by decide +kernel
theorem dX5_readingsWith_44 : decode cX5_readingsWith 44 = .ok (.iload_n 1, 1) := by decide +kernel
theorem dX5_readingsWith_45 : decode cX5_readingsWith 45 = .ok (.bipush 6, 2) := by decide +kernel
theorem dX5_readingsWith_47 : decode cX5_readingsWith 47 = .ok (.irem, 1) := by decide +kernel
theorem dX5_readingsWith_48 : decode cX5_readingsWith 48 = .ok (.invokevirtual 316, 3) := by decide +kernel
theorem dX5_readingsWith_51 : decode cX5_readingsWith 51 = .ok (.aload_n 0, 1) := by decide +kernel
theorem dX5_readingsWith_52 : decode cX5_readingsWith 52 = .ok (.getfield 30, 3) := by decide +kernel
theorem dX5_readingsWith_55 : decode cX5_readingsWith 55 = .ok (.aload_n 0, 1) := by decide +kernel
theorem dX5_readingsWith_56 : decode cX5_readingsWith 56 = .ok (.getfield 16, 3) := by decide +kernel
theorem dX5_readingsWith_59 : decode cX5_readingsWith 59 = .ok (.invokevirtual 319, 3) := by decide +kernel
theorem dX5_readingsWith_62 : decode cX5_readingsWith 62 = .ok (.aload_n 0, 1) := by decide +kernel
theorem dX5_readingsWith_63 : decode cX5_readingsWith 63 = .ok (.getfield 30, 3) := by decide +kernel
theorem dX5_readingsWith_66 : decode cX5_readingsWith 66 = .ok (.aload_n 0, 1) := by decide +kernel
theorem dX5_readingsWith_67 : decode cX5_readingsWith 67 = .ok (.getfield 124, 3) := by decide +kernel
theorem dX5_readingsWith_70 : decode cX5_readingsWith 70 = .ok (.invokevirtual 127, 3) := by decide +kernel
theorem dX5_readingsWith_73 : decode cX5_readingsWith 73 = .ok (.ireturn, 1) := by decide +kernel
theorem dX5_doesFit_0 : decode cX5_doesFit 0 = .ok (.iconst 1, 1) := by decide +kernel
theorem dX5_doesFit_1 : decode cX5_doesFit 1 = .ok (.istore_n 3, 1) := by decide +kernel
theorem dX5_doesFit_2 : decode cX5_doesFit 2 = .ok (.iload_n 3, 1) := by decide +kernel
theorem dX5_doesFit_3 : decode cX5_doesFit 3 = .ok (.aload_n 0, 1) := by decide +kernel
theorem dX5_doesFit_4 : decode cX5_doesFit 4 = .ok (.getfield 43, 3) := by decide +kernel
theorem dX5_doesFit_7 : decode cX5_doesFit 7 = .ok (.getfield 214, 3) := by decide +kernel
theorem dX5_doesFit_10 : decode cX5_doesFit 10 = .ok (.if_icmp .ge 38, 3) := by decide +kernel
theorem dX5_doesFit_13 : decode cX5_doesFit 13 = .ok (.aload_n 0, 1) := by decide +kernel
theorem dX5_doesFit_14 : decode cX5_doesFit 14 = .ok (.iload_n 1, 1) := by decide +kernel
theorem dX5_doesFit_15 : decode cX5_doesFit 15 = .ok (.iload_n 2, 1) := by decide +kernel
theorem dX5_doesFit_16 : decode cX5_doesFit 16 = .ok (.aload_n 0, 1) := by decide +kernel
theorem dX5_doesFit_17 : decode cX5_doesFit 17 = .ok (.getfield 43, 3) := by decide +kernel
theorem dX5_doesFit_20 : decode cX5_doesFit 20 = .ok (.iload_n 3, 1) := by decide +kernel
theorem dX5_doesFit_21 : decode cX5_doesFit 21 = .ok (.iconst 1, 1) := by decide +kernel
theorem dX5_doesFit_22 : decode cX5_doesFit 22 = .ok (.isub, 1) := by decide +kernel
theorem dX5_doesFit_23 : decode cX5_doesFit 23 = .ok (.invokevirtual 322, 3) := by decide +kernel
theorem dX5_doesFit_26 : decode cX5_doesFit 26 = .ok (.invokevirtual 300, 3) := by decide +kernel
theorem dX5_doesFit_29 : decode cX5_doesFit 29 = .ok (.aload_n 0, 1) := by decide +kernel
theorem dX5_doesFit_30 : decode cX5_doesFit 30 = .ok (.getfield 43, 3) := by decide +kernel
theorem dX5_doesFit_33 : decode cX5_doesFit 33 = .ok (.iload_n 3, 1) := by decide +kernel
theorem dX5_doesFit_34 : decode cX5_doesFit 34 = .ok (.invokevirtual 322, 3) := by decide +kernel
theorem dX5_doesFit_37 : decode cX5_doesFit 37 = .ok (.if_icmp .eq 5, 3) := by decide +kernel
theorem dX5_doesFit_40 : decode cX5_doesFit 40 = .ok (.iconst 0, 1) := by decide +kernel
theorem dX5_doesFit_41 : decode cX5_doesFit 41 = .ok (.ireturn, 1) := by decide +kernel
theorem dX5_doesFit_42 : decode cX5_doesFit 42 = .ok (.iinc 3 1, 3) := by decide +kernel
theorem dX5_doesFit_45 : decode cX5_doesFit 45 = .ok (.goto (-43), 3) := by decide +kernel
theorem dX5_doesFit_48 : decode cX5_doesFit 48 = .ok (.iconst 1, 1) := by decide +kernel
theorem dX5_doesFit_49 : decode cX5_doesFit 49 = .ok (.ireturn, 1) := by decide +kernel
theorem dX5_nextSeed_0 : decode cX5_nextSeed 0 = .ok (.ldc2_w 325, 3) := by decide +kernel
theorem dX5_nextSeed_3 : decode cX5_nextSeed 3 = .ok (.iload_n 0, 1) := by decide +kernel
theorem dX5_nextSeed_4 : decode cX5_nextSeed 4 = .ok (.i2l, 1) := by decide +kernel
theorem dX5_nextSeed_5 : decode cX5_nextSeed 5 = .ok (.lmul, 1) := by decide +kernel
theorem dX5_nextSeed_6 : decode cX5_nextSeed 6 = .ok (.ldc2_w 327, 3) := by decide +kernel
theorem dX5_nextSeed_9 : decode cX5_nextSeed 9 = .ok (.ladd, 1) := by decide +kernel
theorem dX5_nextSeed_10 : decode cX5_nextSeed 10 = .ok (.ldc2_w 329, 3) := by decide +kernel
theorem dX5_nextSeed_13 : decode cX5_nextSeed 13 = .ok (.land, 1) := by decide +kernel
theorem dX5_nextSeed_14 : decode cX5_nextSeed 14 = .ok (.l2i, 1) := by decide +kernel
theorem dX5_nextSeed_15 : decode cX5_nextSeed 15 = .ok (.ireturn, 1) := by decide +kernel
theorem dX5_drawOf_0 : decode cX5_drawOf 0 = .ok (.iload_n 1, 1) := by decide +kernel
theorem dX5_drawOf_1 : decode cX5_drawOf 1 = .ok (.ifCond .le 13, 3) := by decide +kernel
theorem dX5_drawOf_4 : decode cX5_drawOf 4 = .ok (.iload_n 0, 1) := by decide +kernel
theorem dX5_drawOf_5 : decode cX5_drawOf 5 = .ok (.ldc_w 331, 3) := by decide +kernel
theorem dX5_drawOf_8 : decode cX5_drawOf 8 = .ok (.idiv, 1) := by decide +kernel
theorem dX5_drawOf_9 : decode cX5_drawOf 9 = .ok (.iload_n 1, 1) := by decide +kernel
theorem dX5_drawOf_10 : decode cX5_drawOf 10 = .ok (.irem, 1) := by decide +kernel
theorem dX5_drawOf_11 : decode cX5_drawOf 11 = .ok (.goto 4, 3) := by decide +kernel
theorem dX5_drawOf_14 : decode cX5_drawOf 14 = .ok (.iconst 0, 1) := by decide +kernel
theorem dX5_drawOf_15 : decode cX5_drawOf 15 = .ok (.ireturn, 1) := by decide +kernel
theorem dJ13_bitCount_95d88_0 : decode cJ13_bitCount_95d88 0 = .ok (.lload_n 0, 1) := by decide +kernel
theorem dJ13_bitCount_95d88_1 : decode cJ13_bitCount_95d88 1 = .ok (.lload_n 0, 1) := by decide +kernel
theorem dJ13_bitCount_95d88_2 : decode cJ13_bitCount_95d88 2 = .ok (.iconst 1, 1) := by decide +kernel
theorem dJ13_bitCount_95d88_3 : decode cJ13_bitCount_95d88 3 = .ok (.lushr, 1) := by decide +kernel
theorem dJ13_bitCount_95d88_4 : decode cJ13_bitCount_95d88 4 = .ok (.ldc2_w 314, 3) := by decide +kernel
theorem dJ13_bitCount_95d88_7 : decode cJ13_bitCount_95d88 7 = .ok (.land, 1) := by decide +kernel
theorem dJ13_bitCount_95d88_8 : decode cJ13_bitCount_95d88 8 = .ok (.lsub, 1) := by decide +kernel
theorem dJ13_bitCount_95d88_9 : decode cJ13_bitCount_95d88 9 = .ok (.lstore_n 0, 1) := by decide +kernel
theorem dJ13_bitCount_95d88_10 : decode cJ13_bitCount_95d88 10 = .ok (.lload_n 0, 1) := by decide +kernel
theorem dJ13_bitCount_95d88_11 : decode cJ13_bitCount_95d88 11 = .ok (.ldc2_w 316, 3) := by decide +kernel
theorem dJ13_bitCount_95d88_14 : decode cJ13_bitCount_95d88 14 = .ok (.land, 1) := by decide +kernel
theorem dJ13_bitCount_95d88_15 : decode cJ13_bitCount_95d88 15 = .ok (.lload_n 0, 1) := by decide +kernel
theorem dJ13_bitCount_95d88_16 : decode cJ13_bitCount_95d88 16 = .ok (.iconst 2, 1) := by decide +kernel
theorem dJ13_bitCount_95d88_17 : decode cJ13_bitCount_95d88 17 = .ok (.lushr, 1) := by decide +kernel
theorem dJ13_bitCount_95d88_18 : decode cJ13_bitCount_95d88 18 = .ok (.ldc2_w 316, 3) := by decide +kernel
theorem dJ13_bitCount_95d88_21 : decode cJ13_bitCount_95d88 21 = .ok (.land, 1) := by decide +kernel
theorem dJ13_bitCount_95d88_22 : decode cJ13_bitCount_95d88 22 = .ok (.ladd, 1) := by decide +kernel
theorem dJ13_bitCount_95d88_23 : decode cJ13_bitCount_95d88 23 = .ok (.lstore_n 0, 1) := by decide +kernel
theorem dJ13_bitCount_95d88_24 : decode cJ13_bitCount_95d88 24 = .ok (.lload_n 0, 1) := by decide +kernel
theorem dJ13_bitCount_95d88_25 : decode cJ13_bitCount_95d88 25 = .ok (.lload_n 0, 1) := by decide +kernel
theorem dJ13_bitCount_95d88_26 : decode cJ13_bitCount_95d88 26 = .ok (.iconst 4, 1) := by decide +kernel
theorem dJ13_bitCount_95d88_27 : decode cJ13_bitCount_95d88 27 = .ok (.lushr, 1) := by decide +kernel
theorem dJ13_bitCount_95d88_28 : decode cJ13_bitCount_95d88 28 = .ok (.ladd, 1) := by decide +kernel
theorem dJ13_bitCount_95d88_29 : decode cJ13_bitCount_95d88 29 = .ok (.ldc2_w 318, 3) := by decide +kernel
theorem dJ13_bitCount_95d88_32 : decode cJ13_bitCount_95d88 32 = .ok (.land, 1) := by decide +kernel
theorem dJ13_bitCount_95d88_33 : decode cJ13_bitCount_95d88 33 = .ok (.lstore_n 0, 1) := by decide +kernel
theorem dJ13_bitCount_95d88_34 : decode cJ13_bitCount_95d88 34 = .ok (.lload_n 0, 1) := by decide +kernel
theorem dJ13_bitCount_95d88_35 : decode cJ13_bitCount_95d88 35 = .ok (.lload_n 0, 1) := by decide +kernel
theorem dJ13_bitCount_95d88_36 : decode cJ13_bitCount_95d88 36 = .ok (.bipush 8, 2) := by decide +kernel
theorem dJ13_bitCount_95d88_38 : decode cJ13_bitCount_95d88 38 = .ok (.lushr, 1) := by decide +kernel
theorem dJ13_bitCount_95d88_39 : decode cJ13_bitCount_95d88 39 = .ok (.ladd, 1) := by decide +kernel
theorem dJ13_bitCount_95d88_40 : decode cJ13_bitCount_95d88 40 = .ok (.lstore_n 0, 1) := by decide +kernel
theorem dJ13_bitCount_95d88_41 : decode cJ13_bitCount_95d88 41 = .ok (.lload_n 0, 1) := by decide +kernel
theorem dJ13_bitCount_95d88_42 : decode cJ13_bitCount_95d88 42 = .ok (.lload_n 0, 1) := by decide +kernel
theorem dJ13_bitCount_95d88_43 : decode cJ13_bitCount_95d88 43 = .ok (.bipush 16, 2) := by decide +kernel
theorem dJ13_bitCount_95d88_45 : decode cJ13_bitCount_95d88 45 = .ok (.lushr, 1) := by decide +kernel
theorem dJ13_bitCount_95d88_46 : decode cJ13_bitCount_95d88 46 = .ok (.ladd, 1) := by decide +kernel
theorem dJ13_bitCount_95d88_47 : decode cJ13_bitCount_95d88 47 = .ok (.lstore_n 0, 1) := by decide +kernel
theorem dJ13_bitCount_95d88_48 : decode cJ13_bitCount_95d88 48 = .ok (.lload_n 0, 1) := by decide +kernel
theorem dJ13_bitCount_95d88_49 : decode cJ13_bitCount_95d88 49 = .ok (.lload_n 0, 1) := by decide +kernel
theorem dJ13_bitCount_95d88_50 : decode cJ13_bitCount_95d88 50 = .ok (.bipush 32, 2) := by decide +kernel
theorem dJ13_bitCount_95d88_52 : decode cJ13_bitCount_95d88 52 = .ok (.lushr, 1) := by decide +kernel
theorem dJ13_bitCount_95d88_53 : decode cJ13_bitCount_95d88 53 = .ok (.ladd, 1) := by decide +kernel
theorem dJ13_bitCount_95d88_54 : decode cJ13_bitCount_95d88 54 = .ok (.lstore_n 0, 1) := by decide +kernel
theorem dJ13_bitCount_95d88_55 : decode cJ13_bitCount_95d88 55 = .ok (.lload_n 0, 1) := by decide +kernel
theorem dJ13_bitCount_95d88_56 : decode cJ13_bitCount_95d88 56 = .ok (.l2i, 1) := by decide +kernel
theorem dJ13_bitCount_95d88_57 : decode cJ13_bitCount_95d88 57 = .ok (.bipush 127, 2) := by decide +kernel
theorem dJ13_bitCount_95d88_59 : decode cJ13_bitCount_95d88 59 = .ok (.iand, 1) := by decide +kernel
theorem dJ13_bitCount_95d88_60 : decode cJ13_bitCount_95d88 60 = .ok (.ireturn, 1) := by decide +kernel
theorem dJ9_max_7cf53_0 : decode cJ9_max_7cf53 0 = .ok (.iload_n 0, 1) := by decide +kernel
theorem dJ9_max_7cf53_1 : decode cJ9_max_7cf53 1 = .ok (.iload_n 1, 1) := by decide +kernel
theorem dJ9_max_7cf53_2 : decode cJ9_max_7cf53 2 = .ok (.if_icmp .lt 7, 3) := by decide +kernel
theorem dJ9_max_7cf53_5 : decode cJ9_max_7cf53 5 = .ok (.iload_n 0, 1) := by decide +kernel
theorem dJ9_max_7cf53_6 : decode cJ9_max_7cf53 6 = .ok (.goto 4, 3) := by decide +kernel
theorem dJ9_max_7cf53_9 : decode cJ9_max_7cf53 9 = .ok (.iload_n 1, 1) := by decide +kernel
theorem dJ9_max_7cf53_10 : decode cJ9_max_7cf53 10 = .ok (.ireturn, 1) := by decide +kernel
end
section
theorem dX6_init_0 : decode cX6_init 0 = .ok (.aload_n 0, 1) := by decide +kernel
theorem dX6_init_1 : decode cX6_init 1 = .ok (.invokespecial 1, 3) := by decide +kernel
theorem dX6_init_4 : decode cX6_init 4 = .ok (.aload_n 0, 1) := by decide +kernel
theorem dX6_init_5 : decode cX6_init 5 = .ok (.bipush 6, 2) := by decide +kernel
theorem dX6_init_7 : decode cX6_init 7 = .ok (.newarray .int, 2) := by decide +kernel
theorem dX6_init_9 : decode cX6_init 9 = .ok (.dup, 1) := by decide +kernel
theorem dX6_init_10 : decode cX6_init 10 = .ok (.iconst 0, 1) := by decide +kernel
theorem dX6_init_11 : decode cX6_init 11 = .ok (.iconst 0, 1) := by decide +kernel
theorem dX6_init_12 : decode cX6_init 12 = .ok (.iastore, 1) := by decide +kernel
theorem dX6_init_13 : decode cX6_init 13 = .ok (.dup, 1) := by decide +kernel
theorem dX6_init_14 : decode cX6_init 14 = .ok (.iconst 1, 1) := by decide +kernel
theorem dX6_init_15 : decode cX6_init 15 = .ok (.iconst 1, 1) := by decide +kernel
theorem dX6_init_16 : decode cX6_init 16 = .ok (.iastore, 1) := by decide +kernel
theorem dX6_init_17 : decode cX6_init 17 = .ok (.dup, 1) := by decide +kernel
theorem dX6_init_18 : decode cX6_init 18 = .ok (.iconst 2, 1) := by decide +kernel
theorem dX6_init_19 : decode cX6_init 19 = .ok (.iconst 2, 1) := by decide +kernel
theorem dX6_init_20 : decode cX6_init 20 = .ok (.iastore, 1) := by decide +kernel
theorem dX6_init_21 : decode cX6_init 21 = .ok (.dup, 1) := by decide +kernel
theorem dX6_init_22 : decode cX6_init 22 = .ok (.iconst 3, 1) := by decide +kernel
theorem dX6_init_23 : decode cX6_init 23 = .ok (.iconst 3, 1) := by decide +kernel
theorem dX6_init_24 : decode cX6_init 24 = .ok (.iastore, 1) := by decide +kernel
theorem dX6_init_25 : decode cX6_init 25 = .ok (.dup, 1) := by decide +kernel
theorem dX6_init_26 : decode cX6_init 26 = .ok (.iconst 4, 1) := by decide +kernel
theorem dX6_init_27 : decode cX6_init 27 = .ok (.iconst 4, 1) := by decide +kernel
theorem dX6_init_28 : decode cX6_init 28 = .ok (.iastore, 1) := by decide +kernel
theorem dX6_init_29 : decode cX6_init 29 = .ok (.dup, 1) := by decide +kernel
theorem dX6_init_30 : decode cX6_init 30 = .ok (.iconst 5, 1) := by decide +kernel
theorem dX6_init_31 : decode cX6_init 31 = .ok (.iconst 5, 1) := by decide +kernel
theorem dX6_init_32 : decode cX6_init 32 = .ok (.iastore, 1) := by decide +kernel
theorem dX6_init_33 : decode cX6_init 33 = .ok (.putfield 7, 3) := by decide +kernel
theorem dX6_init_36 : decode cX6_init 36 = .ok (.aload_n 0, 1) := by decide +kernel
theorem dX6_init_37 : decode cX6_init 37 = .ok (.iconst 5, 1) := by decide +kernel
theorem dX6_init_38 : decode cX6_init 38 = .ok (.newarray .int, 2) := by decide +kernel
theorem dX6_init_40 : decode cX6_init 40 = .ok (.putfield 13, 3) := by decide +kernel
theorem dX6_init_43 : decode cX6_init 43 = .ok (.aload_n 0, 1) := by decide +kernel
theorem dX6_init_44 : decode cX6_init 44 = .ok (.iconst 4, 1) := by decide +kernel
theorem dX6_init_45 : decode cX6_init 45 = .ok (.newarray .int, 2) := by decide +kernel
theorem dX6_init_47 : decode cX6_init 47 = .ok (.putfield 16, 3) := by decide +kernel
theorem dX6_init_50 : decode cX6_init 50 = .ok (.aload_n 0, 1) := by decide +kernel
theorem dX6_init_51 : decode cX6_init 51 = .ok (.iconst 5, 1) := by decide +kernel
theorem dX6_init_52 : decode cX6_init 52 = .ok (.newarray .int, 2) := by decide +kernel
theorem dX6_init_54 : decode cX6_init 54 = .ok (.putfield 19, 3) := by decide +kernel
theorem dX6_init_57 : decode cX6_init 57 = .ok (.aload_n 0, 1) := by decide +kernel
theorem dX6_init_58 : decode cX6_init 58 = .ok (.iconst 4, 1) := by decide +kernel
theorem dX6_init_59 : decode cX6_init 59 = .ok (.newarray .int, 2) := by decide +kernel
theorem dX6_init_61 : decode cX6_init 61 = .ok (.putfield 22, 3) := by decide +kernel
theorem dX6_init_64 : decode cX6_init 64 = .ok (.aload_n 0, 1) := by decide +kernel
theorem dX6_init_65 : decode cX6_init 65 = .ok (.iconst 4, 1) := by decide +kernel
theorem dX6_init_66 : decode cX6_init 66 = .ok (.newarray .int, 2) := by decide +kernel
theorem dX6_init_68 : decode cX6_init 68 = .ok (.putfield 25, 3) := by decide +kernel
theorem dX6_init_71 : decode cX6_init 71 = .ok (.aload_n 0, 1) := by decide +kernel
theorem dX6_init_72 : decode cX6_init 72 = .ok (.iconst 4, 1) := by decide +kernel
theorem dX6_init_73 : decode cX6_init 73 = .ok (.newarray .int, 2) := by decide +kernel
theorem dX6_init_75 : decode cX6_init 75 = .ok (.putfield 28, 3) := by decide +kernel
theorem dX6_init_78 : decode cX6_init 78 = .ok (.aload_n 0, 1) := by decide +kernel
theorem dX6_init_79 : decode cX6_init 79 = .ok (.iconst 4, 1) := by decide +kernel
theorem dX6_init_80 : decode cX6_init 80 = .ok (.newarray .int, 2) := by decide +kernel
theorem dX6_init_82 : decode cX6_init 82 = .ok (.putfield 31, 3) := by decide +kernel
theorem dX6_init_85 : decode cX6_init 85 = .ok (.aload_n 0, 1) := by decide +kernel
theorem dX6_init_86 : decode cX6_init 86 = .ok (.iconst 4, 1) := by decide +kernel
theorem dX6_init_87 : decode cX6_init 87 = .ok (.newarray .int, 2) := by decide +kernel
theorem dX6_init_89 : decode cX6_init 89 = .ok (.putfield 34, 3) := by decide +kernel
theorem dX6_init_92 : decode cX6_init 92 = .ok (.aload_n 0, 1) := by decide +kernel
theorem dX6_init_93 : decode cX6_init 93 = .ok (.bipush 6, 2) := by decide +kernel
theorem dX6_init_95 : decode cX6_init 95 = .ok (.newarray .int, 2) := by decide +kernel
theorem dX6_init_97 : decode cX6_init 97 = .ok (.putfield 37, 3) := by decide +kernel
theorem dX6_init_100 : decode cX6_init 100 = .ok (.aload_n 0, 1) := by decide +kernel
theorem dX6_init_101 : decode cX6_init 101 = .ok (.bipush 14, 2) := by decide +kernel
theorem dX6_init_103 : decode cX6_init 103 = .ok (.newarray .byte, 2) := by decide +kernel
theorem dX6_init_105 : decode cX6_init 105 = .ok (.putfield 40, 3) := by decide +kernel
theorem dX6_init_108 : decode cX6_init 108 = .ok (.aload_n 0, 1) := by decide +kernel
theorem dX6_init_109 : decode cX6_init 109 = .ok (.iconst 5, 1) := by decide +kernel
theorem dX6_init_110 : decode cX6_init 110 = .ok (.newarray .int, 2) := by decide +kernel
theorem dX6_init_112 : decode cX6_init 112 = .ok (.putfield 44, 3) := by decide +kernel
theorem dX6_init_115 : decode cX6_init 115 = .ok (.aload_n 0, 1) := by decide +kernel
theorem dX6_init_116 : decode cX6_init 116 = .ok (.iconst 5, 1) := by decide +kernel
theorem dX6_init_117 : decode cX6_init 117 = .ok (.newarray .int, 2) := by decide +kernel
theorem dX6_init_119 : decode cX6_init 119 = .ok (.putfield 47, 3) := by decide +kernel
theorem dX6_init_122 : decode cX6_init 122 = .ok (.aload_n 0, 1) := by decide +kernel
theorem dX6_init_123 : decode cX6_init 123 = .ok (.sipush 640, 3) := by decide +kernel
theorem dX6_init_126 : decode cX6_init 126 = .ok (.newarray .long, 2) := by decide +kernel
theorem dX6_init_128 : decode cX6_init 128 = .ok (.putfield 50, 3) := by decide +kernel
theorem dX6_init_131 : decode cX6_init 131 = .ok (.aload_n 0, 1) := by decide +kernel
theorem dX6_init_132 : decode cX6_init 132 = .ok (.iconst 4, 1) := by decide +kernel
theorem dX6_init_133 : decode cX6_init 133 = .ok (.newarray .long, 2) := by decide +kernel
theorem dX6_init_135 : decode cX6_init 135 = .ok (.putfield 54, 3) := by decide +kernel
theorem dX6_init_138 : decode cX6_init 138 = .ok (.aload_n 0, 1) := by decide +kernel
theorem dX6_init_139 : decode cX6_init 139 = .ok (.iconst 4, 1) := by decide +kernel
theorem dX6_init_140 : decode cX6_init 140 = .ok (.newarray .int, 2) := by decide +kernel
theorem dX6_init_142 : decode cX6_init 142 = .ok (.putfield 57, 3) := by decide +kernel
theorem dX6_init_145 : decode cX6_init 145 = .ok (.aload_n 0, 1) := by decide +kernel
theorem dX6_init_146 : decode cX6_init 146 = .ok (.iconst 4, 1) := by decide +kernel
theorem dX6_init_147 : decode cX6_init 147 = .ok (.newarray .int, 2) := by decide +kernel
theorem dX6_init_149 : decode cX6_init 149 = .ok (.putfield 60, 3) := by decide +kernel
theorem dX6_init_152 : decode cX6_init 152 = .ok (.aload_n 0, 1) := by decide +kernel
theorem dX6_init_153 : decode cX6_init 153 = .ok (.iconst 4, 1) := by decide +kernel
theorem dX6_init_154 : decode cX6_init 154 = .ok (.newarray .int, 2) := by decide +kernel
theorem dX6_init_156 : decode cX6_init 156 = .ok (.putfield 63, 3) := by decide +kernel
theorem dX6_init_159 : decode cX6_init 159 = .ok (.aload_n 0, 1) := by decide +kernel
theorem dX6_init_160 : decode cX6_init 160 = .ok (.bipush 6, 2) := by decide +kernel
theorem dX6_init_162 : decode cX6_init 162 = .ok (.newarray .int, 2) := by decide +kernel
theorem dX6_init_164 : decode cX6_init 164 = .ok (.putfield 66, 3) := by decide +kernel
theorem dX6_init_167 : decode cX6_init 167 = .ok (.return_, 1) := by decide +kernel
theorem dX6_within_0 : decode cX6_within 0 = .ok (.iload_n 0, 1) := by decide +kernel
theorem dX6_within_1 : decode cX6_within 1 = .ok (.iload_n 1, 1) := by decide +kernel
theorem dX6_within_2 : decode cX6_within 2 = .ok (.if_icmp .lt 12, 3) := by decide +kernel
theorem dX6_within_5 : decode cX6_within 5 = .ok (.iload_n 0, 1) := by decide +kernel
theorem dX6_within_6 : decode cX6_within 6 = .ok (.iload_n 2, 1) := by decide +kernel
theorem dX6_within_7 : decode cX6_within 7 = .ok (.if_icmp .gt 7, 3) := by decide +kernel
theorem dX6_within_10 : decode cX6_within 10 = .ok (.iconst 1, 1) := by decide +kernel
theorem dX6_within_11 : decode cX6_within 11 = .ok (.goto 4, 3) := by decide +kernel
theorem dX6_within_14 : decode cX6_within 14 = .ok (.iconst 0, 1) := by decide +kernel
theorem dX6_within_15 : decode cX6_within 15 = .ok (.ireturn, 1) := by decide +kernel
theorem dX6_letter_0 : decode cX6_letter 0 = .ok (.iload_n 1, 1) := by decide +kernel
theorem dX6_letter_1 : decode cX6_letter 1 = .ok (.bipush 32, 2) := by decide +kernel
theorem dX6_letter_3 : decode cX6_letter 3 = .ok (.bipush 126, 2) := by decide +kernel
theorem dX6_letter_5 : decode cX6_letter 5 = .ok (.invokestatic 69, 3) := by decide +kernel
theorem dX6_letter_8 : decode cX6_letter 8 = .ok (.ifCond .ne 6, 3) := by decide +kernel
theorem dX6_letter_11 : decode cX6_letter 11 = .ok (.bipush (-102), 2) := by decide +kernel
theorem dX6_letter_13 : decode cX6_letter 13 = .ok (.ireturn, 1) := by decide +kernel
theorem dX6_letter_14 : decode cX6_letter 14 = .ok (.aload_n 0, 1) := by decide +kernel
theorem dX6_letter_15 : decode cX6_letter 15 = .ok (.getfield 73, 3) := by decide +kernel
theorem dX6_letter_18 : decode cX6_letter 18 = .ok (.bipush 14, 2) := by decide +kernel
theorem dX6_letter_20 : decode cX6_letter 20 = .ok (.if_icmp .ne 6, 3) := by decide +kernel
theorem dX6_letter_23 : decode cX6_letter 23 = .ok (.bipush (-104), 2) := by decide +kernel
theorem dX6_letter_25 : decode cX6_letter 25 = .ok (.ireturn, 1) := by decide +kernel
theorem dX6_letter_26 : decode cX6_letter 26 = .ok (.aload_n 0, 1) := by decide +kernel
theorem dX6_letter_27 : decode cX6_letter 27 = .ok (.getfield 40, 3) := by decide +kernel
theorem dX6_letter_30 : decode cX6_letter 30 = .ok (.aload_n 0, 1) := by decide +kernel
theorem dX6_letter_31 : decode cX6_letter 31 = .ok (.getfield 73, 3) := by decide +kernel
theorem dX6_letter_34 : decode cX6_letter 34 = .ok (.iload_n 1, 1) := by decide +kernel
theorem dX6_letter_35 : decode cX6_letter 35 = .ok (.i2b, 1) := by decide +kernel
theorem dX6_letter_36 : decode cX6_letter 36 = .ok (.bastore, 1) := by decide +kernel
theorem dX6_letter_37 : decode cX6_letter 37 = .ok (.aload_n 0, 1) := by decide +kernel
theorem dX6_letter_38 : decode cX6_letter 38 = .ok (.dup, 1) := by decide +kernel
theorem dX6_letter_39 : decode cX6_letter 39 = .ok (.getfield 73, 3) := by decide +kernel
theorem dX6_letter_42 : decode cX6_letter 42 = .ok (.iconst 1, 1) := by decide +kernel
theorem dX6_letter_43 : decode cX6_letter 43 = .ok (.iadd, 1) := by decide +kernel
theorem dX6_letter_44 : decode cX6_letter 44 = .ok (.putfield 73, 3) := by decide +kernel
theorem dX6_letter_47 : decode cX6_letter 47 = .ok (.aload_n 0, 1) := by decide +kernel
theorem dX6_letter_48 : decode cX6_letter 48 = .ok (.getfield 73, 3) := by decide +kernel
theorem dX6_letter_51 : decode cX6_letter 51 = .ok (.ireturn, 1) := by decide +kernel
theorem dX6_blank_0 : decode cX6_blank 0 = .ok (.aload_n 0, 1) := by decide +kernel
theorem dX6_blank_1 : decode cX6_blank 1 = .ok (.getfield 73, 3) := by decide +kernel
theorem dX6_blank_4 : decode cX6_blank 4 = .ok (.istore_n 1, 1) := by decide +kernel
theorem dX6_blank_5 : decode cX6_blank 5 = .ok (.aload_n 0, 1) := by decide +kernel
theorem dX6_blank_6 : decode cX6_blank 6 = .ok (.iconst 0, 1) := by decide +kernel
theorem dX6_blank_7 : decode cX6_blank 7 = .ok (.putfield 73, 3) := by decide +kernel
theorem dX6_blank_10 : decode cX6_blank 10 = .ok (.iload_n 1, 1) := by decide +kernel
theorem dX6_blank_11 : decode cX6_blank 11 = .ok (.ireturn, 1) := by decide +kernel
theorem dX6_nextState_0 : decode cX6_nextState 0 = .ok (.iload_n 1, 1) := by decide +kernel
theorem dX6_nextState_1 : decode cX6_nextState 1 = .ok (.iconst 2, 1) := by decide +kernel
theorem dX6_nextState_2 : decode cX6_nextState 2 = .ok (.if_icmp .ne 61, 3) := by decide +kernel
theorem dX6_nextState_5 : decode cX6_nextState 5 = .ok (.iload_n 2, 1) := by decide +kernel
theorem dX6_nextState_6 : decode cX6_nextState 6 = .ok (.bipush 38, 2) := by decide +kernel
theorem dX6_nextState_8 : decode cX6_nextState 8 = .ok (.if_icmp .eq 9, 3) := by decide +kernel
theorem dX6_nextState_11 : decode cX6_nextState 11 = .ok (.iload_n 2, 1) := by decide +kernel
theorem dX6_nextState_12 : decode cX6_nextState 12 = .ok (.bipush 43, 2) := by decide +kernel
theorem dX6_nextState_14 : decode cX6_nextState 14 = .ok (.if_icmp .ne 15, 3) := by decide +kernel
theorem dX6_nextState_17 : decode cX6_nextState 17 = .ok (.aload_n 0, 1) := by decide +kernel
theorem dX6_nextState_18 : decode cX6_nextState 18 = .ok (.getfield 77, 3) := by decide +kernel
theorem dX6_nextState_21 : decode cX6_nextState 21 = .ok (.iconst 4, 1) := by decide +kernel
theorem dX6_nextState_22 : decode cX6_nextState 22 = .ok (.if_icmp .ge 7, 3) := by decide +kernel
theorem dX6_nextState_25 : decode cX6_nextState 25 = .ok (.iconst 1, 1) := by decide +kernel
theorem dX6_nextState_26 : decode cX6_nextState 26 = .ok (.goto 4, 3) := by decide +kernel
theorem dX6_nextState_29 : decode cX6_nextState 29 = .ok (.iconst 0, 1) := by decide +kernel
theorem dX6_nextState_30 : decode cX6_nextState 30 = .ok (.istore_n 3, 1) := by decide +kernel
theorem dX6_nextState_31 : decode cX6_nextState 31 = .ok (.aload_n 0, 1) := by decide +kernel
theorem dX6_nextState_32 : decode cX6_nextState 32 = .ok (.getfield 47, 3) := by decide +kernel
theorem dX6_nextState_35 : decode cX6_nextState 35 = .ok (.aload_n 0, 1) := by decide +kernel
theorem dX6_nextState_36 : decode cX6_nextState 36 = .ok (.getfield 77, 3) := by decide +kernel
theorem dX6_nextState_39 : decode cX6_nextState 39 = .ok (.iconst 1, 1) := by decide +kernel
theorem dX6_nextState_40 : decode cX6_nextState 40 = .ok (.isub, 1) := by decide +kernel
theorem dX6_nextState_41 : decode cX6_nextState 41 = .ok (.iload_n 2, 1) := by decide +kernel
theorem dX6_nextState_42 : decode cX6_nextState 42 = .ok (.bipush 43, 2) := by decide +kernel
theorem dX6_nextState_44 : decode cX6_nextState 44 = .ok (.if_icmp .ne 7, 3) := by decide +kernel
theorem dX6_nextState_47 : decode cX6_nextState 47 = .ok (.iconst 1, 1) := by decide +kernel
theorem dX6_nextState_48 : decode cX6_nextState 48 = .ok (.goto 4, 3) := by decide +kernel
theorem dX6_nextState_51 : decode cX6_nextState 51 = .ok (.iconst 0, 1) := by decide +kernel
theorem dX6_nextState_52 : decode cX6_nextState 52 = .ok (.iastore, 1) := by decide +kernel
theorem dX6_nextState_53 : decode cX6_nextState 53 = .ok (.iload_n 3, 1) := by decide +kernel
theorem dX6_nextState_54 : decode cX6_nextState 54 = .ok (.ifCond .eq 7, 3) := by decide +kernel
theorem dX6_nextState_57 : decode cX6_nextState 57 = .ok (.iconst 0, 1) := by decide +kernel
theorem dX6_nextState_58 : decode cX6_nextState 58 = .ok (.goto 4, 3) := by decide +kernel
theorem dX6_nextState_61 : decode cX6_nextState 61 = .ok (.iconst (-1), 1) := by decide +kernel
theorem dX6_nextState_62 : decode cX6_nextState 62 = .ok (.ireturn, 1) := by decide +kernel
theorem dX6_nextState_63 : decode cX6_nextState 63 = .ok (.iload_n 1, 1) := by decide +kernel
theorem dX6_nextState_64 : decode cX6_nextState 64 = .ok (.ifCond .ne 11, 3) := by decide +kernel
theorem dX6_nextState_67 : decode cX6_nextState 67 = .ok (.iload_n 2, 1) := by decide +kernel
theorem dX6_nextState_68 : decode cX6_nextState 68 = .ok (.bipush 110, 2) := by decide +kernel
theorem dX6_nextState_70 : decode cX6_nextState 70 = .ok (.if_icmp .ne 5, 3) := by decide +kernel
theorem dX6_nextState_73 : decode cX6_nextState 73 = .ok (.iconst 1, 1) := by decide +kernel
theorem dX6_nextState_74 : decode cX6_nextState 74 = .ok (.ireturn, 1) := by decide +kernel
theorem dX6_nextState_75 : decode cX6_nextState 75 = .ok (.iload_n 2, 1) := by decide +kernel
theorem dX6_nextState_76 : decode cX6_nextState 76 = .ok (.bipush 97, 2) := by decide +kernel
theorem dX6_nextState_78 : decode cX6_nextState 78 = .ok (.bipush 102, 2) := by decide +kernel
theorem dX6_nextState_80 : decode cX6_nextState 80 = .ok (.invokestatic 69, 3) := by decide +kernel
theorem dX6_nextState_83 : decode cX6_nextState 83 = .ok (.ifCond .ne 5, 3) := by decide +kernel
theorem dX6_nextState_86 : decode cX6_nextState 86 = .ok (.iconst (-1), 1) := by decide +kernel
theorem dX6_nextState_87 : decode cX6_nextState 87 = .ok (.ireturn, 1) := by decide +kernel
theorem dX6_nextState_88 : decode cX6_nextState 88 = .ok (.aload_n 0, 1) := by decide +kernel
theorem dX6_nextState_89 : decode cX6_nextState 89 = .ok (.getfield 44, 3) := by decide +kernel
theorem dX6_nextState_92 : decode cX6_nextState 92 = .ok (.aload_n 0, 1) := by decide +kernel
theorem dX6_nextState_93 : decode cX6_nextState 93 = .ok (.getfield 77, 3) := by decide +kernel
theorem dX6_nextState_96 : decode cX6_nextState 96 = .ok (.iconst 2, 1) := by decide +kernel
theorem dX6_nextState_97 : decode cX6_nextState 97 = .ok (.iload_n 2, 1) := by decide +kernel
theorem dX6_nextState_98 : decode cX6_nextState 98 = .ok (.bipush 97, 2) := by decide +kernel
theorem dX6_nextState_100 : decode cX6_nextState 100 = .ok (.isub, 1) := by decide +kernel
theorem dX6_nextState_101 : decode cX6_nextState 101 = .ok (.imul, 1) := by decide +kernel
theorem dX6_nextState_102 : decode cX6_nextState 102 = .ok (.iload_n 1, 1) := by decide +kernel
theorem dX6_nextState_103 : decode cX6_nextState 103 = .ok (.iadd, 1) := by decide +kernel
theorem dX6_nextState_104 : decode cX6_nextState 104 = .ok (.iastore, 1) := by decide +kernel
theorem dX6_nextState_105 : decode cX6_nextState 105 = .ok (.aload_n 0, 1) := by decide +kernel
theorem dX6_nextState_106 : decode cX6_nextState 106 = .ok (.dup, 1) := by decide +kernel
theorem dX6_nextState_107 : decode cX6_nextState 107 = .ok (.getfield 77, 3) := by decide +kernel
theorem dX6_nextState_110 : decode cX6_nextState 110 = .ok (.iconst 1, 1) := by decide +kernel
theorem dX6_nextState_111 : decode cX6_nextState 111 = .ok (.iadd, 1) := by decide +kernel
theorem dX6_nextState_112 : decode cX6_nextState 112 = .ok (.putfield 77, 3) := by decide +kernel
theorem dX6_nextState_115 : decode cX6_nextState 115 = .ok (.iconst 2, 1) := by decide +kernel
theorem dX6_nextState_116 : decode cX6_nextState 116 = .ok (.ireturn, 1) := by decide +kernel
theorem dX6_readSaying_0 : decode cX6_readSaying 0 = .ok (.aload_n 0, 1) := by decide +kernel
theorem dX6_readSaying_1 : decode cX6_readSaying 1 = .ok (.iconst 0, 1) := by decide +kernel
theorem dX6_readSaying_2 : decode cX6_readSaying 2 = .ok (.putfield 77, 3) := by decide +kernel
theorem dX6_readSaying_5 : decode cX6_readSaying 5 = .ok (.iconst 0, 1) := by decide +kernel
theorem dX6_readSaying_6 : decode cX6_readSaying 6 = .ok (.istore_n 1, 1) := by decide +kernel
theorem dX6_readSaying_7 : decode cX6_readSaying 7 = .ok (.iconst 0, 1) := by decide +kernel
theorem dX6_readSaying_8 : decode cX6_readSaying 8 = .ok (.istore_n 2, 1) := by decide +kernel
theorem dX6_readSaying_9 : decode cX6_readSaying 9 = .ok (.iconst 1, 1) := by decide +kernel
theorem dX6_readSaying_10 : decode cX6_readSaying 10 = .ok (.istore_n 3, 1) := by decide +kernel
theorem dX6_readSaying_11 : decode cX6_readSaying 11 = .ok (.iload_n 2, 1) := by decide +kernel
theorem dX6_readSaying_12 : decode cX6_readSaying 12 = .ok (.aload_n 0, 1) := by decide +kernel
theorem dX6_readSaying_13 : decode cX6_readSaying 13 = .ok (.getfield 73, 3) := by decide +kernel
theorem dX6_readSaying_16 : decode cX6_readSaying 16 = .ok (.if_icmp .ge 58, 3) := by decide +kernel
theorem dX6_readSaying_19 : decode cX6_readSaying 19 = .ok (.iload_n 3, 1) := by decide +kernel
theorem dX6_readSaying_20 : decode cX6_readSaying 20 = .ok (.ifCond .eq 54, 3) := by decide +kernel
theorem dX6_readSaying_23 : decode cX6_readSaying 23 = .ok (.aload_n 0, 1) := by decide +kernel
theorem dX6_readSaying_24 : decode cX6_readSaying 24 = .ok (.iload_n 1, 1) := by decide +kernel
theorem dX6_readSaying_25 : decode cX6_readSaying 25 = .ok (.aload_n 0, 1) := by decide +kernel
theorem dX6_readSaying_26 : decode cX6_readSaying 26 = .ok (.getfield 40, 3) := by decide +kernel
theorem dX6_readSaying_29 : decode cX6_readSaying 29 = .ok (.iload_n 2, 1) := by decide +kernel
theorem dX6_readSaying_30 : decode cX6_readSaying 30 = .ok (.baload, 1) := by decide +kernel
theorem dX6_readSaying_31 : decode cX6_readSaying 31 = .ok (.invokevirtual 80, 3) := by decide +kernel
theorem dX6_readSaying_34 : decode cX6_readSaying 34 = .ok (.istore 4, 2) := by decide +kernel
theorem dX6_readSaying_36 : decode cX6_readSaying 36 = .ok (.iload 4, 2) := by decide +kernel
theorem dX6_readSaying_38 : decode cX6_readSaying 38 = .ok (.iconst (-1), 1) := by decide +kernel
theorem dX6_readSaying_39 : decode cX6_readSaying 39 = .ok (.if_icmp .eq 7, 3) := by decide +kernel
theorem dX6_readSaying_42 : decode cX6_readSaying 42 = .ok (.iconst 1, 1) := by decide +kernel
theorem dX6_readSaying_43 : decode cX6_readSaying 43 = .ok (.goto 4, 3) := by decide +kernel
theorem dX6_readSaying_46 : decode cX6_readSaying 46 = .ok (.iconst 0, 1) := by decide +kernel
theorem dX6_readSaying_47 : decode cX6_readSaying 47 = .ok (.istore_n 3, 1) := by decide +kernel
theorem dX6_readSaying_48 : decode cX6_readSaying 48 = .ok (.iload_n 3, 1) := by decide +kernel
theorem dX6_readSaying_49 : decode cX6_readSaying 49 = .ok (.ifCond .eq 8, 3) := by decide +kernel
theorem dX6_readSaying_52 : decode cX6_readSaying 52 = .ok (.iload 4, 2) := by decide +kernel
theorem dX6_readSaying_54 : decode cX6_readSaying 54 = .ok (.goto 4, 3) := by decide +kernel
theorem dX6_readSaying_57 : decode cX6_readSaying 57 = .ok (.iload_n 1, 1) := by decide +kernel
theorem dX6_readSaying_58 : decode cX6_readSaying 58 = .ok (.istore_n 1, 1) := by decide +kernel
theorem dX6_readSaying_59 : decode cX6_readSaying 59 = .ok (.iload_n 2, 1) := by decide +kernel
theorem dX6_readSaying_60 : decode cX6_readSaying 60 = .ok (.iload_n 3, 1) := by decide +kernel
theorem dX6_readSaying_61 : decode cX6_readSaying 61 = .ok (.ifCond .eq 7, 3) := by decide +kernel
theorem dX6_readSaying_64 : decode cX6_readSaying 64 = .ok (.iconst 1, 1) := by decide +kernel
theorem dX6_readSaying_65 : decode cX6_readSaying 65 = .ok (.goto 4, 3) := by decide +kernel
theorem dX6_readSaying_68 : decode cX6_readSaying 68 = .ok (.iconst 0, 1) := by decide +kernel
theorem dX6_readSaying_69 : decode cX6_readSaying 69 = .ok (.iadd, 1) := by decide +kernel
theorem dX6_readSaying_70 : decode cX6_readSaying 70 = .ok (.istore_n 2, 1) := by decide +kernel
theorem dX6_readSaying_71 : decode cX6_readSaying 71 = .ok (.goto (-60), 3) := by decide +kernel
theorem dX6_readSaying_74 : decode cX6_readSaying 74 = .ok (.aload_n 0, 1) := by decide +kernel
theorem dX6_readSaying_75 : decode cX6_readSaying 75 = .ok (.iload_n 2, 1) := by decide +kernel
theorem dX6_readSaying_76 : decode cX6_readSaying 76 = .ok (.putfield 84, 3) := by decide +kernel
theorem dX6_readSaying_79 : decode cX6_readSaying 79 = .ok (.aload_n 0, 1) := by decide +kernel
theorem dX6_readSaying_80 : decode cX6_readSaying 80 = .ok (.iload_n 2, 1) := by decide +kernel
theorem dX6_readSaying_81 : decode cX6_readSaying 81 = .ok (.aload_n 0, 1) := by decide +kernel
theorem dX6_readSaying_82 : decode cX6_readSaying 82 = .ok (.getfield 73, 3) := by decide +kernel
theorem dX6_readSaying_85 : decode cX6_readSaying 85 = .ok (.if_icmp .ne 12, 3) := by decide +kernel
theorem dX6_readSaying_88 : decode cX6_readSaying 88 = .ok (.iload_n 1, 1) := by decide +kernel
theorem dX6_readSaying_89 : decode cX6_readSaying 89 = .ok (.iconst 2, 1) := by decide +kernel
theorem dX6_readSaying_90 : decode cX6_readSaying 90 = .ok (.if_icmp .ne 7, 3) := by decide +kernel
theorem dX6_readSaying_93 : decode cX6_readSaying 93 = .ok (.iconst 1, 1) := by decide +kernel
theorem dX6_readSaying_94 : decode cX6_readSaying 94 = .ok (.goto 4, 3) := by decide +kernel
theorem dX6_readSaying_97 : decode cX6_readSaying 97 = .ok (.iconst 0, 1) := by decide +kernel
theorem dX6_readSaying_98 : decode cX6_readSaying 98 = .ok (.putfield 87, 3) := by decide +kernel
theorem dX6_readSaying_101 : decode cX6_readSaying 101 = .ok (.return_, 1) := by decide +kernel
theorem dX6_readSenses_0 : decode cX6_readSenses 0 = .ok (.iconst 0, 1) := by decide +kernel
theorem dX6_readSenses_1 : decode cX6_readSenses 1 = .ok (.istore_n 1, 1) := by decide +kernel
theorem dX6_readSenses_2 : decode cX6_readSenses 2 = .ok (.iload_n 1, 1) := by decide +kernel
theorem dX6_readSenses_3 : decode cX6_readSenses 3 = .ok (.aload_n 0, 1) := by decide +kernel
theorem dX6_readSenses_4 : decode cX6_readSenses 4 = .ok (.getfield 73, 3) := by decide +kernel
theorem dX6_readSenses_7 : decode cX6_readSenses 7 = .ok (.if_icmp .ge 31, 3) := by decide +kernel
theorem dX6_readSenses_10 : decode cX6_readSenses 10 = .ok (.iload_n 1, 1) := by decide +kernel
theorem dX6_readSenses_11 : decode cX6_readSenses 11 = .ok (.bipush 6, 2) := by decide +kernel
theorem dX6_readSenses_13 : decode cX6_readSenses 13 = .ok (.if_icmp .ge 25, 3) := by decide +kernel
theorem dX6_readSenses_16 : decode cX6_readSenses 16 = .ok (.aload_n 0, 1) := by decide +kernel
theorem dX6_readSenses_17 : decode cX6_readSenses 17 = .ok (.getfield 40, 3) := by decide +kernel
theorem dX6_readSenses_20 : decode cX6_readSenses 20 = .ok (.iload_n 1, 1) := by decide +kernel
theorem dX6_readSenses_21 : decode cX6_readSenses 21 = .ok (.baload, 1) := by decide +kernel
theorem dX6_readSenses_22 : decode cX6_readSenses 22 = .ok (.bipush 48, 2) := by decide +kernel
theorem dX6_readSenses_24 : decode cX6_readSenses 24 = .ok (.bipush 53, 2) := by decide +kernel
theorem dX6_readSenses_26 : decode cX6_readSenses 26 = .ok (.invokestatic 69, 3) := by decide +kernel
theorem dX6_readSenses_29 : decode cX6_readSenses 29 = .ok (.ifCond .eq 9, 3) := by decide +kernel
theorem dX6_readSenses_32 : decode cX6_readSenses 32 = .ok (.iinc 1 1, 3) := by decide +kernel
theorem dX6_readSenses_35 : decode cX6_readSenses 35 = .ok (.goto (-33), 3) := by decide +kernel
theorem dX6_readSenses_38 : decode cX6_readSenses 38 = .ok (.aload_n 0, 1) := by decide +kernel
theorem dX6_readSenses_39 : decode cX6_readSenses 39 = .ok (.iload_n 1, 1) := by decide +kernel
theorem dX6_readSenses_40 : decode cX6_readSenses 40 = .ok (.putfield 84, 3) := by decide +kernel
theorem dX6_readSenses_43 : decode cX6_readSenses 43 = .ok (.aload_n 0, 1) := by decide +kernel
theorem dX6_readSenses_44 : decode cX6_readSenses 44 = .ok (.iload_n 1, 1) := by decide +kernel
theorem dX6_readSenses_45 : decode cX6_readSenses 45 = .ok (.aload_n 0, 1) := by decide +kernel
theorem dX6_readSenses_46 : decode cX6_readSenses 46 = .ok (.getfield 73, 3) := by decide +kernel
theorem dX6_readSenses_49 : decode cX6_readSenses 49 = .ok (.if_icmp .ne 13, 3) := by decide +kernel
theorem dX6_readSenses_52 : decode cX6_readSenses 52 = .ok (.iload_n 1, 1) := by decide +kernel
theorem dX6_readSenses_53 : decode cX6_readSenses 53 = .ok (.bipush 6, 2) := by decide +kernel
theorem dX6_readSenses_55 : decode cX6_readSenses 55 = .ok (.if_icmp .ne 7, 3) := by decide +kernel
theorem dX6_readSenses_58 : decode cX6_readSenses 58 = .ok (.iconst 1, 1) := by decide +kernel
theorem dX6_readSenses_59 : decode cX6_readSenses 59 = .ok (.goto 4, 3) := by decide +kernel
theorem dX6_readSenses_62 : decode cX6_readSenses 62 = .ok (.iconst 0, 1) := by decide +kernel
theorem dX6_readSenses_63 : decode cX6_readSenses 63 = .ok (.putfield 87, 3) := by decide +kernel
theorem dX6_readSenses_66 : decode cX6_readSenses 66 = .ok (.return_, 1) := by decide +kernel
theorem dX6_fault_0 : decode cX6_fault 0 = .ok (.iload_n 1, 1) := by decide +kernel
theorem dX6_fault_1 : decode cX6_fault 1 = .ok (.iconst 0, 1) := by decide +kernel
theorem dX6_fault_2 : decode cX6_fault 2 = .ok (.iconst 1, 1) := by decide +kernel
theorem dX6_fault_3 : decode cX6_fault 3 = .ok (.invokestatic 69, 3) := by decide +kernel
theorem dX6_fault_6 : decode cX6_fault 6 = .ok (.ifCond .ne 6, 3) := by decide +kernel
theorem dX6_fault_9 : decode cX6_fault 9 = .ok (.bipush (-102), 2) := by decide +kernel
theorem dX6_fault_11 : decode cX6_fault 11 = .ok (.ireturn, 1) := by decide +kernel
theorem dX6_fault_12 : decode cX6_fault 12 = .ok (.iload_n 1, 1) := by decide +kernel
theorem dX6_fault_13 : decode cX6_fault 13 = .ok (.ifCond .ne 10, 3) := by decide +kernel
theorem dX6_fault_16 : decode cX6_fault 16 = .ok (.aload_n 0, 1) := by decide +kernel
theorem dX6_fault_17 : decode cX6_fault 17 = .ok (.invokevirtual 91, 3) := by decide +kernel
theorem dX6_fault_20 : decode cX6_fault 20 = .ok (.goto 7, 3) := by decide +kernel
theorem dX6_fault_23 : decode cX6_fault 23 = .ok (.aload_n 0, 1) := by decide +kernel
theorem dX6_fault_24 : decode cX6_fault 24 = .ok (.invokevirtual 94, 3) := by decide +kernel
theorem dX6_fault_27 : decode cX6_fault 27 = .ok (.aload_n 0, 1) := by decide +kernel
theorem dX6_fault_28 : decode cX6_fault 28 = .ok (.getfield 84, 3) := by decide +kernel
theorem dX6_fault_31 : decode cX6_fault 31 = .ok (.ireturn, 1) := by decide +kernel
theorem dX6_say_0 : decode cX6_say 0 = .ok (.aload_n 0, 1) := by decide +kernel
theorem dX6_say_1 : decode cX6_say 1 = .ok (.invokevirtual 91, 3) := by decide +kernel
theorem dX6_say_4 : decode cX6_say 4 = .ok (.aload_n 0, 1) := by decide +kernel
theorem dX6_say_5 : decode cX6_say 5 = .ok (.getfield 87, 3) := by decide +kernel
theorem dX6_say_8 : decode cX6_say 8 = .ok (.ifCond .ne 6, 3) := by decide +kernel
theorem dX6_say_11 : decode cX6_say 11 = .ok (.bipush (-103), 2) := by decide +kernel
theorem dX6_say_13 : decode cX6_say 13 = .ok (.ireturn, 1) := by decide +kernel
theorem dX6_say_14 : decode cX6_say 14 = .ok (.aload_n 0, 1) := by decide +kernel
theorem dX6_say_15 : decode cX6_say 15 = .ok (.aload_n 0, 1) := by decide +kernel
theorem dX6_say_16 : decode cX6_say 16 = .ok (.getfield 97, 3) := by decide +kernel
theorem dX6_say_19 : decode cX6_say 19 = .ok (.putfield 100, 3) := by decide +kernel
theorem dX6_say_22 : decode cX6_say 22 = .ok (.aload_n 0, 1) := by decide +kernel
theorem dX6_say_23 : decode cX6_say 23 = .ok (.aload_n 0, 1) := by decide +kernel
theorem dX6_say_24 : decode cX6_say 24 = .ok (.getfield 77, 3) := by decide +kernel
theorem dX6_say_27 : decode cX6_say 27 = .ok (.putfield 97, 3) := by decide +kernel
theorem dX6_say_30 : decode cX6_say 30 = .ok (.iconst 0, 1) := by decide +kernel
theorem dX6_say_31 : decode cX6_say 31 = .ok (.istore_n 1, 1) := by decide +kernel
theorem dX6_say_32 : decode cX6_say 32 = .ok (.iload_n 1, 1) := by decide +kernel
theorem dX6_say_33 : decode cX6_say 33 = .ok (.iconst 4, 1) := by decide +kernel
theorem dX6_say_34 : decode cX6_say 34 = .ok (.if_icmp .ge 33, 3) := by decide +kernel
theorem dX6_say_37 : decode cX6_say 37 = .ok (.aload_n 0, 1) := by decide +kernel
theorem dX6_say_38 : decode cX6_say 38 = .ok (.getfield 19, 3) := by decide +kernel
theorem dX6_say_41 : decode cX6_say 41 = .ok (.iload_n 1, 1) := by decide +kernel
theorem dX6_say_42 : decode cX6_say 42 = .ok (.aload_n 0, 1) := by decide +kernel
theorem dX6_say_43 : decode cX6_say 43 = .ok (.getfield 13, 3) := by decide +kernel
theorem dX6_say_46 : decode cX6_say 46 = .ok (.iload_n 1, 1) := by decide +kernel
theorem dX6_say_47 : decode cX6_say 47 = .ok (.iaload, 1) := by decide +kernel
theorem dX6_say_48 : decode cX6_say 48 = .ok (.iastore, 1) := by decide +kernel
theorem dX6_say_49 : decode cX6_say 49 = .ok (.aload_n 0, 1) := by decide +kernel
theorem dX6_say_50 : decode cX6_say 50 = .ok (.getfield 13, 3) := by decide +kernel
theorem dX6_say_53 : decode cX6_say 53 = .ok (.iload_n 1, 1) := by decide +kernel
theorem dX6_say_54 : decode cX6_say 54 = .ok (.aload_n 0, 1) := by decide +kernel
theorem dX6_say_55 : decode cX6_say 55 = .ok (.getfield 44, 3) := by decide +kernel
theorem dX6_say_58 : decode cX6_say 58 = .ok (.iload_n 1, 1) := by decide +kernel
theorem dX6_say_59 : decode cX6_say 59 = .ok (.iaload, 1) := by decide +kernel
theorem dX6_say_60 : decode cX6_say 60 = .ok (.iastore, 1) := by decide +kernel
theorem dX6_say_61 : decode cX6_say 61 = .ok (.iinc 1 1, 3) := by decide +kernel
theorem dX6_say_64 : decode cX6_say 64 = .ok (.goto (-32), 3) := by decide +kernel
theorem dX6_say_67 : decode cX6_say 67 = .ok (.iconst 0, 1) := by decide +kernel
theorem dX6_say_68 : decode cX6_say 68 = .ok (.istore_n 1, 1) := by decide +kernel
theorem dX6_say_69 : decode cX6_say 69 = .ok (.iload_n 1, 1) := by decide +kernel
theorem dX6_say_70 : decode cX6_say 70 = .ok (.iconst 3, 1) := by decide +kernel
theorem dX6_say_71 : decode cX6_say 71 = .ok (.if_icmp .ge 33, 3) := by decide +kernel
theorem dX6_say_74 : decode cX6_say 74 = .ok (.aload_n 0, 1) := by decide +kernel
theorem dX6_say_75 : decode cX6_say 75 = .ok (.getfield 22, 3) := by decide +kernel
theorem dX6_say_78 : decode cX6_say 78 = .ok (.iload_n 1, 1) := by decide +kernel
theorem dX6_say_79 : decode cX6_say 79 = .ok (.aload_n 0, 1) := by decide +kernel
theorem dX6_say_80 : decode cX6_say 80 = .ok (.getfield 16, 3) := by decide +kernel
theorem dX6_say_83 : decode cX6_say 83 = .ok (.iload_n 1, 1) := by decide +kernel
theorem dX6_say_84 : decode cX6_say 84 = .ok (.iaload, 1) := by decide +kernel
theorem dX6_say_85 : decode cX6_say 85 = .ok (.iastore, 1) := by decide +kernel
theorem dX6_say_86 : decode cX6_say 86 = .ok (.aload_n 0, 1) := by decide +kernel
theorem dX6_say_87 : decode cX6_say 87 = .ok (.getfield 16, 3) := by decide +kernel
theorem dX6_say_90 : decode cX6_say 90 = .ok (.iload_n 1, 1) := by decide +kernel
theorem dX6_say_91 : decode cX6_say 91 = .ok (.aload_n 0, 1) := by decide +kernel
theorem dX6_say_92 : decode cX6_say 92 = .ok (.getfield 47, 3) := by decide +kernel
theorem dX6_say_95 : decode cX6_say 95 = .ok (.iload_n 1, 1) := by decide +kernel
theorem dX6_say_96 : decode cX6_say 96 = .ok (.iaload, 1) := by decide +kernel
theorem dX6_say_97 : decode cX6_say 97 = .ok (.iastore, 1) := by decide +kernel
theorem dX6_say_98 : decode cX6_say 98 = .ok (.iinc 1 1, 3) := by decide +kernel
theorem dX6_say_101 : decode cX6_say 101 = .ok (.goto (-32), 3) := by decide +kernel
theorem dX6_say_104 : decode cX6_say 104 = .ok (.aload_n 0, 1) := by decide +kernel
theorem dX6_say_105 : decode cX6_say 105 = .ok (.dup, 1) := by decide +kernel
theorem dX6_say_106 : decode cX6_say 106 = .ok (.getfield 103, 3) := by decide +kernel
theorem dX6_say_109 : decode cX6_say 109 = .ok (.iconst 1, 1) := by decide +kernel
theorem dX6_say_110 : decode cX6_say 110 = .ok (.iadd, 1) := by decide +kernel
theorem dX6_say_111 : decode cX6_say 111 = .ok (.putfield 103, 3) := by decide +kernel
theorem dX6_say_114 : decode cX6_say 114 = .ok (.aload_n 0, 1) := by decide +kernel
theorem dX6_say_115 : decode cX6_say 115 = .ok (.iconst 0, 1) := by decide +kernel
theorem dX6_say_116 : decode cX6_say 116 = .ok (.putfield 73, 3) := by decide +kernel
theorem dX6_say_119 : decode cX6_say 119 = .ok (.aload_n 0, 1) := by decide +kernel
theorem dX6_say_120 : decode cX6_say 120 = .ok (.aload_n 0, 1) := by decide +kernel
theorem dX6_say_121 : decode cX6_say 121 = .ok (.getfield 97, 3) := by decide +kernel
theorem dX6_say_124 : decode cX6_say 124 = .ok (.iconst 0, 1) := by decide +kernel
theorem dX6_say_125 : decode cX6_say 125 = .ok (.invokevirtual 106, 3) := by decide +kernel
theorem dX6_say_128 : decode cX6_say 128 = .ok (.aload_n 0, 1) := by decide +kernel
theorem dX6_say_129 : decode cX6_say 129 = .ok (.getfield 110, 3) := by decide +kernel
theorem dX6_say_132 : decode cX6_say 132 = .ok (.ireturn, 1) := by decide +kernel
theorem dX6_senses_0 : decode cX6_senses 0 = .ok (.aload_n 0, 1) := by decide +kernel
theorem dX6_senses_1 : decode cX6_senses 1 = .ok (.invokevirtual 94, 3) := by decide +kernel
theorem dX6_senses_4 : decode cX6_senses 4 = .ok (.aload_n 0, 1) := by decide +kernel
theorem dX6_senses_5 : decode cX6_senses 5 = .ok (.getfield 87, 3) := by decide +kernel
theorem dX6_senses_8 : decode cX6_senses 8 = .ok (.ifCond .ne 6, 3) := by decide +kernel
theorem dX6_senses_11 : decode cX6_senses 11 = .ok (.bipush (-103), 2) := by decide +kernel
theorem dX6_senses_13 : decode cX6_senses 13 = .ok (.ireturn, 1) := by decide +kernel
theorem dX6_senses_14 : decode cX6_senses 14 = .ok (.iconst 0, 1) := by decide +kernel
theorem dX6_senses_15 : decode cX6_senses 15 = .ok (.istore_n 1, 1) := by decide +kernel
theorem dX6_senses_16 : decode cX6_senses 16 = .ok (.iconst 0, 1) := by decide +kernel
theorem dX6_senses_17 : decode cX6_senses 17 = .ok (.istore_n 2, 1) := by decide +kernel
theorem dX6_senses_18 : decode cX6_senses 18 = .ok (.iload_n 2, 1) := by decide +kernel
theorem dX6_senses_19 : decode cX6_senses 19 = .ok (.bipush 6, 2) := by decide +kernel
theorem dX6_senses_21 : decode cX6_senses 21 = .ok (.if_icmp .ge 42, 3) := by decide +kernel
theorem dX6_senses_24 : decode cX6_senses 24 = .ok (.aload_n 0, 1) := by decide +kernel
theorem dX6_senses_25 : decode cX6_senses 25 = .ok (.getfield 7, 3) := by decide +kernel
theorem dX6_senses_28 : decode cX6_senses 28 = .ok (.iload_n 2, 1) := by decide +kernel
theorem dX6_senses_29 : decode cX6_senses 29 = .ok (.aload_n 0, 1) := by decide +kernel
theorem dX6_senses_30 : decode cX6_senses 30 = .ok (.getfield 40, 3) := by decide +kernel
theorem dX6_senses_33 : decode cX6_senses 33 = .ok (.iload_n 2, 1) := by decide +kernel
theorem dX6_senses_34 : decode cX6_senses 34 = .ok (.baload, 1) := by decide +kernel
theorem dX6_senses_35 : decode cX6_senses 35 = .ok (.bipush 48, 2) := by decide +kernel
theorem dX6_senses_37 : decode cX6_senses 37 = .ok (.isub, 1) := by decide +kernel
theorem dX6_senses_38 : decode cX6_senses 38 = .ok (.iastore, 1) := by decide +kernel
theorem dX6_senses_39 : decode cX6_senses 39 = .ok (.iload_n 1, 1) := by decide +kernel
theorem dX6_senses_40 : decode cX6_senses 40 = .ok (.aload_n 0, 1) := by decide +kernel
theorem dX6_senses_41 : decode cX6_senses 41 = .ok (.getfield 7, 3) := by decide +kernel
theorem dX6_senses_44 : decode cX6_senses 44 = .ok (.iload_n 2, 1) := by decide +kernel
theorem dX6_senses_45 : decode cX6_senses 45 = .ok (.iaload, 1) := by decide +kernel
theorem dX6_senses_46 : decode cX6_senses 46 = .ok (.iload_n 2, 1) := by decide +kernel
theorem dX6_senses_47 : decode cX6_senses 47 = .ok (.if_icmp .ne 7, 3) := by decide +kernel
theorem dX6_senses_50 : decode cX6_senses 50 = .ok (.iconst 0, 1) := by decide +kernel
theorem dX6_senses_51 : decode cX6_senses 51 = .ok (.goto 4, 3) := by decide +kernel
theorem dX6_senses_54 : decode cX6_senses 54 = .ok (.iconst 1, 1) := by decide +kernel
theorem dX6_senses_55 : decode cX6_senses 55 = .ok (.iadd, 1) := by decide +kernel
theorem dX6_senses_56 : decode cX6_senses 56 = .ok (.istore_n 1, 1) := by decide +kernel
theorem dX6_senses_57 : decode cX6_senses 57 = .ok (.iinc 2 1, 3) := by decide +kernel
theorem dX6_senses_60 : decode cX6_senses 60 = .ok (.goto (-42), 3) := by decide +kernel
theorem dX6_senses_63 : decode cX6_senses 63 = .ok (.aload_n 0, 1) := by decide +kernel
theorem dX6_senses_64 : decode cX6_senses 64 = .ok (.iconst 0, 1) := by decide +kernel
theorem dX6_senses_65 : decode cX6_senses 65 = .ok (.putfield 73, 3) := by decide +kernel
theorem dX6_senses_68 : decode cX6_senses 68 = .ok (.iload_n 1, 1) := by decide +kernel
theorem dX6_senses_69 : decode cX6_senses 69 = .ok (.ireturn, 1) := by decide +kernel
theorem dX6_isLetter_0 : decode cX6_isLetter 0 = .ok (.iload_n 0, 1) := by decide +kernel
theorem dX6_isLetter_1 : decode cX6_isLetter 1 = .ok (.iconst 0, 1) := by decide +kernel
theorem dX6_isLetter_2 : decode cX6_isLetter 2 = .ok (.iconst 5, 1) := by decide +kernel
theorem dX6_isLetter_3 : decode cX6_isLetter 3 = .ok (.invokestatic 69, 3) := by decide +kernel
theorem dX6_isLetter_6 : decode cX6_isLetter 6 = .ok (.ireturn, 1) := by decide +kernel
theorem dX6_sense_0 : decode cX6_sense 0 = .ok (.iload_n 1, 1) := by decide +kernel
theorem dX6_sense_1 : decode cX6_sense 1 = .ok (.invokestatic 113, 3) := by decide +kernel
theorem dX6_sense_4 : decode cX6_sense 4 = .ok (.ifCond .eq 12, 3) := by decide +kernel
theorem dX6_sense_7 : decode cX6_sense 7 = .ok (.aload_n 0, 1) := by decide +kernel
theorem dX6_sense_8 : decode cX6_sense 8 = .ok (.getfield 7, 3) := by decide +kernel
theorem dX6_sense_11 : decode cX6_sense 11 = .ok (.iload_n 1, 1) := by decide +kernel
theorem dX6_sense_12 : decode cX6_sense 12 = .ok (.iaload, 1) := by decide +kernel
theorem dX6_sense_13 : decode cX6_sense 13 = .ok (.goto 5, 3) := by decide +kernel
theorem dX6_sense_16 : decode cX6_sense 16 = .ok (.bipush (-101), 2) := by decide +kernel
theorem dX6_sense_18 : decode cX6_sense 18 = .ok (.ireturn, 1) := by decide +kernel
theorem dX6_worldsOf_0 : decode cX6_worldsOf 0 = .ok (.lconst 0, 1) := by decide +kernel
theorem dX6_worldsOf_1 : decode cX6_worldsOf 1 = .ok (.lstore_n 1, 1) := by decide +kernel
theorem dX6_worldsOf_2 : decode cX6_worldsOf 2 = .ok (.iconst 0, 1) := by decide +kernel
theorem dX6_worldsOf_3 : decode cX6_worldsOf 3 = .ok (.istore_n 3, 1) := by decide +kernel
theorem dX6_worldsOf_4 : decode cX6_worldsOf 4 = .ok (.iload_n 3, 1) := by decide +kernel
theorem dX6_worldsOf_5 : decode cX6_worldsOf 5 = .ok (.bipush 64, 2) := by decide +kernel
theorem dX6_worldsOf_7 : decode cX6_worldsOf 7 = .ok (.if_icmp .ge 28, 3) := by decide +kernel
theorem dX6_worldsOf_10 : decode cX6_worldsOf 10 = .ok (.lload_n 1, 1) := by decide +kernel
theorem dX6_worldsOf_11 : decode cX6_worldsOf 11 = .ok (.iload_n 3, 1) := by decide +kernel
theorem dX6_worldsOf_12 : decode cX6_worldsOf 12 = .ok (.iload_n 0, 1) := by decide +kernel
theorem dX6_worldsOf_13 : decode cX6_worldsOf 13 = .ok (.ishr, 1) := by decide +kernel
theorem dX6_worldsOf_14 : decode cX6_worldsOf 14 = .ok (.iconst 1, 1) := by decide +kernel
theorem dX6_worldsOf_15 : decode cX6_worldsOf 15 = .ok (.iand, 1) := by decide +kernel
theorem dX6_worldsOf_16 : decode cX6_worldsOf 16 = .ok (.iconst 1, 1) := by decide +kernel
theorem dX6_worldsOf_17 : decode cX6_worldsOf 17 = .ok (.if_icmp .ne 9, 3) := by decide +kernel
theorem dX6_worldsOf_20 : decode cX6_worldsOf 20 = .ok (.lconst 1, 1) := by decide +kernel
theorem dX6_worldsOf_21 : decode cX6_worldsOf 21 = .ok (.iload_n 3, 1) := by decide +kernel
theorem dX6_worldsOf_22 : decode cX6_worldsOf 22 = .ok (.lshl, 1) := by decide +kernel
theorem dX6_worldsOf_23 : decode cX6_worldsOf 23 = .ok (.goto 4, 3) := by decide +kernel
theorem dX6_worldsOf_26 : decode cX6_worldsOf 26 = .ok (.lconst 0, 1) := by decide +kernel
theorem dX6_worldsOf_27 : decode cX6_worldsOf 27 = .ok (.lor, 1) := by decide +kernel
theorem dX6_worldsOf_28 : decode cX6_worldsOf 28 = .ok (.lstore_n 1, 1) := by decide +kernel
theorem dX6_worldsOf_29 : decode cX6_worldsOf 29 = .ok (.iinc 3 1, 3) := by decide +kernel
theorem dX6_worldsOf_32 : decode cX6_worldsOf 32 = .ok (.goto (-28), 3) := by decide +kernel
theorem dX6_worldsOf_35 : decode cX6_worldsOf 35 = .ok (.lload_n 1, 1) := by decide +kernel
theorem dX6_worldsOf_36 : decode cX6_worldsOf 36 = .ok (.lreturn, 1) := by decide +kernel
theorem dX6_brackets_0 : decode cX6_brackets 0 = .ok (.iload_n 0, 1) := by decide +kernel
theorem dX6_brackets_1 : decode cX6_brackets 1 = .ok (.iconst 3, 1) := by decide +kernel
theorem dX6_brackets_2 : decode cX6_brackets 2 = .ok (.if_icmp .ge 7, 3) := by decide +kernel
theorem dX6_brackets_5 : decode cX6_brackets 5 = .ok (.iconst 1, 1) := by decide +kernel
theorem dX6_brackets_6 : decode cX6_brackets 6 = .ok (.goto 13, 3) := by decide +kernel
theorem dX6_brackets_9 : decode cX6_brackets 9 = .ok (.iload_n 0, 1) := by decide +kernel
theorem dX6_brackets_10 : decode cX6_brackets 10 = .ok (.iconst 3, 1) := by decide +kernel
theorem dX6_brackets_11 : decode cX6_brackets 11 = .ok (.if_icmp .ne 7, 3) := by decide +kernel
theorem dX6_brackets_14 : decode cX6_brackets 14 = .ok (.iconst 2, 1) := by decide +kernel
theorem dX6_brackets_15 : decode cX6_brackets 15 = .ok (.goto 4, 3) := by decide +kernel
theorem dX6_brackets_18 : decode cX6_brackets 18 = .ok (.iconst 5, 1) := by decide +kernel
theorem dX6_brackets_19 : decode cX6_brackets 19 = .ok (.ireturn, 1) := by decide +kernel
theorem dX6_wordAt_0 : decode cX6_wordAt 0 = .ok (.iload_n 2, 1) := by decide +kernel
theorem dX6_wordAt_1 : decode cX6_wordAt 1 = .ok (.ifCond .ne 12, 3) := by decide +kernel
theorem dX6_wordAt_4 : decode cX6_wordAt 4 = .ok (.aload_n 0, 1) := by decide +kernel
theorem dX6_wordAt_5 : decode cX6_wordAt 5 = .ok (.getfield 13, 3) := by decide +kernel
theorem dX6_wordAt_8 : decode cX6_wordAt 8 = .ok (.iload_n 1, 1) := by decide +kernel
theorem dX6_wordAt_9 : decode cX6_wordAt 9 = .ok (.iaload, 1) := by decide +kernel
theorem dX6_wordAt_10 : decode cX6_wordAt 10 = .ok (.goto 9, 3) := by decide +kernel
theorem dX6_wordAt_13 : decode cX6_wordAt 13 = .ok (.aload_n 0, 1) := by decide +kernel
theorem dX6_wordAt_14 : decode cX6_wordAt 14 = .ok (.getfield 19, 3) := by decide +kernel
theorem dX6_wordAt_17 : decode cX6_wordAt 17 = .ok (.iload_n 1, 1) := by decide +kernel
theorem dX6_wordAt_18 : decode cX6_wordAt 18 = .ok (.iaload, 1) := by decide +kernel
theorem dX6_wordAt_19 : decode cX6_wordAt 19 = .ok (.ireturn, 1) := by decide +kernel
theorem dX6_joinAt_0 : decode cX6_joinAt 0 = .ok (.iload_n 2, 1) := by decide +kernel
theorem dX6_joinAt_1 : decode cX6_joinAt 1 = .ok (.ifCond .ne 12, 3) := by decide +kernel
theorem dX6_joinAt_4 : decode cX6_joinAt 4 = .ok (.aload_n 0, 1) := by decide +kernel
theorem dX6_joinAt_5 : decode cX6_joinAt 5 = .ok (.getfield 16, 3) := by decide +kernel
theorem dX6_joinAt_8 : decode cX6_joinAt 8 = .ok (.iload_n 1, 1) := by decide +kernel
theorem dX6_joinAt_9 : decode cX6_joinAt 9 = .ok (.iaload, 1) := by decide +kernel
theorem dX6_joinAt_10 : decode cX6_joinAt 10 = .ok (.goto 9, 3) := by decide +kernel
theorem dX6_joinAt_13 : decode cX6_joinAt 13 = .ok (.aload_n 0, 1) := by decide +kernel
theorem dX6_joinAt_14 : decode cX6_joinAt 14 = .ok (.getfield 22, 3) := by decide +kernel
theorem dX6_joinAt_17 : decode cX6_joinAt 17 = .ok (.iload_n 1, 1) := by decide +kernel
theorem dX6_joinAt_18 : decode cX6_joinAt 18 = .ok (.iaload, 1) := by decide +kernel
theorem dX6_joinAt_19 : decode cX6_joinAt 19 = .ok (.ireturn, 1) := by decide +kernel
theorem dX6_bothMany_0 : decode cX6_bothMany 0 = .ok (.iconst 0, 1) := by decide +kernel
theorem dX6_bothMany_1 : decode cX6_bothMany 1 = .ok (.istore_n 3, 1) := by decide +kernel
theorem dX6_bothMany_2 : decode cX6_bothMany 2 = .ok (.iconst 0, 1) := by decide +kernel
theorem dX6_bothMany_3 : decode cX6_bothMany 3 = .ok (.istore 4, 2) := by decide +kernel
theorem dX6_bothMany_5 : decode cX6_bothMany 5 = .ok (.iload 4, 2) := by decide +kernel
theorem dX6_bothMany_7 : decode cX6_bothMany 7 = .ok (.iload_n 1, 1) := by decide +kernel
theorem dX6_bothMany_8 : decode cX6_bothMany 8 = .ok (.iconst 1, 1) := by decide +kernel
theorem dX6_bothMany_9 : decode cX6_bothMany 9 = .ok (.isub, 1) := by decide +kernel
theorem dX6_bothMany_10 : decode cX6_bothMany 10 = .ok (.if_icmp .ge 28, 3) := by decide +kernel
theorem dX6_bothMany_13 : decode cX6_bothMany 13 = .ok (.iload_n 3, 1) := by decide +kernel
theorem dX6_bothMany_14 : decode cX6_bothMany 14 = .ok (.aload_n 0, 1) := by decide +kernel
theorem dX6_bothMany_15 : decode cX6_bothMany 15 = .ok (.iload 4, 2) := by decide +kernel
theorem dX6_bothMany_17 : decode cX6_bothMany 17 = .ok (.iload_n 2, 1) := by decide +kernel
theorem dX6_bothMany_18 : decode cX6_bothMany 18 = .ok (.invokevirtual 117, 3) := by decide +kernel
theorem dX6_bothMany_21 : decode cX6_bothMany 21 = .ok (.iconst 1, 1) := by decide +kernel
theorem dX6_bothMany_22 : decode cX6_bothMany 22 = .ok (.if_icmp .ne 7, 3) := by decide +kernel
theorem dX6_bothMany_25 : decode cX6_bothMany 25 = .ok (.iconst 1, 1) := by decide +kernel
theorem dX6_bothMany_26 : decode cX6_bothMany 26 = .ok (.goto 4, 3) := by decide +kernel
theorem dX6_bothMany_29 : decode cX6_bothMany 29 = .ok (.iconst 0, 1) := by decide +kernel
theorem dX6_bothMany_30 : decode cX6_bothMany 30 = .ok (.iadd, 1) := by decide +kernel
theorem dX6_bothMany_31 : decode cX6_bothMany 31 = .ok (.istore_n 3, 1) := by decide +kernel
theorem dX6_bothMany_32 : decode cX6_bothMany 32 = .ok (.iinc 4 1, 3) := by decide +kernel
theorem dX6_bothMany_35 : decode cX6_bothMany 35 = .ok (.goto (-30), 3) := by decide +kernel
theorem dX6_bothMany_38 : decode cX6_bothMany 38 = .ok (.iload_n 3, 1) := by decide +kernel
theorem dX6_bothMany_39 : decode cX6_bothMany 39 = .ok (.ireturn, 1) := by decide +kernel
theorem dX6_lay_0 : decode cX6_lay 0 = .ok (.iconst 1, 1) := by decide +kernel
theorem dX6_lay_1 : decode cX6_lay 1 = .ok (.iload_n 1, 1) := by decide +kernel
theorem dX6_lay_2 : decode cX6_lay 2 = .ok (.ishl, 1) := by decide +kernel
theorem dX6_lay_3 : decode cX6_lay 3 = .ok (.istore_n 3, 1) := by decide +kernel
theorem dX6_lay_4 : decode cX6_lay 4 = .ok (.iconst 1, 1) := by decide +kernel
theorem dX6_lay_5 : decode cX6_lay 5 = .ok (.aload_n 0, 1) := by decide +kernel
theorem dX6_lay_6 : decode cX6_lay 6 = .ok (.iload_n 1, 1) := by decide +kernel
theorem dX6_lay_7 : decode cX6_lay 7 = .ok (.iload_n 2, 1) := by decide +kernel
theorem dX6_lay_8 : decode cX6_lay 8 = .ok (.invokevirtual 120, 3) := by decide +kernel
theorem dX6_lay_11 : decode cX6_lay 11 = .ok (.ishl, 1) := by decide +kernel
theorem dX6_lay_12 : decode cX6_lay 12 = .ok (.istore 4, 2) := by decide +kernel
theorem dX6_lay_14 : decode cX6_lay 14 = .ok (.aload_n 0, 1) := by decide +kernel
theorem dX6_lay_15 : decode cX6_lay 15 = .ok (.iload_n 1, 1) := by decide +kernel
theorem dX6_lay_16 : decode cX6_lay 16 = .ok (.ifCond .ne 7, 3) := by decide +kernel
theorem dX6_lay_19 : decode cX6_lay 19 = .ok (.iconst 0, 1) := by decide +kernel
theorem dX6_lay_20 : decode cX6_lay 20 = .ok (.goto 12, 3) := by decide +kernel
theorem dX6_lay_23 : decode cX6_lay 23 = .ok (.iload_n 1, 1) := by decide +kernel
theorem dX6_lay_24 : decode cX6_lay 24 = .ok (.invokestatic 123, 3) := by decide +kernel
theorem dX6_lay_27 : decode cX6_lay 27 = .ok (.iload 4, 2) := by decide +kernel
theorem dX6_lay_29 : decode cX6_lay 29 = .ok (.imul, 1) := by decide +kernel
theorem dX6_lay_30 : decode cX6_lay 30 = .ok (.iload_n 3, 1) := by decide +kernel
theorem dX6_lay_31 : decode cX6_lay 31 = .ok (.imul, 1) := by decide +kernel
theorem dX6_lay_32 : decode cX6_lay 32 = .ok (.putfield 110, 3) := by decide +kernel
theorem dX6_lay_35 : decode cX6_lay 35 = .ok (.iconst 0, 1) := by decide +kernel
theorem dX6_lay_36 : decode cX6_lay 36 = .ok (.istore 5, 2) := by decide +kernel
theorem dX6_lay_38 : decode cX6_lay 38 = .ok (.iload 5, 2) := by decide +kernel
theorem dX6_lay_40 : decode cX6_lay 40 = .ok (.aload_n 0, 1) := by decide +kernel
theorem dX6_lay_41 : decode cX6_lay 41 = .ok (.getfield 110, 3) := by decide +kernel
theorem dX6_lay_44 : decode cX6_lay 44 = .ok (.if_icmp .ge 198, 3) := by decide +kernel
theorem dX6_lay_47 : decode cX6_lay 47 = .ok (.iload 5, 2) := by decide +kernel
theorem dX6_lay_49 : decode cX6_lay 49 = .ok (.iload_n 3, 1) := by decide +kernel
theorem dX6_lay_50 : decode cX6_lay 50 = .ok (.irem, 1) := by decide +kernel
theorem dX6_lay_51 : decode cX6_lay 51 = .ok (.istore 6, 2) := by decide +kernel
theorem dX6_lay_53 : decode cX6_lay 53 = .ok (.iload 5, 2) := by decide +kernel
theorem dX6_lay_55 : decode cX6_lay 55 = .ok (.iload_n 3, 1) := by decide +kernel
theorem dX6_lay_56 : decode cX6_lay 56 = .ok (.idiv, 1) := by decide +kernel
theorem dX6_lay_57 : decode cX6_lay 57 = .ok (.iload 4, 2) := by decide +kernel
theorem dX6_lay_59 : decode cX6_lay 59 = .ok (.irem, 1) := by decide +kernel
theorem dX6_lay_60 : decode cX6_lay 60 = .ok (.istore 7, 2) := by decide +kernel
theorem dX6_lay_62 : decode cX6_lay 62 = .ok (.iconst 0, 1) := by decide +kernel
theorem dX6_lay_63 : decode cX6_lay 63 = .ok (.istore 8, 2) := by decide +kernel
theorem dX6_lay_65 : decode cX6_lay 65 = .ok (.iload 8, 2) := by decide +kernel
theorem dX6_lay_67 : decode cX6_lay 67 = .ok (.iload_n 1, 1) := by decide +kernel
theorem dX6_lay_68 : decode cX6_lay 68 = .ok (.if_icmp .ge 79, 3) := by decide +kernel
theorem dX6_lay_71 : decode cX6_lay 71 = .ok (.aload_n 0, 1) := by decide +kernel
theorem dX6_lay_72 : decode cX6_lay 72 = .ok (.iload 8, 2) := by decide +kernel
theorem dX6_lay_74 : decode cX6_lay 74 = .ok (.iload_n 2, 1) := by decide +kernel
theorem dX6_lay_75 : decode cX6_lay 75 = .ok (.invokevirtual 127, 3) := by decide +kernel
theorem dX6_lay_78 : decode cX6_lay 78 = .ok (.iconst 2, 1) := by decide +kernel
theorem dX6_lay_79 : decode cX6_lay 79 = .ok (.idiv, 1) := by decide +kernel
theorem dX6_lay_80 : decode cX6_lay 80 = .ok (.istore 9, 2) := by decide +kernel
theorem dX6_lay_82 : decode cX6_lay 82 = .ok (.iload 6, 2) := by decide +kernel
theorem dX6_lay_84 : decode cX6_lay 84 = .ok (.iload 8, 2) := by decide +kernel
theorem dX6_lay_86 : decode cX6_lay 86 = .ok (.ishr, 1) := by decide +kernel
theorem dX6_lay_87 : decode cX6_lay 87 = .ok (.iconst 1, 1) := by decide +kernel
theorem dX6_lay_88 : decode cX6_lay 88 = .ok (.iand, 1) := by decide +kernel
theorem dX6_lay_89 : decode cX6_lay 89 = .ok (.iconst 1, 1) := by decide +kernel
theorem dX6_lay_90 : decode cX6_lay 90 = .ok (.if_icmp .ne 13, 3) := by decide +kernel
theorem dX6_lay_93 : decode cX6_lay 93 = .ok (.aload_n 0, 1) := by decide +kernel
theorem dX6_lay_94 : decode cX6_lay 94 = .ok (.getfield 7, 3) := by decide +kernel
theorem dX6_lay_97 : decode cX6_lay 97 = .ok (.iload 9, 2) := by decide +kernel
theorem dX6_lay_99 : decode cX6_lay 99 = .ok (.iaload, 1) := by decide +kernel
theorem dX6_lay_100 : decode cX6_lay 100 = .ok (.goto 5, 3) := by decide +kernel
theorem dX6_lay_103 : decode cX6_lay 103 = .ok (.iload 9, 2) := by decide +kernel
theorem dX6_lay_105 : decode cX6_lay 105 = .ok (.invokestatic 130, 3) := by decide +kernel
theorem dX6_lay_108 : decode cX6_lay 108 = .ok (.lstore 10, 2) := by decide +kernel
theorem dX6_lay_110 : decode cX6_lay 110 = .ok (.aload_n 0, 1) := by decide +kernel
theorem dX6_lay_111 : decode cX6_lay 111 = .ok (.getfield 54, 3) := by decide +kernel
theorem dX6_lay_114 : decode cX6_lay 114 = .ok (.iload 8, 2) := by decide +kernel
theorem dX6_lay_116 : decode cX6_lay 116 = .ok (.aload_n 0, 1) := by decide +kernel
theorem dX6_lay_117 : decode cX6_lay 117 = .ok (.iload 8, 2) := by decide +kernel
theorem dX6_lay_119 : decode cX6_lay 119 = .ok (.iload_n 2, 1) := by decide +kernel
theorem dX6_lay_120 : decode cX6_lay 120 = .ok (.invokevirtual 127, 3) := by decide +kernel
theorem dX6_lay_123 : decode cX6_lay 123 = .ok (.iconst 2, 1) := by decide +kernel
theorem dX6_lay_124 : decode cX6_lay 124 = .ok (.irem, 1) := by decide +kernel
theorem dX6_lay_125 : decode cX6_lay 125 = .ok (.iconst 1, 1) := by decide +kernel
theorem dX6_lay_126 : decode cX6_lay 126 = .ok (.if_icmp .ne 12, 3) := by decide +kernel
theorem dX6_lay_129 : decode cX6_lay 129 = .ok (.lload 10, 2) := by decide +kernel
theorem dX6_lay_131 : decode cX6_lay 131 = .ok (.ldc2_w 134, 3) := by decide +kernel
theorem dX6_lay_134 : decode cX6_lay 134 = .ok (.lxor, 1) := by decide +kernel
theorem dX6_lay_135 : decode cX6_lay 135 = .ok (.goto 5, 3) := by decide +kernel
theorem dX6_lay_138 : decode cX6_lay 138 = .ok (.lload 10, 2) := by decide +kernel
theorem dX6_lay_140 : decode cX6_lay 140 = .ok (.lastore, 1) := by decide +kernel
theorem dX6_lay_141 : decode cX6_lay 141 = .ok (.iinc 8 1, 3) := by decide +kernel
theorem dX6_lay_144 : decode cX6_lay 144 = .ok (.goto (-79), 3) := by decide +kernel
theorem dX6_lay_147 : decode cX6_lay 147 = .ok (.iconst 0, 1) := by decide +kernel
theorem dX6_lay_148 : decode cX6_lay 148 = .ok (.istore 8, 2) := by decide +kernel
theorem dX6_lay_150 : decode cX6_lay 150 = .ok (.iconst 0, 1) := by decide +kernel
theorem dX6_lay_151 : decode cX6_lay 151 = .ok (.istore 9, 2) := by decide +kernel
theorem dX6_lay_153 : decode cX6_lay 153 = .ok (.iload 9, 2) := by decide +kernel
theorem dX6_lay_155 : decode cX6_lay 155 = .ok (.iload_n 1, 1) := by decide +kernel
theorem dX6_lay_156 : decode cX6_lay 156 = .ok (.iconst 1, 1) := by decide +kernel
theorem dX6_lay_157 : decode cX6_lay 157 = .ok (.isub, 1) := by decide +kernel
theorem dX6_lay_158 : decode cX6_lay 158 = .ok (.if_icmp .ge 59, 3) := by decide +kernel
theorem dX6_lay_161 : decode cX6_lay 161 = .ok (.aload_n 0, 1) := by decide +kernel
theorem dX6_lay_162 : decode cX6_lay 162 = .ok (.getfield 57, 3) := by decide +kernel
theorem dX6_lay_165 : decode cX6_lay 165 = .ok (.iload 9, 2) := by decide +kernel
theorem dX6_lay_167 : decode cX6_lay 167 = .ok (.aload_n 0, 1) := by decide +kernel
theorem dX6_lay_168 : decode cX6_lay 168 = .ok (.iload 9, 2) := by decide +kernel
theorem dX6_lay_170 : decode cX6_lay 170 = .ok (.iload_n 2, 1) := by decide +kernel
theorem dX6_lay_171 : decode cX6_lay 171 = .ok (.invokevirtual 117, 3) := by decide +kernel
theorem dX6_lay_174 : decode cX6_lay 174 = .ok (.iconst 1, 1) := by decide +kernel
theorem dX6_lay_175 : decode cX6_lay 175 = .ok (.if_icmp .ne 13, 3) := by decide +kernel
theorem dX6_lay_178 : decode cX6_lay 178 = .ok (.iload 7, 2) := by decide +kernel
theorem dX6_lay_180 : decode cX6_lay 180 = .ok (.iload 8, 2) := by decide +kernel
theorem dX6_lay_182 : decode cX6_lay 182 = .ok (.ishr, 1) := by decide +kernel
theorem dX6_lay_183 : decode cX6_lay 183 = .ok (.iconst 1, 1) := by decide +kernel
theorem dX6_lay_184 : decode cX6_lay 184 = .ok (.iand, 1) := by decide +kernel
theorem dX6_lay_185 : decode cX6_lay 185 = .ok (.goto 4, 3) := by decide +kernel
theorem dX6_lay_188 : decode cX6_lay 188 = .ok (.iconst 0, 1) := by decide +kernel
theorem dX6_lay_189 : decode cX6_lay 189 = .ok (.iastore, 1) := by decide +kernel
theorem dX6_lay_190 : decode cX6_lay 190 = .ok (.iload 8, 2) := by decide +kernel
theorem dX6_lay_192 : decode cX6_lay 192 = .ok (.aload_n 0, 1) := by decide +kernel
theorem dX6_lay_193 : decode cX6_lay 193 = .ok (.iload 9, 2) := by decide +kernel
theorem dX6_lay_195 : decode cX6_lay 195 = .ok (.iload_n 2, 1) := by decide +kernel
theorem dX6_lay_196 : decode cX6_lay 196 = .ok (.invokevirtual 117, 3) := by decide +kernel
theorem dX6_lay_199 : decode cX6_lay 199 = .ok (.iconst 1, 1) := by decide +kernel
theorem dX6_lay_200 : decode cX6_lay 200 = .ok (.if_icmp .ne 7, 3) := by decide +kernel
theorem dX6_lay_203 : decode cX6_lay 203 = .ok (.iconst 1, 1) := by decide +kernel
theorem dX6_lay_204 : decode cX6_lay 204 = .ok (.goto 4, 3) := by decide +kernel
theorem dX6_lay_207 : decode cX6_lay 207 = .ok (.iconst 0, 1) := by decide +kernel
theorem dX6_lay_208 : decode cX6_lay 208 = .ok (.iadd, 1) := by decide +kernel
theorem dX6_lay_209 : decode cX6_lay 209 = .ok (.istore 8, 2) := by decide +kernel
theorem dX6_lay_211 : decode cX6_lay 211 = .ok (.iinc 9 1, 3) := by decide +kernel
theorem dX6_lay_214 : decode cX6_lay 214 = .ok (.goto (-61), 3) := by decide +kernel
theorem dX6_lay_217 : decode cX6_lay 217 = .ok (.aload_n 0, 1) := by decide +kernel
theorem dX6_lay_218 : decode cX6_lay 218 = .ok (.getfield 50, 3) := by decide +kernel
theorem dX6_lay_221 : decode cX6_lay 221 = .ok (.iload 5, 2) := by decide +kernel
theorem dX6_lay_223 : decode cX6_lay 223 = .ok (.aload_n 0, 1) := by decide +kernel
theorem dX6_lay_224 : decode cX6_lay 224 = .ok (.iload_n 1, 1) := by decide +kernel
theorem dX6_lay_225 : decode cX6_lay 225 = .ok (.iload 5, 2) := by decide +kernel
theorem dX6_lay_227 : decode cX6_lay 227 = .ok (.iload_n 3, 1) := by decide +kernel
theorem dX6_lay_228 : decode cX6_lay 228 = .ok (.idiv, 1) := by decide +kernel
theorem dX6_lay_229 : decode cX6_lay 229 = .ok (.iload 4, 2) := by decide +kernel
theorem dX6_lay_231 : decode cX6_lay 231 = .ok (.idiv, 1) := by decide +kernel
theorem dX6_lay_232 : decode cX6_lay 232 = .ok (.invokevirtual 136, 3) := by decide +kernel
theorem dX6_lay_235 : decode cX6_lay 235 = .ok (.lastore, 1) := by decide +kernel
theorem dX6_lay_236 : decode cX6_lay 236 = .ok (.iinc 5 1, 3) := by decide +kernel
theorem dX6_lay_239 : decode cX6_lay 239 = .ok (.goto (-201), 3) := by decide +kernel
theorem dX6_lay_242 : decode cX6_lay 242 = .ok (.return_, 1) := by decide +kernel
theorem dX6_joined_0 : decode cX6_joined 0 = .ok (.iload_n 2, 1) := by decide +kernel
theorem dX6_joined_1 : decode cX6_joined 1 = .ok (.iconst 1, 1) := by decide +kernel
theorem dX6_joined_2 : decode cX6_joined 2 = .ok (.if_icmp .ne 9, 3) := by decide +kernel
theorem dX6_joined_5 : decode cX6_joined 5 = .ok (.lload_n 0, 1) := by decide +kernel
theorem dX6_joined_6 : decode cX6_joined 6 = .ok (.lload_n 3, 1) := by decide +kernel
theorem dX6_joined_7 : decode cX6_joined 7 = .ok (.lor, 1) := by decide +kernel
theorem dX6_joined_8 : decode cX6_joined 8 = .ok (.goto 6, 3) := by decide +kernel
theorem dX6_joined_11 : decode cX6_joined 11 = .ok (.lload_n 0, 1) := by decide +kernel
theorem dX6_joined_12 : decode cX6_joined 12 = .ok (.lload_n 3, 1) := by decide +kernel
theorem dX6_joined_13 : decode cX6_joined 13 = .ok (.land, 1) := by decide +kernel
theorem dX6_joined_14 : decode cX6_joined 14 = .ok (.lreturn, 1) := by decide +kernel
theorem dX6_bracketed_0 : decode cX6_bracketed 0 = .ok (.aload_n 0, 1) := by decide +kernel
theorem dX6_bracketed_1 : decode cX6_bracketed 1 = .ok (.getfield 54, 3) := by decide +kernel
theorem dX6_bracketed_4 : decode cX6_bracketed 4 = .ok (.iconst 0, 1) := by decide +kernel
theorem dX6_bracketed_5 : decode cX6_bracketed 5 = .ok (.laload, 1) := by decide +kernel
theorem dX6_bracketed_6 : decode cX6_bracketed 6 = .ok (.lstore_n 3, 1) := by decide +kernel
theorem dX6_bracketed_7 : decode cX6_bracketed 7 = .ok (.aload_n 0, 1) := by decide +kernel
theorem dX6_bracketed_8 : decode cX6_bracketed 8 = .ok (.getfield 54, 3) := by decide +kernel
theorem dX6_bracketed_11 : decode cX6_bracketed 11 = .ok (.iconst 1, 1) := by decide +kernel
theorem dX6_bracketed_12 : decode cX6_bracketed 12 = .ok (.laload, 1) := by decide +kernel
theorem dX6_bracketed_13 : decode cX6_bracketed 13 = .ok (.lstore 5, 2) := by decide +kernel
theorem dX6_bracketed_15 : decode cX6_bracketed 15 = .ok (.aload_n 0, 1) := by decide +kernel
theorem dX6_bracketed_16 : decode cX6_bracketed 16 = .ok (.getfield 54, 3) := by decide +kernel
theorem dX6_bracketed_19 : decode cX6_bracketed 19 = .ok (.iconst 2, 1) := by decide +kernel
theorem dX6_bracketed_20 : decode cX6_bracketed 20 = .ok (.laload, 1) := by decide +kernel
theorem dX6_bracketed_21 : decode cX6_bracketed 21 = .ok (.lstore 7, 2) := by decide +kernel
theorem dX6_bracketed_23 : decode cX6_bracketed 23 = .ok (.iload_n 1, 1) := by decide +kernel
theorem dX6_bracketed_24 : decode cX6_bracketed 24 = .ok (.iconst 1, 1) := by decide +kernel
theorem dX6_bracketed_25 : decode cX6_bracketed 25 = .ok (.if_icmp .ne 5, 3) := by decide +kernel
theorem dX6_bracketed_28 : decode cX6_bracketed 28 = .ok (.lload_n 3, 1) := by decide +kernel
theorem dX6_bracketed_29 : decode cX6_bracketed 29 = .ok (.lreturn, 1) := by decide +kernel
theorem dX6_bracketed_30 : decode cX6_bracketed 30 = .ok (.iload_n 1, 1) := by decide +kernel
theorem dX6_bracketed_31 : decode cX6_bracketed 31 = .ok (.iconst 2, 1) := by decide +kernel
theorem dX6_bracketed_32 : decode cX6_bracketed 32 = .ok (.if_icmp .ne 16, 3) := by decide +kernel
theorem dX6_bracketed_35 : decode cX6_bracketed 35 = .ok (.lload_n 3, 1) := by decide +kernel
theorem dX6_bracketed_36 : decode cX6_bracketed 36 = .ok (.aload_n 0, 1) := by decide +kernel
theorem dX6_bracketed_37 : decode cX6_bracketed 37 = .ok (.getfield 57, 3) := by decide +kernel
theorem dX6_bracketed_40 : decode cX6_bracketed 40 = .ok (.iconst 0, 1) := by decide +kernel
theorem dX6_bracketed_41 : decode cX6_bracketed 41 = .ok (.iaload, 1) := by decide +kernel
theorem dX6_bracketed_42 : decode cX6_bracketed 42 = .ok (.lload 5, 2) := by decide +kernel
theorem dX6_bracketed_44 : decode cX6_bracketed 44 = .ok (.invokestatic 140, 3) := by decide +kernel
theorem dX6_bracketed_47 : decode cX6_bracketed 47 = .ok (.lreturn, 1) := by decide +kernel
theorem dX6_bracketed_48 : decode cX6_bracketed 48 = .ok (.iload_n 1, 1) := by decide +kernel
theorem dX6_bracketed_49 : decode cX6_bracketed 49 = .ok (.iconst 3, 1) := by decide +kernel
theorem dX6_bracketed_50 : decode cX6_bracketed 50 = .ok (.if_icmp .ne 57, 3) := by decide +kernel
theorem dX6_bracketed_53 : decode cX6_bracketed 53 = .ok (.iload_n 2, 1) := by decide +kernel
theorem dX6_bracketed_54 : decode cX6_bracketed 54 = .ok (.ifCond .ne 29, 3) := by decide +kernel
theorem dX6_bracketed_57 : decode cX6_bracketed 57 = .ok (.lload_n 3, 1) := by decide +kernel
theorem dX6_bracketed_58 : decode cX6_bracketed 58 = .ok (.aload_n 0, 1) := by decide +kernel
theorem dX6_bracketed_59 : decode cX6_bracketed 59 = .ok (.getfield 57, 3) := by decide +kernel
theorem dX6_bracketed_62 : decode cX6_bracketed 62 = .ok (.iconst 0, 1) := by decide +kernel
theorem dX6_bracketed_63 : decode cX6_bracketed 63 = .ok (.iaload, 1) := by decide +kernel
theorem dX6_bracketed_64 : decode cX6_bracketed 64 = .ok (.lload 5, 2) := by decide +kernel
theorem dX6_bracketed_66 : decode cX6_bracketed 66 = .ok (.invokestatic 140, 3) := by decide +kernel
theorem dX6_bracketed_69 : decode cX6_bracketed 69 = .ok (.aload_n 0, 1) := by decide +kernel
theorem dX6_bracketed_70 : decode cX6_bracketed 70 = .ok (.getfield 57, 3) := by decide +kernel
theorem dX6_bracketed_73 : decode cX6_bracketed 73 = .ok (.iconst 1, 1) := by decide +kernel
theorem dX6_bracketed_74 : decode cX6_bracketed 74 = .ok (.iaload, 1) := by decide +kernel
theorem dX6_bracketed_75 : decode cX6_bracketed 75 = .ok (.lload 7, 2) := by decide +kernel
theorem dX6_bracketed_77 : decode cX6_bracketed 77 = .ok (.invokestatic 140, 3) := by decide +kernel
theorem dX6_bracketed_80 : decode cX6_bracketed 80 = .ok (.goto 26, 3) := by decide +kernel
theorem dX6_bracketed_83 : decode cX6_bracketed 83 = .ok (.lload_n 3, 1) := by decide +kernel
theorem dX6_bracketed_84 : decode cX6_bracketed 84 = .ok (.aload_n 0, 1) := by decide +kernel
theorem dX6_bracketed_85 : decode cX6_bracketed 85 = .ok (.getfield 57, 3) := by decide +kernel
theorem dX6_bracketed_88 : decode cX6_bracketed 88 = .ok (.iconst 0, 1) := by decide +kernel
theorem dX6_bracketed_89 : decode cX6_bracketed 89 = .ok (.iaload, 1) := by decide +kernel
theorem dX6_bracketed_90 : decode cX6_bracketed 90 = .ok (.lload 5, 2) := by decide +kernel
theorem dX6_bracketed_92 : decode cX6_bracketed 92 = .ok (.aload_n 0, 1) := by decide +kernel
theorem dX6_bracketed_93 : decode cX6_bracketed 93 = .ok (.getfield 57, 3) := by decide +kernel
theorem dX6_bracketed_96 : decode cX6_bracketed 96 = .ok (.iconst 1, 1) := by decide +kernel
theorem dX6_bracketed_97 : decode cX6_bracketed 97 = .ok (.iaload, 1) := by decide +kernel
theorem dX6_bracketed_98 : decode cX6_bracketed 98 = .ok (.lload 7, 2) := by decide +kernel
theorem dX6_bracketed_100 : decode cX6_bracketed 100 = .ok (.invokestatic 140, 3) := by decide +kernel
theorem dX6_bracketed_103 : decode cX6_bracketed 103 = .ok (.invokestatic 140, 3) := by decide +kernel
theorem dX6_bracketed_106 : decode cX6_bracketed 106 = .ok (.lreturn, 1) := by decide +kernel
theorem dX6_bracketed_107 : decode cX6_bracketed 107 = .ok (.aload_n 0, 1) := by decide +kernel
theorem dX6_bracketed_108 : decode cX6_bracketed 108 = .ok (.iload_n 2, 1) := by decide +kernel
theorem dX6_bracketed_109 : decode cX6_bracketed 109 = .ok (.lload_n 3, 1) := by decide +kernel
theorem dX6_bracketed_110 : decode cX6_bracketed 110 = .ok (.lload 5, 2) := by decide +kernel
theorem dX6_bracketed_112 : decode cX6_bracketed 112 = .ok (.lload 7, 2) := by decide +kernel
theorem dX6_bracketed_114 : decode cX6_bracketed 114 = .ok (.aload_n 0, 1) := by decide +kernel
theorem dX6_bracketed_115 : decode cX6_bracketed 115 = .ok (.getfield 54, 3) := by decide +kernel
theorem dX6_bracketed_118 : decode cX6_bracketed 118 = .ok (.iconst 3, 1) := by decide +kernel
theorem dX6_bracketed_119 : decode cX6_bracketed 119 = .ok (.laload, 1) := by decide +kernel
theorem dX6_bracketed_120 : decode cX6_bracketed 120 = .ok (.invokevirtual 144, 3) := by decide +kernel
theorem dX6_bracketed_123 : decode cX6_bracketed 123 = .ok (.lreturn, 1) := by decide +kernel
theorem dX6_ofFour_0 : decode cX6_ofFour 0 = .ok (.aload_n 0, 1) := by decide +kernel
theorem dX6_ofFour_1 : decode cX6_ofFour 1 = .ok (.getfield 57, 3) := by decide +kernel
theorem dX6_ofFour_4 : decode cX6_ofFour 4 = .ok (.iconst 0, 1) := by decide +kernel
theorem dX6_ofFour_5 : decode cX6_ofFour 5 = .ok (.iaload, 1) := by decide +kernel
theorem dX6_ofFour_6 : decode cX6_ofFour 6 = .ok (.istore 10, 2) := by decide +kernel
theorem dX6_ofFour_8 : decode cX6_ofFour 8 = .ok (.aload_n 0, 1) := by decide +kernel
theorem dX6_ofFour_9 : decode cX6_ofFour 9 = .ok (.getfield 57, 3) := by decide +kernel
theorem dX6_ofFour_12 : decode cX6_ofFour 12 = .ok (.iconst 1, 1) := by decide +kernel
theorem dX6_ofFour_13 : decode cX6_ofFour 13 = .ok (.iaload, 1) := by decide +kernel
theorem dX6_ofFour_14 : decode cX6_ofFour 14 = .ok (.istore 11, 2) := by decide +kernel
theorem dX6_ofFour_16 : decode cX6_ofFour 16 = .ok (.aload_n 0, 1) := by decide +kernel
theorem dX6_ofFour_17 : decode cX6_ofFour 17 = .ok (.getfield 57, 3) := by decide +kernel
theorem dX6_ofFour_20 : decode cX6_ofFour 20 = .ok (.iconst 2, 1) := by decide +kernel
theorem dX6_ofFour_21 : decode cX6_ofFour 21 = .ok (.iaload, 1) := by decide +kernel
theorem dX6_ofFour_22 : decode cX6_ofFour 22 = .ok (.istore 12, 2) := by decide +kernel
theorem dX6_ofFour_24 : decode cX6_ofFour 24 = .ok (.iload_n 1, 1) := by decide +kernel
theorem dX6_ofFour_25 : decode cX6_ofFour 25 = .ok (.tableswitch 123 0 3 #[31, 54, 77, 100], 31) := by decide +kernel
theorem dX6_ofFour_56 : decode cX6_ofFour 56 = .ok (.lload_n 2, 1) := by decide +kernel
theorem dX6_ofFour_57 : decode cX6_ofFour 57 = .ok (.iload 10, 2) := by decide +kernel
theorem dX6_ofFour_59 : decode cX6_ofFour 59 = .ok (.lload 4, 2) := by decide +kernel
theorem dX6_ofFour_61 : decode cX6_ofFour 61 = .ok (.invokestatic 140, 3) := by decide +kernel
theorem dX6_ofFour_64 : decode cX6_ofFour 64 = .ok (.iload 11, 2) := by decide +kernel
theorem dX6_ofFour_66 : decode cX6_ofFour 66 = .ok (.lload 6, 2) := by decide +kernel
theorem dX6_ofFour_68 : decode cX6_ofFour 68 = .ok (.invokestatic 140, 3) := by decide +kernel
theorem dX6_ofFour_71 : decode cX6_ofFour 71 = .ok (.iload 12, 2) := by decide +kernel
theorem dX6_ofFour_73 : decode cX6_ofFour 73 = .ok (.lload 8, 2) := by decide +kernel
theorem dX6_ofFour_75 : decode cX6_ofFour 75 = .ok (.invokestatic 140, 3) := by decide +kernel
theorem dX6_ofFour_78 : decode cX6_ofFour 78 = .ok (.lreturn, 1) := by decide +kernel
theorem dX6_ofFour_79 : decode cX6_ofFour 79 = .ok (.lload_n 2, 1) := by decide +kernel
theorem dX6_ofFour_80 : decode cX6_ofFour 80 = .ok (.iload 10, 2) := by decide +kernel
theorem dX6_ofFour_82 : decode cX6_ofFour 82 = .ok (.lload 4, 2) := by decide +kernel
theorem dX6_ofFour_84 : decode cX6_ofFour 84 = .ok (.iload 11, 2) := by decide +kernel
theorem dX6_ofFour_86 : decode cX6_ofFour 86 = .ok (.lload 6, 2) := by decide +kernel
theorem dX6_ofFour_88 : decode cX6_ofFour 88 = .ok (.invokestatic 140, 3) := by decide +kernel
theorem dX6_ofFour_91 : decode cX6_ofFour 91 = .ok (.invokestatic 140, 3) := by decide +kernel
theorem dX6_ofFour_94 : decode cX6_ofFour 94 = .ok (.iload 12, 2) := by decide +kernel
theorem dX6_ofFour_96 : decode cX6_ofFour 96 = .ok (.lload 8, 2) := by decide +kernel
theorem dX6_ofFour_98 : decode cX6_ofFour 98 = .ok (.invokestatic 140, 3) := by decide +kernel
theorem dX6_ofFour_101 : decode cX6_ofFour 101 = .ok (.lreturn, 1) := by decide +kernel
theorem dX6_ofFour_102 : decode cX6_ofFour 102 = .ok (.lload_n 2, 1) := by decide +kernel
theorem dX6_ofFour_103 : decode cX6_ofFour 103 = .ok (.iload 10, 2) := by decide +kernel
theorem dX6_ofFour_105 : decode cX6_ofFour 105 = .ok (.lload 4, 2) := by decide +kernel
theorem dX6_ofFour_107 : decode cX6_ofFour 107 = .ok (.invokestatic 140, 3) := by decide +kernel
theorem dX6_ofFour_110 : decode cX6_ofFour 110 = .ok (.iload 11, 2) := by decide +kernel
theorem dX6_ofFour_112 : decode cX6_ofFour 112 = .ok (.lload 6, 2) := by decide +kernel
theorem dX6_ofFour_114 : decode cX6_ofFour 114 = .ok (.iload 12, 2) := by decide +kernel
theorem dX6_ofFour_116 : decode cX6_ofFour 116 = .ok (.lload 8, 2) := by decide +kernel
theorem dX6_ofFour_118 : decode cX6_ofFour 118 = .ok (.invokestatic 140, 3) := by decide +kernel
theorem dX6_ofFour_121 : decode cX6_ofFour 121 = .ok (.invokestatic 140, 3) := by decide +kernel
theorem dX6_ofFour_124 : decode cX6_ofFour 124 = .ok (.lreturn, 1) := by decide +kernel
theorem dX6_ofFour_125 : decode cX6_ofFour 125 = .ok (.lload_n 2, 1) := by decide +kernel
theorem dX6_ofFour_126 : decode cX6_ofFour 126 = .ok (.iload 10, 2) := by decide +kernel
theorem dX6_ofFour_128 : decode cX6_ofFour 128 = .ok (.lload 4, 2) := by decide +kernel
theorem dX6_ofFour_130 : decode cX6_ofFour 130 = .ok (.iload 11, 2) := by decide +kernel
theorem dX6_ofFour_132 : decode cX6_ofFour 132 = .ok (.lload 6, 2) := by decide +kernel
theorem dX6_ofFour_134 : decode cX6_ofFour 134 = .ok (.invokestatic 140, 3) := by decide +kernel
theorem dX6_ofFour_137 : decode cX6_ofFour 137 = .ok (.iload 12, 2) := by decide +kernel
theorem dX6_ofFour_139 : decode cX6_ofFour 139 = .ok (.lload 8, 2) := by decide +kernel
theorem dX6_ofFour_141 : decode cX6_ofFour 141 = .ok (.invokestatic 140, 3) := by decide +kernel
theorem dX6_ofFour_144 : decode cX6_ofFour 144 = .ok (.invokestatic 140, 3) := by decide +kernel
theorem dX6_ofFour_147 : decode cX6_ofFour 147 = .ok (.lreturn, 1) := by decide +kernel
theorem dX6_ofFour_148 : decode cX6_ofFour 148 = .ok (.lload_n 2, 1) := by decide +kernel
theorem dX6_ofFour_149 : decode cX6_ofFour 149 = .ok (.iload 10, 2) := by decide +kernel
theorem dX6_ofFour_151 : decode cX6_ofFour 151 = .ok (.lload 4, 2) := by decide +kernel
theorem dX6_ofFour_153 : decode cX6_ofFour 153 = .ok (.iload 11, 2) := by decide +kernel
theorem dX6_ofFour_155 : decode cX6_ofFour 155 = .ok (.lload 6, 2) := by decide +kernel
theorem dX6_ofFour_157 : decode cX6_ofFour 157 = .ok (.iload 12, 2) := by decide +kernel
theorem dX6_ofFour_159 : decode cX6_ofFour 159 = .ok (.lload 8, 2) := by decide +kernel
theorem dX6_ofFour_161 : decode cX6_ofFour 161 = .ok (.invokestatic 140, 3) := by decide +kernel
theorem dX6_ofFour_164 : decode cX6_ofFour 164 = .ok (.invokestatic 140, 3) := by decide +kernel
theorem dX6_ofFour_167 : decode cX6_ofFour 167 = .ok (.invokestatic 140, 3) := by decide +kernel
theorem dX6_ofFour_170 : decode cX6_ofFour 170 = .ok (.lreturn, 1) := by decide +kernel
theorem dX6_size_0 : decode cX6_size 0 = .ok (.iconst 0, 1) := by decide +kernel
theorem dX6_size_1 : decode cX6_size 1 = .ok (.istore_n 2, 1) := by decide +kernel
theorem dX6_size_2 : decode cX6_size 2 = .ok (.iconst 0, 1) := by decide +kernel
theorem dX6_size_3 : decode cX6_size 3 = .ok (.istore_n 3, 1) := by decide +kernel
theorem dX6_size_4 : decode cX6_size 4 = .ok (.iload_n 3, 1) := by decide +kernel
theorem dX6_size_5 : decode cX6_size 5 = .ok (.bipush 64, 2) := by decide +kernel
theorem dX6_size_7 : decode cX6_size 7 = .ok (.if_icmp .ge 18, 3) := by decide +kernel
theorem dX6_size_10 : decode cX6_size 10 = .ok (.iload_n 2, 1) := by decide +kernel
theorem dX6_size_11 : decode cX6_size 11 = .ok (.lload_n 0, 1) := by decide +kernel
theorem dX6_size_12 : decode cX6_size 12 = .ok (.iload_n 3, 1) := by decide +kernel
theorem dX6_size_13 : decode cX6_size 13 = .ok (.lshr, 1) := by decide +kernel
theorem dX6_size_14 : decode cX6_size 14 = .ok (.lconst 1, 1) := by decide +kernel
theorem dX6_size_15 : decode cX6_size 15 = .ok (.land, 1) := by decide +kernel
theorem dX6_size_16 : decode cX6_size 16 = .ok (.l2i, 1) := by decide +kernel
theorem dX6_size_17 : decode cX6_size 17 = .ok (.iadd, 1) := by decide +kernel
theorem dX6_size_18 : decode cX6_size 18 = .ok (.istore_n 2, 1) := by decide +kernel
theorem dX6_size_19 : decode cX6_size 19 = .ok (.iinc 3 1, 3) := by decide +kernel
theorem dX6_size_22 : decode cX6_size 22 = .ok (.goto (-18), 3) := by decide +kernel
theorem dX6_size_25 : decode cX6_size 25 = .ok (.iload_n 2, 1) := by decide +kernel
theorem dX6_size_26 : decode cX6_size 26 = .ok (.ireturn, 1) := by decide +kernel
theorem dX6_isIn_0 : decode cX6_isIn 0 = .ok (.lload_n 0, 1) := by decide +kernel
theorem dX6_isIn_1 : decode cX6_isIn 1 = .ok (.iload_n 2, 1) := by decide +kernel
theorem dX6_isIn_2 : decode cX6_isIn 2 = .ok (.lshr, 1) := by decide +kernel
theorem dX6_isIn_3 : decode cX6_isIn 3 = .ok (.lconst 1, 1) := by decide +kernel
theorem dX6_isIn_4 : decode cX6_isIn 4 = .ok (.land, 1) := by decide +kernel
theorem dX6_isIn_5 : decode cX6_isIn 5 = .ok (.lconst 1, 1) := by decide +kernel
theorem dX6_isIn_6 : decode cX6_isIn 6 = .ok (.lcmp, 1) := by decide +kernel
theorem dX6_isIn_7 : decode cX6_isIn 7 = .ok (.ifCond .ne 7, 3) := by decide +kernel
theorem dX6_isIn_10 : decode cX6_isIn 10 = .ok (.iconst 1, 1) := by decide +kernel
theorem dX6_isIn_11 : decode cX6_isIn 11 = .ok (.goto 4, 3) := by decide +kernel
theorem dX6_isIn_14 : decode cX6_isIn 14 = .ok (.iconst 0, 1) := by decide +kernel
theorem dX6_isIn_15 : decode cX6_isIn 15 = .ok (.ireturn, 1) := by decide +kernel
theorem dX6_isReading_0 : decode cX6_isReading 0 = .ok (.aload_n 0, 1) := by decide +kernel
theorem dX6_isReading_1 : decode cX6_isReading 1 = .ok (.aload_n 0, 1) := by decide +kernel
theorem dX6_isReading_2 : decode cX6_isReading 2 = .ok (.getfield 97, 3) := by decide +kernel
theorem dX6_isReading_5 : decode cX6_isReading 5 = .ok (.iconst 0, 1) := by decide +kernel
theorem dX6_isReading_6 : decode cX6_isReading 6 = .ok (.invokevirtual 106, 3) := by decide +kernel
theorem dX6_isReading_9 : decode cX6_isReading 9 = .ok (.iload_n 1, 1) := by decide +kernel
theorem dX6_isReading_10 : decode cX6_isReading 10 = .ok (.iconst 0, 1) := by decide +kernel
theorem dX6_isReading_11 : decode cX6_isReading 11 = .ok (.aload_n 0, 1) := by decide +kernel
theorem dX6_isReading_12 : decode cX6_isReading 12 = .ok (.getfield 110, 3) := by decide +kernel
theorem dX6_isReading_15 : decode cX6_isReading 15 = .ok (.iconst 1, 1) := by decide +kernel
theorem dX6_isReading_16 : decode cX6_isReading 16 = .ok (.isub, 1) := by decide +kernel
theorem dX6_isReading_17 : decode cX6_isReading 17 = .ok (.invokestatic 69, 3) := by decide +kernel
theorem dX6_isReading_20 : decode cX6_isReading 20 = .ok (.ireturn, 1) := by decide +kernel
theorem dX6_isWorld_0 : decode cX6_isWorld 0 = .ok (.iload_n 0, 1) := by decide +kernel
theorem dX6_isWorld_1 : decode cX6_isWorld 1 = .ok (.iconst 0, 1) := by decide +kernel
theorem dX6_isWorld_2 : decode cX6_isWorld 2 = .ok (.bipush 63, 2) := by decide +kernel
theorem dX6_isWorld_4 : decode cX6_isWorld 4 = .ok (.invokestatic 69, 3) := by decide +kernel
theorem dX6_isWorld_7 : decode cX6_isWorld 7 = .ok (.ireturn, 1) := by decide +kernel
theorem dX6_reading_0 : decode cX6_reading 0 = .ok (.aload_n 0, 1) := by decide +kernel
theorem dX6_reading_1 : decode cX6_reading 1 = .ok (.iload_n 1, 1) := by decide +kernel
theorem dX6_reading_2 : decode cX6_reading 2 = .ok (.invokevirtual 148, 3) := by decide +kernel
theorem dX6_reading_5 : decode cX6_reading 5 = .ok (.ifCond .eq 15, 3) := by decide +kernel
theorem dX6_reading_8 : decode cX6_reading 8 = .ok (.aload_n 0, 1) := by decide +kernel
theorem dX6_reading_9 : decode cX6_reading 9 = .ok (.getfield 50, 3) := by decide +kernel
theorem dX6_reading_12 : decode cX6_reading 12 = .ok (.iload_n 1, 1) := by decide +kernel
theorem dX6_reading_13 : decode cX6_reading 13 = .ok (.laload, 1) := by decide +kernel
theorem dX6_reading_14 : decode cX6_reading 14 = .ok (.invokestatic 151, 3) := by decide +kernel
theorem dX6_reading_17 : decode cX6_reading 17 = .ok (.goto 5, 3) := by decide +kernel
theorem dX6_reading_20 : decode cX6_reading 20 = .ok (.bipush (-101), 2) := by decide +kernel
theorem dX6_reading_22 : decode cX6_reading 22 = .ok (.ireturn, 1) := by decide +kernel
theorem dX6_isSo_0 : decode cX6_isSo 0 = .ok (.aload_n 0, 1) := by decide +kernel
theorem dX6_isSo_1 : decode cX6_isSo 1 = .ok (.iload_n 1, 1) := by decide +kernel
theorem dX6_isSo_2 : decode cX6_isSo 2 = .ok (.invokevirtual 148, 3) := by decide +kernel
theorem dX6_isSo_5 : decode cX6_isSo 5 = .ok (.ifCond .eq 10, 3) := by decide +kernel
theorem dX6_isSo_8 : decode cX6_isSo 8 = .ok (.iload_n 2, 1) := by decide +kernel
theorem dX6_isSo_9 : decode cX6_isSo 9 = .ok (.invokestatic 155, 3) := by decide +kernel
theorem dX6_isSo_12 : decode cX6_isSo 12 = .ok (.ifCond .ne 6, 3) := by decide +kernel
theorem dX6_isSo_15 : decode cX6_isSo 15 = .ok (.bipush (-101), 2) := by decide +kernel
theorem dX6_isSo_17 : decode cX6_isSo 17 = .ok (.ireturn, 1) := by decide +kernel
theorem dX6_isSo_18 : decode cX6_isSo 18 = .ok (.aload_n 0, 1) := by decide +kernel
theorem dX6_isSo_19 : decode cX6_isSo 19 = .ok (.getfield 50, 3) := by decide +kernel
theorem dX6_isSo_22 : decode cX6_isSo 22 = .ok (.iload_n 1, 1) := by decide +kernel
theorem dX6_isSo_23 : decode cX6_isSo 23 = .ok (.laload, 1) := by decide +kernel
theorem dX6_isSo_24 : decode cX6_isSo 24 = .ok (.iload_n 2, 1) := by decide +kernel
theorem dX6_isSo_25 : decode cX6_isSo 25 = .ok (.invokestatic 158, 3) := by decide +kernel
theorem dX6_isSo_28 : decode cX6_isSo 28 = .ok (.ifCond .eq 7, 3) := by decide +kernel
theorem dX6_isSo_31 : decode cX6_isSo 31 = .ok (.iconst 1, 1) := by decide +kernel
theorem dX6_isSo_32 : decode cX6_isSo 32 = .ok (.goto 4, 3) := by decide +kernel
theorem dX6_isSo_35 : decode cX6_isSo 35 = .ok (.iconst 0, 1) := by decide +kernel
theorem dX6_isSo_36 : decode cX6_isSo 36 = .ok (.ireturn, 1) := by decide +kernel
theorem dX6_comeNow_0 : decode cX6_comeNow 0 = .ok (.iconst 0, 1) := by decide +kernel
theorem dX6_comeNow_1 : decode cX6_comeNow 1 = .ok (.istore_n 2, 1) := by decide +kernel
theorem dX6_comeNow_2 : decode cX6_comeNow 2 = .ok (.iconst (-1), 1) := by decide +kernel
theorem dX6_comeNow_3 : decode cX6_comeNow 3 = .ok (.istore_n 3, 1) := by decide +kernel
theorem dX6_comeNow_4 : decode cX6_comeNow 4 = .ok (.iconst 0, 1) := by decide +kernel
theorem dX6_comeNow_5 : decode cX6_comeNow 5 = .ok (.istore 4, 2) := by decide +kernel
theorem dX6_comeNow_7 : decode cX6_comeNow 7 = .ok (.iload 4, 2) := by decide +kernel
theorem dX6_comeNow_9 : decode cX6_comeNow 9 = .ok (.aload_n 0, 1) := by decide +kernel
theorem dX6_comeNow_10 : decode cX6_comeNow 10 = .ok (.getfield 110, 3) := by decide +kernel
theorem dX6_comeNow_13 : decode cX6_comeNow 13 = .ok (.if_icmp .ge 55, 3) := by decide +kernel
theorem dX6_comeNow_16 : decode cX6_comeNow 16 = .ok (.aload_n 0, 1) := by decide +kernel
theorem dX6_comeNow_17 : decode cX6_comeNow 17 = .ok (.getfield 50, 3) := by decide +kernel
theorem dX6_comeNow_20 : decode cX6_comeNow 20 = .ok (.iload 4, 2) := by decide +kernel
theorem dX6_comeNow_22 : decode cX6_comeNow 22 = .ok (.laload, 1) := by decide +kernel
theorem dX6_comeNow_23 : decode cX6_comeNow 23 = .ok (.aload_n 0, 1) := by decide +kernel
theorem dX6_comeNow_24 : decode cX6_comeNow 24 = .ok (.getfield 162, 3) := by decide +kernel
theorem dX6_comeNow_27 : decode cX6_comeNow 27 = .ok (.invokestatic 158, 3) := by decide +kernel
theorem dX6_comeNow_30 : decode cX6_comeNow 30 = .ok (.istore 5, 2) := by decide +kernel
theorem dX6_comeNow_32 : decode cX6_comeNow 32 = .ok (.iload_n 2, 1) := by decide +kernel
theorem dX6_comeNow_33 : decode cX6_comeNow 33 = .ok (.iload 5, 2) := by decide +kernel
theorem dX6_comeNow_35 : decode cX6_comeNow 35 = .ok (.ifCond .eq 7, 3) := by decide +kernel
theorem dX6_comeNow_38 : decode cX6_comeNow 38 = .ok (.iconst 1, 1) := by decide +kernel
theorem dX6_comeNow_39 : decode cX6_comeNow 39 = .ok (.goto 4, 3) := by decide +kernel
theorem dX6_comeNow_42 : decode cX6_comeNow 42 = .ok (.iconst 0, 1) := by decide +kernel
theorem dX6_comeNow_43 : decode cX6_comeNow 43 = .ok (.iadd, 1) := by decide +kernel
theorem dX6_comeNow_44 : decode cX6_comeNow 44 = .ok (.istore_n 2, 1) := by decide +kernel
theorem dX6_comeNow_45 : decode cX6_comeNow 45 = .ok (.iload 5, 2) := by decide +kernel
theorem dX6_comeNow_47 : decode cX6_comeNow 47 = .ok (.ifCond .eq 13, 3) := by decide +kernel
theorem dX6_comeNow_50 : decode cX6_comeNow 50 = .ok (.iload_n 3, 1) := by decide +kernel
theorem dX6_comeNow_51 : decode cX6_comeNow 51 = .ok (.iconst (-1), 1) := by decide +kernel
theorem dX6_comeNow_52 : decode cX6_comeNow 52 = .ok (.if_icmp .ne 8, 3) := by decide +kernel
theorem dX6_comeNow_55 : decode cX6_comeNow 55 = .ok (.iload 4, 2) := by decide +kernel
theorem dX6_comeNow_57 : decode cX6_comeNow 57 = .ok (.goto 4, 3) := by decide +kernel
theorem dX6_comeNow_60 : decode cX6_comeNow 60 = .ok (.iload_n 3, 1) := by decide +kernel
theorem dX6_comeNow_61 : decode cX6_comeNow 61 = .ok (.istore_n 3, 1) := by decide +kernel
theorem dX6_comeNow_62 : decode cX6_comeNow 62 = .ok (.iinc 4 1, 3) := by decide +kernel
theorem dX6_comeNow_65 : decode cX6_comeNow 65 = .ok (.goto (-58), 3) := by decide +kernel
theorem dX6_comeNow_68 : decode cX6_comeNow 68 = .ok (.iload_n 1, 1) := by decide +kernel
theorem dX6_comeNow_69 : decode cX6_comeNow 69 = .ok (.ifCond .ne 7, 3) := by decide +kernel
theorem dX6_comeNow_72 : decode cX6_comeNow 72 = .ok (.iload_n 2, 1) := by decide +kernel
theorem dX6_comeNow_73 : decode cX6_comeNow 73 = .ok (.goto 4, 3) := by decide +kernel
theorem dX6_comeNow_76 : decode cX6_comeNow 76 = .ok (.iload_n 3, 1) := by decide +kernel
theorem dX6_comeNow_77 : decode cX6_comeNow 77 = .ok (.ireturn, 1) := by decide +kernel
theorem dX6_come_0 : decode cX6_come 0 = .ok (.iload_n 1, 1) := by decide +kernel
theorem dX6_come_1 : decode cX6_come 1 = .ok (.iconst 0, 1) := by decide +kernel
theorem dX6_come_2 : decode cX6_come 2 = .ok (.iconst 1, 1) := by decide +kernel
theorem dX6_come_3 : decode cX6_come 3 = .ok (.invokestatic 69, 3) := by decide +kernel
theorem dX6_come_6 : decode cX6_come 6 = .ok (.ifCond .ne 6, 3) := by decide +kernel
theorem dX6_come_9 : decode cX6_come 9 = .ok (.bipush (-102), 2) := by decide +kernel
theorem dX6_come_11 : decode cX6_come 11 = .ok (.ireturn, 1) := by decide +kernel
theorem dX6_come_12 : decode cX6_come 12 = .ok (.aload_n 0, 1) := by decide +kernel
theorem dX6_come_13 : decode cX6_come 13 = .ok (.getfield 97, 3) := by decide +kernel
theorem dX6_come_16 : decode cX6_come 16 = .ok (.ifCond .ne 6, 3) := by decide +kernel
theorem dX6_come_19 : decode cX6_come 19 = .ok (.bipush (-103), 2) := by decide +kernel
theorem dX6_come_21 : decode cX6_come 21 = .ok (.ireturn, 1) := by decide +kernel
theorem dX6_come_22 : decode cX6_come 22 = .ok (.aload_n 0, 1) := by decide +kernel
theorem dX6_come_23 : decode cX6_come 23 = .ok (.aload_n 0, 1) := by decide +kernel
theorem dX6_come_24 : decode cX6_come 24 = .ok (.getfield 97, 3) := by decide +kernel
theorem dX6_come_27 : decode cX6_come 27 = .ok (.iconst 0, 1) := by decide +kernel
theorem dX6_come_28 : decode cX6_come 28 = .ok (.invokevirtual 106, 3) := by decide +kernel
theorem dX6_come_31 : decode cX6_come 31 = .ok (.aload_n 0, 1) := by decide +kernel
theorem dX6_come_32 : decode cX6_come 32 = .ok (.iload_n 1, 1) := by decide +kernel
theorem dX6_come_33 : decode cX6_come 33 = .ok (.invokevirtual 165, 3) := by decide +kernel
theorem dX6_come_36 : decode cX6_come 36 = .ok (.ireturn, 1) := by decide +kernel
theorem dX6_isFact_0 : decode cX6_isFact 0 = .ok (.iload_n 0, 1) := by decide +kernel
theorem dX6_isFact_1 : decode cX6_isFact 1 = .ok (.iconst 0, 1) := by decide +kernel
theorem dX6_isFact_2 : decode cX6_isFact 2 = .ok (.iconst 5, 1) := by decide +kernel
theorem dX6_isFact_3 : decode cX6_isFact 3 = .ok (.invokestatic 69, 3) := by decide +kernel
theorem dX6_isFact_6 : decode cX6_isFact 6 = .ok (.ireturn, 1) := by decide +kernel
theorem dX6_fact_0 : decode cX6_fact 0 = .ok (.iload_n 1, 1) := by decide +kernel
theorem dX6_fact_1 : decode cX6_fact 1 = .ok (.invokestatic 168, 3) := by decide +kernel
theorem dX6_fact_4 : decode cX6_fact 4 = .ok (.ifCond .eq 14, 3) := by decide +kernel
theorem dX6_fact_7 : decode cX6_fact 7 = .ok (.aload_n 0, 1) := by decide +kernel
theorem dX6_fact_8 : decode cX6_fact 8 = .ok (.getfield 162, 3) := by decide +kernel
theorem dX6_fact_11 : decode cX6_fact 11 = .ok (.iload_n 1, 1) := by decide +kernel
theorem dX6_fact_12 : decode cX6_fact 12 = .ok (.ishr, 1) := by decide +kernel
theorem dX6_fact_13 : decode cX6_fact 13 = .ok (.iconst 1, 1) := by decide +kernel
theorem dX6_fact_14 : decode cX6_fact 14 = .ok (.iand, 1) := by decide +kernel
theorem dX6_fact_15 : decode cX6_fact 15 = .ok (.goto 5, 3) := by decide +kernel
theorem dX6_fact_18 : decode cX6_fact 18 = .ok (.bipush (-101), 2) := by decide +kernel
theorem dX6_fact_20 : decode cX6_fact 20 = .ok (.ireturn, 1) := by decide +kernel
theorem dX6_with_0 : decode cX6_with 0 = .ok (.iload_n 0, 1) := by decide +kernel
theorem dX6_with_1 : decode cX6_with 1 = .ok (.iconst 1, 1) := by decide +kernel
theorem dX6_with_2 : decode cX6_with 2 = .ok (.iload_n 1, 1) := by decide +kernel
theorem dX6_with_3 : decode cX6_with 3 = .ok (.ishl, 1) := by decide +kernel
theorem dX6_with_4 : decode cX6_with 4 = .ok (.iconst (-1), 1) := by decide +kernel
theorem dX6_with_5 : decode cX6_with 5 = .ok (.ixor, 1) := by decide +kernel
theorem dX6_with_6 : decode cX6_with 6 = .ok (.iand, 1) := by decide +kernel
theorem dX6_with_7 : decode cX6_with 7 = .ok (.iload_n 2, 1) := by decide +kernel
theorem dX6_with_8 : decode cX6_with 8 = .ok (.iload_n 1, 1) := by decide +kernel
theorem dX6_with_9 : decode cX6_with 9 = .ok (.ishl, 1) := by decide +kernel
theorem dX6_with_10 : decode cX6_with 10 = .ok (.ior, 1) := by decide +kernel
theorem dX6_with_11 : decode cX6_with 11 = .ok (.ireturn, 1) := by decide +kernel
theorem dX6_set_0 : decode cX6_set 0 = .ok (.iload_n 1, 1) := by decide +kernel
theorem dX6_set_1 : decode cX6_set 1 = .ok (.invokestatic 168, 3) := by decide +kernel
theorem dX6_set_4 : decode cX6_set 4 = .ok (.ifCond .ne 6, 3) := by decide +kernel
theorem dX6_set_7 : decode cX6_set 7 = .ok (.bipush (-101), 2) := by decide +kernel
theorem dX6_set_9 : decode cX6_set 9 = .ok (.ireturn, 1) := by decide +kernel
theorem dX6_set_10 : decode cX6_set 10 = .ok (.iload_n 2, 1) := by decide +kernel
theorem dX6_set_11 : decode cX6_set 11 = .ok (.iconst 0, 1) := by decide +kernel
theorem dX6_set_12 : decode cX6_set 12 = .ok (.iconst 1, 1) := by decide +kernel
theorem dX6_set_13 : decode cX6_set 13 = .ok (.invokestatic 69, 3) := by decide +kernel
theorem dX6_set_16 : decode cX6_set 16 = .ok (.ifCond .ne 6, 3) := by decide +kernel
theorem dX6_set_19 : decode cX6_set 19 = .ok (.bipush (-102), 2) := by decide +kernel
theorem dX6_set_21 : decode cX6_set 21 = .ok (.ireturn, 1) := by decide +kernel
theorem dX6_set_22 : decode cX6_set 22 = .ok (.aload_n 0, 1) := by decide +kernel
theorem dX6_set_23 : decode cX6_set 23 = .ok (.getfield 162, 3) := by decide +kernel
theorem dX6_set_26 : decode cX6_set 26 = .ok (.iload_n 1, 1) := by decide +kernel
theorem dX6_set_27 : decode cX6_set 27 = .ok (.ishr, 1) := by decide +kernel
theorem dX6_set_28 : decode cX6_set 28 = .ok (.iconst 1, 1) := by decide +kernel
theorem dX6_set_29 : decode cX6_set 29 = .ok (.iand, 1) := by decide +kernel
theorem dX6_set_30 : decode cX6_set 30 = .ok (.istore_n 3, 1) := by decide +kernel
theorem dX6_set_31 : decode cX6_set 31 = .ok (.aload_n 0, 1) := by decide +kernel
theorem dX6_set_32 : decode cX6_set 32 = .ok (.aload_n 0, 1) := by decide +kernel
theorem dX6_set_33 : decode cX6_set 33 = .ok (.getfield 162, 3) := by decide +kernel
theorem dX6_set_36 : decode cX6_set 36 = .ok (.iload_n 1, 1) := by decide +kernel
theorem dX6_set_37 : decode cX6_set 37 = .ok (.iload_n 2, 1) := by decide +kernel
theorem dX6_set_38 : decode cX6_set 38 = .ok (.invokestatic 171, 3) := by decide +kernel
theorem dX6_set_41 : decode cX6_set 41 = .ok (.putfield 162, 3) := by decide +kernel
theorem dX6_set_44 : decode cX6_set 44 = .ok (.iload_n 3, 1) := by decide +kernel
theorem dX6_set_45 : decode cX6_set 45 = .ok (.ireturn, 1) := by decide +kernel
theorem dX6_isHearer_0 : decode cX6_isHearer 0 = .ok (.iload_n 1, 1) := by decide +kernel
theorem dX6_isHearer_1 : decode cX6_isHearer 1 = .ok (.iconst 0, 1) := by decide +kernel
theorem dX6_isHearer_2 : decode cX6_isHearer 2 = .ok (.aload_n 0, 1) := by decide +kernel
theorem dX6_isHearer_3 : decode cX6_isHearer 3 = .ok (.getfield 175, 3) := by decide +kernel
theorem dX6_isHearer_6 : decode cX6_isHearer 6 = .ok (.iconst 1, 1) := by decide +kernel
theorem dX6_isHearer_7 : decode cX6_isHearer 7 = .ok (.isub, 1) := by decide +kernel
theorem dX6_isHearer_8 : decode cX6_isHearer 8 = .ok (.invokestatic 69, 3) := by decide +kernel
theorem dX6_isHearer_11 : decode cX6_isHearer 11 = .ok (.ireturn, 1) := by decide +kernel
theorem dX6_hearer_0 : decode cX6_hearer 0 = .ok (.iload_n 2, 1) := by decide +kernel
theorem dX6_hearer_1 : decode cX6_hearer 1 = .ok (.invokestatic 168, 3) := by decide +kernel
theorem dX6_hearer_4 : decode cX6_hearer 4 = .ok (.ifCond .ne 6, 3) := by decide +kernel
theorem dX6_hearer_7 : decode cX6_hearer 7 = .ok (.bipush (-101), 2) := by decide +kernel
theorem dX6_hearer_9 : decode cX6_hearer 9 = .ok (.ireturn, 1) := by decide +kernel
theorem dX6_hearer_10 : decode cX6_hearer 10 = .ok (.iload_n 1, 1) := by decide +kernel
theorem dX6_hearer_11 : decode cX6_hearer 11 = .ok (.iconst 0, 1) := by decide +kernel
theorem dX6_hearer_12 : decode cX6_hearer 12 = .ok (.iconst 4, 1) := by decide +kernel
theorem dX6_hearer_13 : decode cX6_hearer 13 = .ok (.invokestatic 69, 3) := by decide +kernel
theorem dX6_hearer_16 : decode cX6_hearer 16 = .ok (.ifCond .eq 12, 3) := by decide +kernel
theorem dX6_hearer_19 : decode cX6_hearer 19 = .ok (.iload_n 3, 1) := by decide +kernel
theorem dX6_hearer_20 : decode cX6_hearer 20 = .ok (.iconst 0, 1) := by decide +kernel
theorem dX6_hearer_21 : decode cX6_hearer 21 = .ok (.iconst 1, 1) := by decide +kernel
theorem dX6_hearer_22 : decode cX6_hearer 22 = .ok (.invokestatic 69, 3) := by decide +kernel
theorem dX6_hearer_25 : decode cX6_hearer 25 = .ok (.ifCond .ne 6, 3) := by decide +kernel
theorem dX6_hearer_28 : decode cX6_hearer 28 = .ok (.bipush (-102), 2) := by decide +kernel
theorem dX6_hearer_30 : decode cX6_hearer 30 = .ok (.ireturn, 1) := by decide +kernel
theorem dX6_hearer_31 : decode cX6_hearer 31 = .ok (.aload_n 0, 1) := by decide +kernel
theorem dX6_hearer_32 : decode cX6_hearer 32 = .ok (.getfield 175, 3) := by decide +kernel
theorem dX6_hearer_35 : decode cX6_hearer 35 = .ok (.iconst 4, 1) := by decide +kernel
theorem dX6_hearer_36 : decode cX6_hearer 36 = .ok (.if_icmp .ne 6, 3) := by decide +kernel
theorem dX6_hearer_39 : decode cX6_hearer 39 = .ok (.bipush (-104), 2) := by decide +kernel
theorem dX6_hearer_41 : decode cX6_hearer 41 = .ok (.ireturn, 1) := by decide +kernel
theorem dX6_hearer_42 : decode cX6_hearer 42 = .ok (.aload_n 0, 1) := by decide +kernel
theorem dX6_hearer_43 : decode cX6_hearer 43 = .ok (.getfield 25, 3) := by decide +kernel
theorem dX6_hearer_46 : decode cX6_hearer 46 = .ok (.aload_n 0, 1) := by decide +kernel
theorem dX6_hearer_47 : decode cX6_hearer 47 = .ok (.getfield 175, 3) := by decide +kernel
theorem dX6_hearer_50 : decode cX6_hearer 50 = .ok (.iload_n 1, 1) := by decide +kernel
theorem dX6_hearer_51 : decode cX6_hearer 51 = .ok (.iastore, 1) := by decide +kernel
theorem dX6_hearer_52 : decode cX6_hearer 52 = .ok (.aload_n 0, 1) := by decide +kernel
theorem dX6_hearer_53 : decode cX6_hearer 53 = .ok (.getfield 28, 3) := by decide +kernel
theorem dX6_hearer_56 : decode cX6_hearer 56 = .ok (.aload_n 0, 1) := by decide +kernel
theorem dX6_hearer_57 : decode cX6_hearer 57 = .ok (.getfield 175, 3) := by decide +kernel
theorem dX6_hearer_60 : decode cX6_hearer 60 = .ok (.iload_n 2, 1) := by decide +kernel
theorem dX6_hearer_61 : decode cX6_hearer 61 = .ok (.iastore, 1) := by decide +kernel
theorem dX6_hearer_62 : decode cX6_hearer 62 = .ok (.aload_n 0, 1) := by decide +kernel
theorem dX6_hearer_63 : decode cX6_hearer 63 = .ok (.getfield 31, 3) := by decide +kernel
theorem dX6_hearer_66 : decode cX6_hearer 66 = .ok (.aload_n 0, 1) := by decide +kernel
theorem dX6_hearer_67 : decode cX6_hearer 67 = .ok (.getfield 175, 3) := by decide +kernel
theorem dX6_hearer_70 : decode cX6_hearer 70 = .ok (.iload_n 3, 1) := by decide +kernel
theorem dX6_hearer_71 : decode cX6_hearer 71 = .ok (.iastore, 1) := by decide +kernel
theorem dX6_hearer_72 : decode cX6_hearer 72 = .ok (.aload_n 0, 1) := by decide +kernel
theorem dX6_hearer_73 : decode cX6_hearer 73 = .ok (.getfield 34, 3) := by decide +kernel
theorem dX6_hearer_76 : decode cX6_hearer 76 = .ok (.aload_n 0, 1) := by decide +kernel
theorem dX6_hearer_77 : decode cX6_hearer 77 = .ok (.getfield 175, 3) := by decide +kernel
theorem dX6_hearer_80 : decode cX6_hearer 80 = .ok (.iconst 0, 1) := by decide +kernel
theorem dX6_hearer_81 : decode cX6_hearer 81 = .ok (.iastore, 1) := by decide +kernel
theorem dX6_hearer_82 : decode cX6_hearer 82 = .ok (.aload_n 0, 1) := by decide +kernel
theorem dX6_hearer_83 : decode cX6_hearer 83 = .ok (.dup, 1) := by decide +kernel
theorem dX6_hearer_84 : decode cX6_hearer 84 = .ok (.getfield 175, 3) := by decide +kernel
theorem dX6_hearer_87 : decode cX6_hearer 87 = .ok (.iconst 1, 1) := by decide +kernel
theorem dX6_hearer_88 : decode cX6_hearer 88 = .ok (.iadd, 1) := by decide +kernel
theorem dX6_hearer_89 : decode cX6_hearer 89 = .ok (.putfield 175, 3) := by decide +kernel
theorem dX6_hearer_92 : decode cX6_hearer 92 = .ok (.aload_n 0, 1) := by decide +kernel
theorem dX6_hearer_93 : decode cX6_hearer 93 = .ok (.getfield 175, 3) := by decide +kernel
theorem dX6_hearer_96 : decode cX6_hearer 96 = .ok (.iconst 1, 1) := by decide +kernel
theorem dX6_hearer_97 : decode cX6_hearer 97 = .ok (.isub, 1) := by decide +kernel
theorem dX6_hearer_98 : decode cX6_hearer 98 = .ok (.ireturn, 1) := by decide +kernel
theorem dX6_takes_0 : decode cX6_takes 0 = .ok (.aload_n 0, 1) := by decide +kernel
theorem dX6_takes_1 : decode cX6_takes 1 = .ok (.getfield 25, 3) := by decide +kernel
theorem dX6_takes_4 : decode cX6_takes 4 = .ok (.iload_n 1, 1) := by decide +kernel
theorem dX6_takes_5 : decode cX6_takes 5 = .ok (.iaload, 1) := by decide +kernel
theorem dX6_takes_6 : decode cX6_takes 6 = .ok (.ifCond .eq 10, 3) := by decide +kernel
theorem dX6_takes_9 : decode cX6_takes 9 = .ok (.aload_n 0, 1) := by decide +kernel
theorem dX6_takes_10 : decode cX6_takes 10 = .ok (.getfield 110, 3) := by decide +kernel
theorem dX6_takes_13 : decode cX6_takes 13 = .ok (.ifCond .ne 16, 3) := by decide +kernel
theorem dX6_takes_16 : decode cX6_takes 16 = .ok (.aload_n 0, 1) := by decide +kernel
theorem dX6_takes_17 : decode cX6_takes 17 = .ok (.getfield 110, 3) := by decide +kernel
theorem dX6_takes_20 : decode cX6_takes 20 = .ok (.ifCond .ne 7, 3) := by decide +kernel
theorem dX6_takes_23 : decode cX6_takes 23 = .ok (.iconst (-1), 1) := by decide +kernel
theorem dX6_takes_24 : decode cX6_takes 24 = .ok (.goto 4, 3) := by decide +kernel
theorem dX6_takes_27 : decode cX6_takes 27 = .ok (.iconst 0, 1) := by decide +kernel
theorem dX6_takes_28 : decode cX6_takes 28 = .ok (.ireturn, 1) := by decide +kernel
theorem dX6_takes_29 : decode cX6_takes 29 = .ok (.aload_n 0, 1) := by decide +kernel
theorem dX6_takes_30 : decode cX6_takes 30 = .ok (.getfield 25, 3) := by decide +kernel
theorem dX6_takes_33 : decode cX6_takes 33 = .ok (.iload_n 1, 1) := by decide +kernel
theorem dX6_takes_34 : decode cX6_takes 34 = .ok (.iaload, 1) := by decide +kernel
theorem dX6_takes_35 : decode cX6_takes 35 = .ok (.iconst 1, 1) := by decide +kernel
theorem dX6_takes_36 : decode cX6_takes 36 = .ok (.if_icmp .ne 10, 3) := by decide +kernel
theorem dX6_takes_39 : decode cX6_takes 39 = .ok (.aload_n 0, 1) := by decide +kernel
theorem dX6_takes_40 : decode cX6_takes 40 = .ok (.getfield 110, 3) := by decide +kernel
theorem dX6_takes_43 : decode cX6_takes 43 = .ok (.iconst 1, 1) := by decide +kernel
theorem dX6_takes_44 : decode cX6_takes 44 = .ok (.isub, 1) := by decide +kernel
theorem dX6_takes_45 : decode cX6_takes 45 = .ok (.ireturn, 1) := by decide +kernel
theorem dX6_takes_46 : decode cX6_takes 46 = .ok (.iconst 0, 1) := by decide +kernel
theorem dX6_takes_47 : decode cX6_takes 47 = .ok (.istore_n 2, 1) := by decide +kernel
theorem dX6_takes_48 : decode cX6_takes 48 = .ok (.iconst 1, 1) := by decide +kernel
theorem dX6_takes_49 : decode cX6_takes 49 = .ok (.istore_n 3, 1) := by decide +kernel
theorem dX6_takes_50 : decode cX6_takes 50 = .ok (.iload_n 3, 1) := by decide +kernel
theorem dX6_takes_51 : decode cX6_takes 51 = .ok (.aload_n 0, 1) := by decide +kernel
theorem dX6_takes_52 : decode cX6_takes 52 = .ok (.getfield 110, 3) := by decide +kernel
theorem dX6_takes_55 : decode cX6_takes 55 = .ok (.if_icmp .ge 64, 3) := by decide +kernel
theorem dX6_takes_58 : decode cX6_takes 58 = .ok (.aload_n 0, 1) := by decide +kernel
theorem dX6_takes_59 : decode cX6_takes 59 = .ok (.getfield 50, 3) := by decide +kernel
theorem dX6_takes_62 : decode cX6_takes 62 = .ok (.iload_n 3, 1) := by decide +kernel
theorem dX6_takes_63 : decode cX6_takes 63 = .ok (.laload, 1) := by decide +kernel
theorem dX6_takes_64 : decode cX6_takes 64 = .ok (.invokestatic 151, 3) := by decide +kernel
theorem dX6_takes_67 : decode cX6_takes 67 = .ok (.istore 4, 2) := by decide +kernel
theorem dX6_takes_69 : decode cX6_takes 69 = .ok (.aload_n 0, 1) := by decide +kernel
theorem dX6_takes_70 : decode cX6_takes 70 = .ok (.getfield 50, 3) := by decide +kernel
theorem dX6_takes_73 : decode cX6_takes 73 = .ok (.iload_n 2, 1) := by decide +kernel
theorem dX6_takes_74 : decode cX6_takes 74 = .ok (.laload, 1) := by decide +kernel
theorem dX6_takes_75 : decode cX6_takes 75 = .ok (.invokestatic 151, 3) := by decide +kernel
theorem dX6_takes_78 : decode cX6_takes 78 = .ok (.istore 5, 2) := by decide +kernel
theorem dX6_takes_80 : decode cX6_takes 80 = .ok (.aload_n 0, 1) := by decide +kernel
theorem dX6_takes_81 : decode cX6_takes 81 = .ok (.getfield 25, 3) := by decide +kernel
theorem dX6_takes_84 : decode cX6_takes 84 = .ok (.iload_n 1, 1) := by decide +kernel
theorem dX6_takes_85 : decode cX6_takes 85 = .ok (.iaload, 1) := by decide +kernel
theorem dX6_takes_86 : decode cX6_takes 86 = .ok (.iconst 2, 1) := by decide +kernel
theorem dX6_takes_87 : decode cX6_takes 87 = .ok (.if_icmp .ne 13, 3) := by decide +kernel
theorem dX6_takes_90 : decode cX6_takes 90 = .ok (.iload 4, 2) := by decide +kernel
theorem dX6_takes_92 : decode cX6_takes 92 = .ok (.iload 5, 2) := by decide +kernel
theorem dX6_takes_94 : decode cX6_takes 94 = .ok (.if_icmp .le 17, 3) := by decide +kernel
theorem dX6_takes_97 : decode cX6_takes 97 = .ok (.goto 10, 3) := by decide +kernel
theorem dX6_takes_100 : decode cX6_takes 100 = .ok (.iload 4, 2) := by decide +kernel
theorem dX6_takes_102 : decode cX6_takes 102 = .ok (.iload 5, 2) := by decide +kernel
theorem dX6_takes_104 : decode cX6_takes 104 = .ok (.if_icmp .ge 7, 3) := by decide +kernel
theorem dX6_takes_107 : decode cX6_takes 107 = .ok (.iload_n 3, 1) := by decide +kernel
theorem dX6_takes_108 : decode cX6_takes 108 = .ok (.goto 4, 3) := by decide +kernel
theorem dX6_takes_111 : decode cX6_takes 111 = .ok (.iload_n 2, 1) := by decide +kernel
theorem dX6_takes_112 : decode cX6_takes 112 = .ok (.istore_n 2, 1) := by decide +kernel
theorem dX6_takes_113 : decode cX6_takes 113 = .ok (.iinc 3 1, 3) := by decide +kernel
theorem dX6_takes_116 : decode cX6_takes 116 = .ok (.goto (-66), 3) := by decide +kernel
theorem dX6_takes_119 : decode cX6_takes 119 = .ok (.iload_n 2, 1) := by decide +kernel
theorem dX6_takes_120 : decode cX6_takes 120 = .ok (.ireturn, 1) := by decide +kernel
theorem dX6_actsBy_0 : decode cX6_actsBy 0 = .ok (.aload_n 0, 1) := by decide +kernel
theorem dX6_actsBy_1 : decode cX6_actsBy 1 = .ok (.getfield 50, 3) := by decide +kernel
theorem dX6_actsBy_4 : decode cX6_actsBy 4 = .ok (.iload_n 2, 1) := by decide +kernel
theorem dX6_actsBy_5 : decode cX6_actsBy 5 = .ok (.laload, 1) := by decide +kernel
theorem dX6_actsBy_6 : decode cX6_actsBy 6 = .ok (.iload_n 3, 1) := by decide +kernel
theorem dX6_actsBy_7 : decode cX6_actsBy 7 = .ok (.invokestatic 158, 3) := by decide +kernel
theorem dX6_actsBy_10 : decode cX6_actsBy 10 = .ok (.aload_n 0, 1) := by decide +kernel
theorem dX6_actsBy_11 : decode cX6_actsBy 11 = .ok (.getfield 25, 3) := by decide +kernel
theorem dX6_actsBy_14 : decode cX6_actsBy 14 = .ok (.iload_n 1, 1) := by decide +kernel
theorem dX6_actsBy_15 : decode cX6_actsBy 15 = .ok (.iaload, 1) := by decide +kernel
theorem dX6_actsBy_16 : decode cX6_actsBy 16 = .ok (.iconst 4, 1) := by decide +kernel
theorem dX6_actsBy_17 : decode cX6_actsBy 17 = .ok (.if_icmp .ne 7, 3) := by decide +kernel
theorem dX6_actsBy_20 : decode cX6_actsBy 20 = .ok (.iconst 1, 1) := by decide +kernel
theorem dX6_actsBy_21 : decode cX6_actsBy 21 = .ok (.goto 4, 3) := by decide +kernel
theorem dX6_actsBy_24 : decode cX6_actsBy 24 = .ok (.iconst 0, 1) := by decide +kernel
theorem dX6_actsBy_25 : decode cX6_actsBy 25 = .ok (.if_icmp .ne 7, 3) := by decide +kernel
theorem dX6_actsBy_28 : decode cX6_actsBy 28 = .ok (.iconst 1, 1) := by decide +kernel
theorem dX6_actsBy_29 : decode cX6_actsBy 29 = .ok (.goto 4, 3) := by decide +kernel
theorem dX6_actsBy_32 : decode cX6_actsBy 32 = .ok (.iconst 0, 1) := by decide +kernel
theorem dX6_actsBy_33 : decode cX6_actsBy 33 = .ok (.ireturn, 1) := by decide +kernel
theorem dX6_behind_0 : decode cX6_behind 0 = .ok (.aload_n 0, 1) := by decide +kernel
theorem dX6_behind_1 : decode cX6_behind 1 = .ok (.iload_n 1, 1) := by decide +kernel
theorem dX6_behind_2 : decode cX6_behind 2 = .ok (.iload_n 2, 1) := by decide +kernel
theorem dX6_behind_3 : decode cX6_behind 3 = .ok (.iload_n 3, 1) := by decide +kernel
theorem dX6_behind_4 : decode cX6_behind 4 = .ok (.invokevirtual 178, 3) := by decide +kernel
theorem dX6_behind_7 : decode cX6_behind 7 = .ok (.ifCond .eq 22, 3) := by decide +kernel
theorem dX6_behind_10 : decode cX6_behind 10 = .ok (.iload_n 3, 1) := by decide +kernel
theorem dX6_behind_11 : decode cX6_behind 11 = .ok (.aload_n 0, 1) := by decide +kernel
theorem dX6_behind_12 : decode cX6_behind 12 = .ok (.getfield 28, 3) := by decide +kernel
theorem dX6_behind_15 : decode cX6_behind 15 = .ok (.iload_n 1, 1) := by decide +kernel
theorem dX6_behind_16 : decode cX6_behind 16 = .ok (.iaload, 1) := by decide +kernel
theorem dX6_behind_17 : decode cX6_behind 17 = .ok (.aload_n 0, 1) := by decide +kernel
theorem dX6_behind_18 : decode cX6_behind 18 = .ok (.getfield 31, 3) := by decide +kernel
theorem dX6_behind_21 : decode cX6_behind 21 = .ok (.iload_n 1, 1) := by decide +kernel
theorem dX6_behind_22 : decode cX6_behind 22 = .ok (.iaload, 1) := by decide +kernel
theorem dX6_behind_23 : decode cX6_behind 23 = .ok (.invokestatic 171, 3) := by decide +kernel
theorem dX6_behind_26 : decode cX6_behind 26 = .ok (.goto 4, 3) := by decide +kernel
theorem dX6_behind_29 : decode cX6_behind 29 = .ok (.iload_n 3, 1) := by decide +kernel
theorem dX6_behind_30 : decode cX6_behind 30 = .ok (.ireturn, 1) := by decide +kernel
theorem dX6_hearerNow_0 : decode cX6_hearerNow 0 = .ok (.aload_n 0, 1) := by decide +kernel
theorem dX6_hearerNow_1 : decode cX6_hearerNow 1 = .ok (.iload_n 1, 1) := by decide +kernel
theorem dX6_hearerNow_2 : decode cX6_hearerNow 2 = .ok (.invokevirtual 181, 3) := by decide +kernel
theorem dX6_hearerNow_5 : decode cX6_hearerNow 5 = .ok (.istore_n 3, 1) := by decide +kernel
theorem dX6_hearerNow_6 : decode cX6_hearerNow 6 = .ok (.iload_n 2, 1) := by decide +kernel
theorem dX6_hearerNow_7 : decode cX6_hearerNow 7 = .ok (.tableswitch 80 0 4 #[33, 40, 47, 54, 56], 33) := by decide +kernel
theorem dX6_hearerNow_40 : decode cX6_hearerNow 40 = .ok (.aload_n 0, 1) := by decide +kernel
theorem dX6_hearerNow_41 : decode cX6_hearerNow 41 = .ok (.getfield 25, 3) := by decide +kernel
theorem dX6_hearerNow_44 : decode cX6_hearerNow 44 = .ok (.iload_n 1, 1) := by decide +kernel
theorem dX6_hearerNow_45 : decode cX6_hearerNow 45 = .ok (.iaload, 1) := by decide +kernel
theorem dX6_hearerNow_46 : decode cX6_hearerNow 46 = .ok (.ireturn, 1) := by decide +kernel
theorem dX6_hearerNow_47 : decode cX6_hearerNow 47 = .ok (.aload_n 0, 1) := by decide +kernel
theorem dX6_hearerNow_48 : decode cX6_hearerNow 48 = .ok (.getfield 28, 3) := by decide +kernel
theorem dX6_hearerNow_51 : decode cX6_hearerNow 51 = .ok (.iload_n 1, 1) := by decide +kernel
theorem dX6_hearerNow_52 : decode cX6_hearerNow 52 = .ok (.iaload, 1) := by decide +kernel
theorem dX6_hearerNow_53 : decode cX6_hearerNow 53 = .ok (.ireturn, 1) := by decide +kernel
theorem dX6_hearerNow_54 : decode cX6_hearerNow 54 = .ok (.aload_n 0, 1) := by decide +kernel
theorem dX6_hearerNow_55 : decode cX6_hearerNow 55 = .ok (.getfield 31, 3) := by decide +kernel
theorem dX6_hearerNow_58 : decode cX6_hearerNow 58 = .ok (.iload_n 1, 1) := by decide +kernel
theorem dX6_hearerNow_59 : decode cX6_hearerNow 59 = .ok (.iaload, 1) := by decide +kernel
theorem dX6_hearerNow_60 : decode cX6_hearerNow 60 = .ok (.ireturn, 1) := by decide +kernel
theorem dX6_hearerNow_61 : decode cX6_hearerNow 61 = .ok (.iload_n 3, 1) := by decide +kernel
theorem dX6_hearerNow_62 : decode cX6_hearerNow 62 = .ok (.ireturn, 1) := by decide +kernel
theorem dX6_hearerNow_63 : decode cX6_hearerNow 63 = .ok (.iload_n 3, 1) := by decide +kernel
theorem dX6_hearerNow_64 : decode cX6_hearerNow 64 = .ok (.iconst (-1), 1) := by decide +kernel
theorem dX6_hearerNow_65 : decode cX6_hearerNow 65 = .ok (.if_icmp .eq 20, 3) := by decide +kernel
theorem dX6_hearerNow_68 : decode cX6_hearerNow 68 = .ok (.aload_n 0, 1) := by decide +kernel
theorem dX6_hearerNow_69 : decode cX6_hearerNow 69 = .ok (.iload_n 1, 1) := by decide +kernel
theorem dX6_hearerNow_70 : decode cX6_hearerNow 70 = .ok (.iload_n 3, 1) := by decide +kernel
theorem dX6_hearerNow_71 : decode cX6_hearerNow 71 = .ok (.aload_n 0, 1) := by decide +kernel
theorem dX6_hearerNow_72 : decode cX6_hearerNow 72 = .ok (.getfield 162, 3) := by decide +kernel
theorem dX6_hearerNow_75 : decode cX6_hearerNow 75 = .ok (.invokevirtual 178, 3) := by decide +kernel
theorem dX6_hearerNow_78 : decode cX6_hearerNow 78 = .ok (.ifCond .eq 7, 3) := by decide +kernel
theorem dX6_hearerNow_81 : decode cX6_hearerNow 81 = .ok (.iconst 1, 1) := by decide +kernel
theorem dX6_hearerNow_82 : decode cX6_hearerNow 82 = .ok (.goto 4, 3) := by decide +kernel
theorem dX6_hearerNow_85 : decode cX6_hearerNow 85 = .ok (.iconst 0, 1) := by decide +kernel
theorem dX6_hearerNow_86 : decode cX6_hearerNow 86 = .ok (.ireturn, 1) := by decide +kernel
theorem dX6_hearerNow_87 : decode cX6_hearerNow 87 = .ok (.aload_n 0, 1) := by decide +kernel
theorem dX6_hearerNow_88 : decode cX6_hearerNow 88 = .ok (.getfield 34, 3) := by decide +kernel
theorem dX6_hearerNow_91 : decode cX6_hearerNow 91 = .ok (.iload_n 1, 1) := by decide +kernel
theorem dX6_hearerNow_92 : decode cX6_hearerNow 92 = .ok (.iaload, 1) := by decide +kernel
theorem dX6_hearerNow_93 : decode cX6_hearerNow 93 = .ok (.ireturn, 1) := by decide +kernel
theorem dX6_about_0 : decode cX6_about 0 = .ok (.aload_n 0, 1) := by decide +kernel
theorem dX6_about_1 : decode cX6_about 1 = .ok (.iload_n 1, 1) := by decide +kernel
theorem dX6_about_2 : decode cX6_about 2 = .ok (.invokevirtual 184, 3) := by decide +kernel
theorem dX6_about_5 : decode cX6_about 5 = .ok (.ifCond .ne 6, 3) := by decide +kernel
theorem dX6_about_8 : decode cX6_about 8 = .ok (.bipush (-101), 2) := by decide +kernel
theorem dX6_about_10 : decode cX6_about 10 = .ok (.ireturn, 1) := by decide +kernel
theorem dX6_about_11 : decode cX6_about 11 = .ok (.aload_n 0, 1) := by decide +kernel
theorem dX6_about_12 : decode cX6_about 12 = .ok (.aload_n 0, 1) := by decide +kernel
theorem dX6_about_13 : decode cX6_about 13 = .ok (.getfield 97, 3) := by decide +kernel
theorem dX6_about_16 : decode cX6_about 16 = .ok (.iconst 0, 1) := by decide +kernel
theorem dX6_about_17 : decode cX6_about 17 = .ok (.invokevirtual 106, 3) := by decide +kernel
theorem dX6_about_20 : decode cX6_about 20 = .ok (.iload_n 2, 1) := by decide +kernel
theorem dX6_about_21 : decode cX6_about 21 = .ok (.iconst 0, 1) := by decide +kernel
theorem dX6_about_22 : decode cX6_about 22 = .ok (.iconst 5, 1) := by decide +kernel
theorem dX6_about_23 : decode cX6_about 23 = .ok (.invokestatic 69, 3) := by decide +kernel
theorem dX6_about_26 : decode cX6_about 26 = .ok (.ifCond .eq 12, 3) := by decide +kernel
theorem dX6_about_29 : decode cX6_about 29 = .ok (.aload_n 0, 1) := by decide +kernel
theorem dX6_about_30 : decode cX6_about 30 = .ok (.iload_n 1, 1) := by decide +kernel
theorem dX6_about_31 : decode cX6_about 31 = .ok (.iload_n 2, 1) := by decide +kernel
theorem dX6_about_32 : decode cX6_about 32 = .ok (.invokevirtual 187, 3) := by decide +kernel
theorem dX6_about_35 : decode cX6_about 35 = .ok (.goto 5, 3) := by decide +kernel
theorem dX6_about_38 : decode cX6_about 38 = .ok (.bipush (-102), 2) := by decide +kernel
theorem dX6_about_40 : decode cX6_about 40 = .ok (.ireturn, 1) := by decide +kernel
theorem dX6_as_0 : decode cX6_as 0 = .ok (.aload_n 0, 1) := by decide +kernel
theorem dX6_as_1 : decode cX6_as 1 = .ok (.iload_n 1, 1) := by decide +kernel
theorem dX6_as_2 : decode cX6_as 2 = .ok (.invokevirtual 184, 3) := by decide +kernel
theorem dX6_as_5 : decode cX6_as 5 = .ok (.ifCond .ne 6, 3) := by decide +kernel
theorem dX6_as_8 : decode cX6_as 8 = .ok (.bipush (-101), 2) := by decide +kernel
theorem dX6_as_10 : decode cX6_as 10 = .ok (.ireturn, 1) := by decide +kernel
theorem dX6_as_11 : decode cX6_as 11 = .ok (.iload_n 2, 1) := by decide +kernel
theorem dX6_as_12 : decode cX6_as 12 = .ok (.iconst 0, 1) := by decide +kernel
theorem dX6_as_13 : decode cX6_as 13 = .ok (.iconst 4, 1) := by decide +kernel
theorem dX6_as_14 : decode cX6_as 14 = .ok (.invokestatic 69, 3) := by decide +kernel
theorem dX6_as_17 : decode cX6_as 17 = .ok (.ifCond .ne 6, 3) := by decide +kernel
theorem dX6_as_20 : decode cX6_as 20 = .ok (.bipush (-102), 2) := by decide +kernel
theorem dX6_as_22 : decode cX6_as 22 = .ok (.ireturn, 1) := by decide +kernel
theorem dX6_as_23 : decode cX6_as 23 = .ok (.aload_n 0, 1) := by decide +kernel
theorem dX6_as_24 : decode cX6_as 24 = .ok (.getfield 25, 3) := by decide +kernel
theorem dX6_as_27 : decode cX6_as 27 = .ok (.iload_n 1, 1) := by decide +kernel
theorem dX6_as_28 : decode cX6_as 28 = .ok (.iaload, 1) := by decide +kernel
theorem dX6_as_29 : decode cX6_as 29 = .ok (.istore_n 3, 1) := by decide +kernel
theorem dX6_as_30 : decode cX6_as 30 = .ok (.iload_n 2, 1) := by decide +kernel
theorem dX6_as_31 : decode cX6_as 31 = .ok (.ifCond .eq 18, 3) := by decide +kernel
theorem dX6_as_34 : decode cX6_as 34 = .ok (.iload_n 3, 1) := by decide +kernel
theorem dX6_as_35 : decode cX6_as 35 = .ok (.iload_n 2, 1) := by decide +kernel
theorem dX6_as_36 : decode cX6_as 36 = .ok (.if_icmp .eq 13, 3) := by decide +kernel
theorem dX6_as_39 : decode cX6_as 39 = .ok (.iload_n 2, 1) := by decide +kernel
theorem dX6_as_40 : decode cX6_as 40 = .ok (.iconst 3, 1) := by decide +kernel
theorem dX6_as_41 : decode cX6_as 41 = .ok (.if_icmp .ne 12, 3) := by decide +kernel
theorem dX6_as_44 : decode cX6_as 44 = .ok (.iload_n 3, 1) := by decide +kernel
theorem dX6_as_45 : decode cX6_as 45 = .ok (.iconst 4, 1) := by decide +kernel
theorem dX6_as_46 : decode cX6_as 46 = .ok (.if_icmp .ne 7, 3) := by decide +kernel
theorem dX6_as_49 : decode cX6_as 49 = .ok (.iload_n 1, 1) := by decide +kernel
theorem dX6_as_50 : decode cX6_as 50 = .ok (.goto 4, 3) := by decide +kernel
theorem dX6_as_53 : decode cX6_as 53 = .ok (.iconst (-1), 1) := by decide +kernel
theorem dX6_as_54 : decode cX6_as 54 = .ok (.ireturn, 1) := by decide +kernel
theorem dX6_doAct_0 : decode cX6_doAct 0 = .ok (.aload_n 0, 1) := by decide +kernel
theorem dX6_doAct_1 : decode cX6_doAct 1 = .ok (.iload_n 1, 1) := by decide +kernel
theorem dX6_doAct_2 : decode cX6_doAct 2 = .ok (.aload_n 0, 1) := by decide +kernel
theorem dX6_doAct_3 : decode cX6_doAct 3 = .ok (.iload_n 1, 1) := by decide +kernel
theorem dX6_doAct_4 : decode cX6_doAct 4 = .ok (.invokevirtual 181, 3) := by decide +kernel
theorem dX6_doAct_7 : decode cX6_doAct 7 = .ok (.aload_n 0, 1) := by decide +kernel
theorem dX6_doAct_8 : decode cX6_doAct 8 = .ok (.getfield 162, 3) := by decide +kernel
theorem dX6_doAct_11 : decode cX6_doAct 11 = .ok (.invokevirtual 190, 3) := by decide +kernel
theorem dX6_doAct_14 : decode cX6_doAct 14 = .ok (.istore_n 2, 1) := by decide +kernel
theorem dX6_doAct_15 : decode cX6_doAct 15 = .ok (.aload_n 0, 1) := by decide +kernel
theorem dX6_doAct_16 : decode cX6_doAct 16 = .ok (.getfield 34, 3) := by decide +kernel
theorem dX6_doAct_19 : decode cX6_doAct 19 = .ok (.iload_n 1, 1) := by decide +kernel
theorem dX6_doAct_20 : decode cX6_doAct 20 = .ok (.dup2, 1) := by decide +kernel
theorem dX6_doAct_21 : decode cX6_doAct 21 = .ok (.iaload, 1) := by decide +kernel
theorem dX6_doAct_22 : decode cX6_doAct 22 = .ok (.iload_n 2, 1) := by decide +kernel
theorem dX6_doAct_23 : decode cX6_doAct 23 = .ok (.aload_n 0, 1) := by decide +kernel
theorem dX6_doAct_24 : decode cX6_doAct 24 = .ok (.getfield 162, 3) := by decide +kernel
theorem dX6_doAct_27 : decode cX6_doAct 27 = .ok (.if_icmp .ne 7, 3) := by decide +kernel
theorem dX6_doAct_30 : decode cX6_doAct 30 = .ok (.iconst 0, 1) := by decide +kernel
theorem dX6_doAct_31 : decode cX6_doAct 31 = .ok (.goto 4, 3) := by decide +kernel
theorem dX6_doAct_34 : decode cX6_doAct 34 = .ok (.iconst 1, 1) := by decide +kernel
theorem dX6_doAct_35 : decode cX6_doAct 35 = .ok (.iadd, 1) := by decide +kernel
theorem dX6_doAct_36 : decode cX6_doAct 36 = .ok (.iastore, 1) := by decide +kernel
theorem dX6_doAct_37 : decode cX6_doAct 37 = .ok (.aload_n 0, 1) := by decide +kernel
theorem dX6_doAct_38 : decode cX6_doAct 38 = .ok (.iload_n 2, 1) := by decide +kernel
theorem dX6_doAct_39 : decode cX6_doAct 39 = .ok (.putfield 162, 3) := by decide +kernel
theorem dX6_doAct_42 : decode cX6_doAct 42 = .ok (.return_, 1) := by decide +kernel
theorem dX6_act_0 : decode cX6_act 0 = .ok (.aload_n 0, 1) := by decide +kernel
theorem dX6_act_1 : decode cX6_act 1 = .ok (.iload_n 1, 1) := by decide +kernel
theorem dX6_act_2 : decode cX6_act 2 = .ok (.invokevirtual 184, 3) := by decide +kernel
theorem dX6_act_5 : decode cX6_act 5 = .ok (.ifCond .ne 6, 3) := by decide +kernel
theorem dX6_act_8 : decode cX6_act 8 = .ok (.bipush (-101), 2) := by decide +kernel
theorem dX6_act_10 : decode cX6_act 10 = .ok (.ireturn, 1) := by decide +kernel
theorem dX6_act_11 : decode cX6_act 11 = .ok (.aload_n 0, 1) := by decide +kernel
theorem dX6_act_12 : decode cX6_act 12 = .ok (.getfield 97, 3) := by decide +kernel
theorem dX6_act_15 : decode cX6_act 15 = .ok (.ifCond .ne 6, 3) := by decide +kernel
theorem dX6_act_18 : decode cX6_act 18 = .ok (.bipush (-103), 2) := by decide +kernel
theorem dX6_act_20 : decode cX6_act 20 = .ok (.ireturn, 1) := by decide +kernel
theorem dX6_act_21 : decode cX6_act 21 = .ok (.aload_n 0, 1) := by decide +kernel
theorem dX6_act_22 : decode cX6_act 22 = .ok (.aload_n 0, 1) := by decide +kernel
theorem dX6_act_23 : decode cX6_act 23 = .ok (.getfield 97, 3) := by decide +kernel
theorem dX6_act_26 : decode cX6_act 26 = .ok (.iconst 0, 1) := by decide +kernel
theorem dX6_act_27 : decode cX6_act 27 = .ok (.invokevirtual 106, 3) := by decide +kernel
theorem dX6_act_30 : decode cX6_act 30 = .ok (.aload_n 0, 1) := by decide +kernel
theorem dX6_act_31 : decode cX6_act 31 = .ok (.iload_n 1, 1) := by decide +kernel
theorem dX6_act_32 : decode cX6_act 32 = .ok (.invokevirtual 193, 3) := by decide +kernel
theorem dX6_act_35 : decode cX6_act 35 = .ok (.aload_n 0, 1) := by decide +kernel
theorem dX6_act_36 : decode cX6_act 36 = .ok (.getfield 162, 3) := by decide +kernel
theorem dX6_act_39 : decode cX6_act 39 = .ok (.ireturn, 1) := by decide +kernel
theorem dX6_round_0 : decode cX6_round 0 = .ok (.aload_n 0, 1) := by decide +kernel
theorem dX6_round_1 : decode cX6_round 1 = .ok (.getfield 97, 3) := by decide +kernel
theorem dX6_round_4 : decode cX6_round 4 = .ok (.ifCond .ne 6, 3) := by decide +kernel
theorem dX6_round_7 : decode cX6_round 7 = .ok (.bipush (-103), 2) := by decide +kernel
theorem dX6_round_9 : decode cX6_round 9 = .ok (.ireturn, 1) := by decide +kernel
theorem dX6_round_10 : decode cX6_round 10 = .ok (.aload_n 0, 1) := by decide +kernel
theorem dX6_round_11 : decode cX6_round 11 = .ok (.aload_n 0, 1) := by decide +kernel
theorem dX6_round_12 : decode cX6_round 12 = .ok (.getfield 97, 3) := by decide +kernel
theorem dX6_round_15 : decode cX6_round 15 = .ok (.iconst 0, 1) := by decide +kernel
theorem dX6_round_16 : decode cX6_round 16 = .ok (.invokevirtual 106, 3) := by decide +kernel
theorem dX6_round_19 : decode cX6_round 19 = .ok (.iconst 0, 1) := by decide +kernel
theorem dX6_round_20 : decode cX6_round 20 = .ok (.istore_n 1, 1) := by decide +kernel
theorem dX6_round_21 : decode cX6_round 21 = .ok (.iload_n 1, 1) := by decide +kernel
theorem dX6_round_22 : decode cX6_round 22 = .ok (.aload_n 0, 1) := by decide +kernel
theorem dX6_round_23 : decode cX6_round 23 = .ok (.getfield 175, 3) := by decide +kernel
theorem dX6_round_26 : decode cX6_round 26 = .ok (.if_icmp .ge 14, 3) := by decide +kernel
theorem dX6_round_29 : decode cX6_round 29 = .ok (.aload_n 0, 1) := by decide +kernel
theorem dX6_round_30 : decode cX6_round 30 = .ok (.iload_n 1, 1) := by decide +kernel
theorem dX6_round_31 : decode cX6_round 31 = .ok (.invokevirtual 193, 3) := by decide +kernel
theorem dX6_round_34 : decode cX6_round 34 = .ok (.iinc 1 1, 3) := by decide +kernel
theorem dX6_round_37 : decode cX6_round 37 = .ok (.goto (-16), 3) := by decide +kernel
theorem dX6_round_40 : decode cX6_round 40 = .ok (.aload_n 0, 1) := by decide +kernel
theorem dX6_round_41 : decode cX6_round 41 = .ok (.dup, 1) := by decide +kernel
theorem dX6_round_42 : decode cX6_round 42 = .ok (.getfield 197, 3) := by decide +kernel
theorem dX6_round_45 : decode cX6_round 45 = .ok (.iconst 1, 1) := by decide +kernel
theorem dX6_round_46 : decode cX6_round 46 = .ok (.iadd, 1) := by decide +kernel
theorem dX6_round_47 : decode cX6_round 47 = .ok (.putfield 197, 3) := by decide +kernel
theorem dX6_round_50 : decode cX6_round 50 = .ok (.aload_n 0, 1) := by decide +kernel
theorem dX6_round_51 : decode cX6_round 51 = .ok (.getfield 162, 3) := by decide +kernel
theorem dX6_round_54 : decode cX6_round 54 = .ok (.ireturn, 1) := by decide +kernel
theorem dX6_layTakes_0 : decode cX6_layTakes 0 = .ok (.iconst 0, 1) := by decide +kernel
theorem dX6_layTakes_1 : decode cX6_layTakes 1 = .ok (.istore_n 1, 1) := by decide +kernel
theorem dX6_layTakes_2 : decode cX6_layTakes 2 = .ok (.iload_n 1, 1) := by decide +kernel
theorem dX6_layTakes_3 : decode cX6_layTakes 3 = .ok (.aload_n 0, 1) := by decide +kernel
theorem dX6_layTakes_4 : decode cX6_layTakes 4 = .ok (.getfield 175, 3) := by decide +kernel
theorem dX6_layTakes_7 : decode cX6_layTakes 7 = .ok (.if_icmp .ge 20, 3) := by decide +kernel
theorem dX6_layTakes_10 : decode cX6_layTakes 10 = .ok (.aload_n 0, 1) := by decide +kernel
theorem dX6_layTakes_11 : decode cX6_layTakes 11 = .ok (.getfield 60, 3) := by decide +kernel
theorem dX6_layTakes_14 : decode cX6_layTakes 14 = .ok (.iload_n 1, 1) := by decide +kernel
theorem dX6_layTakes_15 : decode cX6_layTakes 15 = .ok (.aload_n 0, 1) := by decide +kernel
theorem dX6_layTakes_16 : decode cX6_layTakes 16 = .ok (.iload_n 1, 1) := by decide +kernel
theorem dX6_layTakes_17 : decode cX6_layTakes 17 = .ok (.invokevirtual 181, 3) := by decide +kernel
theorem dX6_layTakes_20 : decode cX6_layTakes 20 = .ok (.iastore, 1) := by decide +kernel
theorem dX6_layTakes_21 : decode cX6_layTakes 21 = .ok (.iinc 1 1, 3) := by decide +kernel
theorem dX6_layTakes_24 : decode cX6_layTakes 24 = .ok (.goto (-22), 3) := by decide +kernel
theorem dX6_layTakes_27 : decode cX6_layTakes 27 = .ok (.return_, 1) := by decide +kernel
theorem dX6_roundFrom_0 : decode cX6_roundFrom 0 = .ok (.iload_n 1, 1) := by decide +kernel
theorem dX6_roundFrom_1 : decode cX6_roundFrom 1 = .ok (.istore_n 2, 1) := by decide +kernel
theorem dX6_roundFrom_2 : decode cX6_roundFrom 2 = .ok (.iconst 0, 1) := by decide +kernel
theorem dX6_roundFrom_3 : decode cX6_roundFrom 3 = .ok (.istore_n 3, 1) := by decide +kernel
theorem dX6_roundFrom_4 : decode cX6_roundFrom 4 = .ok (.iload_n 3, 1) := by decide +kernel
theorem dX6_roundFrom_5 : decode cX6_roundFrom 5 = .ok (.aload_n 0, 1) := by decide +kernel
theorem dX6_roundFrom_6 : decode cX6_roundFrom 6 = .ok (.getfield 175, 3) := by decide +kernel
theorem dX6_roundFrom_9 : decode cX6_roundFrom 9 = .ok (.if_icmp .ge 22, 3) := by decide +kernel
theorem dX6_roundFrom_12 : decode cX6_roundFrom 12 = .ok (.aload_n 0, 1) := by decide +kernel
theorem dX6_roundFrom_13 : decode cX6_roundFrom 13 = .ok (.iload_n 3, 1) := by decide +kernel
theorem dX6_roundFrom_14 : decode cX6_roundFrom 14 = .ok (.aload_n 0, 1) := by decide +kernel
theorem dX6_roundFrom_15 : decode cX6_roundFrom 15 = .ok (.getfield 60, 3) := by decide +kernel
theorem dX6_roundFrom_18 : decode cX6_roundFrom 18 = .ok (.iload_n 3, 1) := by decide +kernel
theorem dX6_roundFrom_19 : decode cX6_roundFrom 19 = .ok (.iaload, 1) := by decide +kernel
theorem dX6_roundFrom_20 : decode cX6_roundFrom 20 = .ok (.iload_n 2, 1) := by decide +kernel
theorem dX6_roundFrom_21 : decode cX6_roundFrom 21 = .ok (.invokevirtual 190, 3) := by decide +kernel
theorem dX6_roundFrom_24 : decode cX6_roundFrom 24 = .ok (.istore_n 2, 1) := by decide +kernel
theorem dX6_roundFrom_25 : decode cX6_roundFrom 25 = .ok (.iinc 3 1, 3) := by decide +kernel
theorem dX6_roundFrom_28 : decode cX6_roundFrom 28 = .ok (.goto (-24), 3) := by decide +kernel
theorem dX6_roundFrom_31 : decode cX6_roundFrom 31 = .ok (.iload_n 2, 1) := by decide +kernel
theorem dX6_roundFrom_32 : decode cX6_roundFrom 32 = .ok (.ireturn, 1) := by decide +kernel
theorem dX6_some_0 : decode cX6_some 0 = .ok (.lconst 0, 1) := by decide +kernel
theorem dX6_some_1 : decode cX6_some 1 = .ok (.lstore_n 1, 1) := by decide +kernel
theorem dX6_some_2 : decode cX6_some 2 = .ok (.iconst 0, 1) := by decide +kernel
theorem dX6_some_3 : decode cX6_some 3 = .ok (.istore_n 3, 1) := by decide +kernel
theorem dX6_some_4 : decode cX6_some 4 = .ok (.iload_n 3, 1) := by decide +kernel
theorem dX6_some_5 : decode cX6_some 5 = .ok (.aload_n 0, 1) := by decide +kernel
theorem dX6_some_6 : decode cX6_some 6 = .ok (.getfield 110, 3) := by decide +kernel
theorem dX6_some_9 : decode cX6_some 9 = .ok (.if_icmp .ge 18, 3) := by decide +kernel
theorem dX6_some_12 : decode cX6_some 12 = .ok (.lload_n 1, 1) := by decide +kernel
theorem dX6_some_13 : decode cX6_some 13 = .ok (.aload_n 0, 1) := by decide +kernel
theorem dX6_some_14 : decode cX6_some 14 = .ok (.getfield 50, 3) := by decide +kernel
theorem dX6_some_17 : decode cX6_some 17 = .ok (.iload_n 3, 1) := by decide +kernel
theorem dX6_some_18 : decode cX6_some 18 = .ok (.laload, 1) := by decide +kernel
theorem dX6_some_19 : decode cX6_some 19 = .ok (.lor, 1) := by decide +kernel
theorem dX6_some_20 : decode cX6_some 20 = .ok (.lstore_n 1, 1) := by decide +kernel
theorem dX6_some_21 : decode cX6_some 21 = .ok (.iinc 3 1, 3) := by decide +kernel
theorem dX6_some_24 : decode cX6_some 24 = .ok (.goto (-20), 3) := by decide +kernel
theorem dX6_some_27 : decode cX6_some 27 = .ok (.lload_n 1, 1) := by decide +kernel
theorem dX6_some_28 : decode cX6_some 28 = .ok (.lreturn, 1) := by decide +kernel
theorem dX6_anyhowNow_0 : decode cX6_anyhowNow 0 = .ok (.aload_n 0, 1) := by decide +kernel
theorem dX6_anyhowNow_1 : decode cX6_anyhowNow 1 = .ok (.aload_n 0, 1) := by decide +kernel
theorem dX6_anyhowNow_2 : decode cX6_anyhowNow 2 = .ok (.getfield 97, 3) := by decide +kernel
theorem dX6_anyhowNow_5 : decode cX6_anyhowNow 5 = .ok (.iconst 0, 1) := by decide +kernel
theorem dX6_anyhowNow_6 : decode cX6_anyhowNow 6 = .ok (.invokevirtual 106, 3) := by decide +kernel
theorem dX6_anyhowNow_9 : decode cX6_anyhowNow 9 = .ok (.aload_n 0, 1) := by decide +kernel
theorem dX6_anyhowNow_10 : decode cX6_anyhowNow 10 = .ok (.invokevirtual 200, 3) := by decide +kernel
theorem dX6_anyhowNow_13 : decode cX6_anyhowNow 13 = .ok (.aload_n 0, 1) := by decide +kernel
theorem dX6_anyhowNow_14 : decode cX6_anyhowNow 14 = .ok (.invokevirtual 203, 3) := by decide +kernel
theorem dX6_anyhowNow_17 : decode cX6_anyhowNow 17 = .ok (.lstore_n 1, 1) := by decide +kernel
theorem dX6_anyhowNow_18 : decode cX6_anyhowNow 18 = .ok (.iconst 0, 1) := by decide +kernel
theorem dX6_anyhowNow_19 : decode cX6_anyhowNow 19 = .ok (.istore_n 3, 1) := by decide +kernel
theorem dX6_anyhowNow_20 : decode cX6_anyhowNow 20 = .ok (.iconst 0, 1) := by decide +kernel
theorem dX6_anyhowNow_21 : decode cX6_anyhowNow 21 = .ok (.istore 4, 2) := by decide +kernel
theorem dX6_anyhowNow_23 : decode cX6_anyhowNow 23 = .ok (.iload 4, 2) := by decide +kernel
theorem dX6_anyhowNow_25 : decode cX6_anyhowNow 25 = .ok (.bipush 64, 2) := by decide +kernel
theorem dX6_anyhowNow_27 : decode cX6_anyhowNow 27 = .ok (.if_icmp .ge 30, 3) := by decide +kernel
theorem dX6_anyhowNow_30 : decode cX6_anyhowNow 30 = .ok (.iload_n 3, 1) := by decide +kernel
theorem dX6_anyhowNow_31 : decode cX6_anyhowNow 31 = .ok (.lload_n 1, 1) := by decide +kernel
theorem dX6_anyhowNow_32 : decode cX6_anyhowNow 32 = .ok (.aload_n 0, 1) := by decide +kernel
theorem dX6_anyhowNow_33 : decode cX6_anyhowNow 33 = .ok (.iload 4, 2) := by decide +kernel
theorem dX6_anyhowNow_35 : decode cX6_anyhowNow 35 = .ok (.invokevirtual 207, 3) := by decide +kernel
theorem dX6_anyhowNow_38 : decode cX6_anyhowNow 38 = .ok (.invokestatic 158, 3) := by decide +kernel
theorem dX6_anyhowNow_41 : decode cX6_anyhowNow 41 = .ok (.ifCond .eq 7, 3) := by decide +kernel
theorem dX6_anyhowNow_44 : decode cX6_anyhowNow 44 = .ok (.iconst 1, 1) := by decide +kernel
theorem dX6_anyhowNow_45 : decode cX6_anyhowNow 45 = .ok (.goto 4, 3) := by decide +kernel
theorem dX6_anyhowNow_48 : decode cX6_anyhowNow 48 = .ok (.iconst 0, 1) := by decide +kernel
theorem dX6_anyhowNow_49 : decode cX6_anyhowNow 49 = .ok (.iadd, 1) := by decide +kernel
theorem dX6_anyhowNow_50 : decode cX6_anyhowNow 50 = .ok (.istore_n 3, 1) := by decide +kernel
theorem dX6_anyhowNow_51 : decode cX6_anyhowNow 51 = .ok (.iinc 4 1, 3) := by decide +kernel
theorem dX6_anyhowNow_54 : decode cX6_anyhowNow 54 = .ok (.goto (-31), 3) := by decide +kernel
theorem dX6_anyhowNow_57 : decode cX6_anyhowNow 57 = .ok (.iload_n 3, 1) := by decide +kernel
theorem dX6_anyhowNow_58 : decode cX6_anyhowNow 58 = .ok (.ireturn, 1) := by decide +kernel
theorem dX6_anyhow_0 : decode cX6_anyhow 0 = .ok (.aload_n 0, 1) := by decide +kernel
theorem dX6_anyhow_1 : decode cX6_anyhow 1 = .ok (.getfield 97, 3) := by decide +kernel
theorem dX6_anyhow_4 : decode cX6_anyhow 4 = .ok (.ifCond .ne 8, 3) := by decide +kernel
theorem dX6_anyhow_7 : decode cX6_anyhow 7 = .ok (.bipush (-103), 2) := by decide +kernel
theorem dX6_anyhow_9 : decode cX6_anyhow 9 = .ok (.goto 7, 3) := by decide +kernel
theorem dX6_anyhow_12 : decode cX6_anyhow 12 = .ok (.aload_n 0, 1) := by decide +kernel
theorem dX6_anyhow_13 : decode cX6_anyhow 13 = .ok (.invokevirtual 210, 3) := by decide +kernel
theorem dX6_anyhow_16 : decode cX6_anyhow 16 = .ok (.ireturn, 1) := by decide +kernel
theorem dX6_leftNow_0 : decode cX6_leftNow 0 = .ok (.ldc2_w 134, 3) := by decide +kernel
theorem dX6_leftNow_3 : decode cX6_leftNow 3 = .ok (.lstore_n 2, 1) := by decide +kernel
theorem dX6_leftNow_4 : decode cX6_leftNow 4 = .ok (.aload_n 0, 1) := by decide +kernel
theorem dX6_leftNow_5 : decode cX6_leftNow 5 = .ok (.getfield 100, 3) := by decide +kernel
theorem dX6_leftNow_8 : decode cX6_leftNow 8 = .ok (.ifCond .le 17, 3) := by decide +kernel
theorem dX6_leftNow_11 : decode cX6_leftNow 11 = .ok (.aload_n 0, 1) := by decide +kernel
theorem dX6_leftNow_12 : decode cX6_leftNow 12 = .ok (.aload_n 0, 1) := by decide +kernel
theorem dX6_leftNow_13 : decode cX6_leftNow 13 = .ok (.getfield 100, 3) := by decide +kernel
theorem dX6_leftNow_16 : decode cX6_leftNow 16 = .ok (.iconst 1, 1) := by decide +kernel
theorem dX6_leftNow_17 : decode cX6_leftNow 17 = .ok (.invokevirtual 106, 3) := by decide +kernel
theorem dX6_leftNow_20 : decode cX6_leftNow 20 = .ok (.aload_n 0, 1) := by decide +kernel
theorem dX6_leftNow_21 : decode cX6_leftNow 21 = .ok (.invokevirtual 203, 3) := by decide +kernel
theorem dX6_leftNow_24 : decode cX6_leftNow 24 = .ok (.lstore_n 2, 1) := by decide +kernel
theorem dX6_leftNow_25 : decode cX6_leftNow 25 = .ok (.aload_n 0, 1) := by decide +kernel
theorem dX6_leftNow_26 : decode cX6_leftNow 26 = .ok (.aload_n 0, 1) := by decide +kernel
theorem dX6_leftNow_27 : decode cX6_leftNow 27 = .ok (.getfield 97, 3) := by decide +kernel
theorem dX6_leftNow_30 : decode cX6_leftNow 30 = .ok (.iconst 0, 1) := by decide +kernel
theorem dX6_leftNow_31 : decode cX6_leftNow 31 = .ok (.invokevirtual 106, 3) := by decide +kernel
theorem dX6_leftNow_34 : decode cX6_leftNow 34 = .ok (.lload_n 2, 1) := by decide +kernel
theorem dX6_leftNow_35 : decode cX6_leftNow 35 = .ok (.aload_n 0, 1) := by decide +kernel
theorem dX6_leftNow_36 : decode cX6_leftNow 36 = .ok (.invokevirtual 203, 3) := by decide +kernel
theorem dX6_leftNow_39 : decode cX6_leftNow 39 = .ok (.land, 1) := by decide +kernel
theorem dX6_leftNow_40 : decode cX6_leftNow 40 = .ok (.lstore_n 2, 1) := by decide +kernel
theorem dX6_leftNow_41 : decode cX6_leftNow 41 = .ok (.iload_n 1, 1) := by decide +kernel
theorem dX6_leftNow_42 : decode cX6_leftNow 42 = .ok (.ifCond .ne 8, 3) := by decide +kernel
theorem dX6_leftNow_45 : decode cX6_leftNow 45 = .ok (.lload_n 2, 1) := by decide +kernel
theorem dX6_leftNow_46 : decode cX6_leftNow 46 = .ok (.invokestatic 151, 3) := by decide +kernel
theorem dX6_leftNow_49 : decode cX6_leftNow 49 = .ok (.ireturn, 1) := by decide +kernel
theorem dX6_leftNow_50 : decode cX6_leftNow 50 = .ok (.iconst 0, 1) := by decide +kernel
theorem dX6_leftNow_51 : decode cX6_leftNow 51 = .ok (.istore 4, 2) := by decide +kernel
theorem dX6_leftNow_53 : decode cX6_leftNow 53 = .ok (.iconst 0, 1) := by decide +kernel
theorem dX6_leftNow_54 : decode cX6_leftNow 54 = .ok (.istore 5, 2) := by decide +kernel
theorem dX6_leftNow_56 : decode cX6_leftNow 56 = .ok (.iload 5, 2) := by decide +kernel
theorem dX6_leftNow_58 : decode cX6_leftNow 58 = .ok (.bipush 6, 2) := by decide +kernel
theorem dX6_leftNow_60 : decode cX6_leftNow 60 = .ok (.if_icmp .ge 47, 3) := by decide +kernel
theorem dX6_leftNow_63 : decode cX6_leftNow 63 = .ok (.lload_n 2, 1) := by decide +kernel
theorem dX6_leftNow_64 : decode cX6_leftNow 64 = .ok (.iload 5, 2) := by decide +kernel
theorem dX6_leftNow_66 : decode cX6_leftNow 66 = .ok (.invokestatic 130, 3) := by decide +kernel
theorem dX6_leftNow_69 : decode cX6_leftNow 69 = .ok (.land, 1) := by decide +kernel
theorem dX6_leftNow_70 : decode cX6_leftNow 70 = .ok (.lstore 6, 2) := by decide +kernel
theorem dX6_leftNow_72 : decode cX6_leftNow 72 = .ok (.iload 4, 2) := by decide +kernel
theorem dX6_leftNow_74 : decode cX6_leftNow 74 = .ok (.lload 6, 2) := by decide +kernel
theorem dX6_leftNow_76 : decode cX6_leftNow 76 = .ok (.iload_n 1, 1) := by decide +kernel
theorem dX6_leftNow_77 : decode cX6_leftNow 77 = .ok (.iconst 1, 1) := by decide +kernel
theorem dX6_leftNow_78 : decode cX6_leftNow 78 = .ok (.if_icmp .ne 7, 3) := by decide +kernel
theorem dX6_leftNow_81 : decode cX6_leftNow 81 = .ok (.lload_n 2, 1) := by decide +kernel
theorem dX6_leftNow_82 : decode cX6_leftNow 82 = .ok (.goto 4, 3) := by decide +kernel
theorem dX6_leftNow_85 : decode cX6_leftNow 85 = .ok (.lconst 0, 1) := by decide +kernel
theorem dX6_leftNow_86 : decode cX6_leftNow 86 = .ok (.lcmp, 1) := by decide +kernel
theorem dX6_leftNow_87 : decode cX6_leftNow 87 = .ok (.ifCond .ne 10, 3) := by decide +kernel
theorem dX6_leftNow_90 : decode cX6_leftNow 90 = .ok (.iconst 1, 1) := by decide +kernel
theorem dX6_leftNow_91 : decode cX6_leftNow 91 = .ok (.iload 5, 2) := by decide +kernel
theorem dX6_leftNow_93 : decode cX6_leftNow 93 = .ok (.ishl, 1) := by decide +kernel
theorem dX6_leftNow_94 : decode cX6_leftNow 94 = .ok (.goto 4, 3) := by decide +kernel
theorem dX6_leftNow_97 : decode cX6_leftNow 97 = .ok (.iconst 0, 1) := by decide +kernel
theorem dX6_leftNow_98 : decode cX6_leftNow 98 = .ok (.ior, 1) := by decide +kernel
theorem dX6_leftNow_99 : decode cX6_leftNow 99 = .ok (.istore 4, 2) := by decide +kernel
theorem dX6_leftNow_101 : decode cX6_leftNow 101 = .ok (.iinc 5 1, 3) := by decide +kernel
theorem dX6_leftNow_104 : decode cX6_leftNow 104 = .ok (.goto (-48), 3) := by decide +kernel
theorem dX6_leftNow_107 : decode cX6_leftNow 107 = .ok (.iload 4, 2) := by decide +kernel
theorem dX6_leftNow_109 : decode cX6_leftNow 109 = .ok (.ireturn, 1) := by decide +kernel
theorem dX6_left_0 : decode cX6_left 0 = .ok (.iload_n 1, 1) := by decide +kernel
theorem dX6_left_1 : decode cX6_left 1 = .ok (.iconst 0, 1) := by decide +kernel
theorem dX6_left_2 : decode cX6_left 2 = .ok (.iconst 2, 1) := by decide +kernel
theorem dX6_left_3 : decode cX6_left 3 = .ok (.invokestatic 69, 3) := by decide +kernel
theorem dX6_left_6 : decode cX6_left 6 = .ok (.ifCond .ne 6, 3) := by decide +kernel
theorem dX6_left_9 : decode cX6_left 9 = .ok (.bipush (-102), 2) := by decide +kernel
theorem dX6_left_11 : decode cX6_left 11 = .ok (.ireturn, 1) := by decide +kernel
theorem dX6_left_12 : decode cX6_left 12 = .ok (.aload_n 0, 1) := by decide +kernel
theorem dX6_left_13 : decode cX6_left 13 = .ok (.getfield 97, 3) := by decide +kernel
theorem dX6_left_16 : decode cX6_left 16 = .ok (.ifCond .ne 8, 3) := by decide +kernel
theorem dX6_left_19 : decode cX6_left 19 = .ok (.bipush (-103), 2) := by decide +kernel
theorem dX6_left_21 : decode cX6_left 21 = .ok (.goto 8, 3) := by decide +kernel
theorem dX6_left_24 : decode cX6_left 24 = .ok (.aload_n 0, 1) := by decide +kernel
theorem dX6_left_25 : decode cX6_left 25 = .ok (.iload_n 1, 1) := by decide +kernel
theorem dX6_left_26 : decode cX6_left 26 = .ok (.invokevirtual 214, 3) := by decide +kernel
theorem dX6_left_29 : decode cX6_left 29 = .ok (.ireturn, 1) := by decide +kernel
theorem dX6_askNow_0 : decode cX6_askNow 0 = .ok (.aload_n 0, 1) := by decide +kernel
theorem dX6_askNow_1 : decode cX6_askNow 1 = .ok (.aload_n 0, 1) := by decide +kernel
theorem dX6_askNow_2 : decode cX6_askNow 2 = .ok (.getfield 97, 3) := by decide +kernel
theorem dX6_askNow_5 : decode cX6_askNow 5 = .ok (.iconst 0, 1) := by decide +kernel
theorem dX6_askNow_6 : decode cX6_askNow 6 = .ok (.invokevirtual 106, 3) := by decide +kernel
theorem dX6_askNow_9 : decode cX6_askNow 9 = .ok (.aload_n 0, 1) := by decide +kernel
theorem dX6_askNow_10 : decode cX6_askNow 10 = .ok (.invokevirtual 203, 3) := by decide +kernel
theorem dX6_askNow_13 : decode cX6_askNow 13 = .ok (.lstore_n 1, 1) := by decide +kernel
theorem dX6_askNow_14 : decode cX6_askNow 14 = .ok (.iconst (-1), 1) := by decide +kernel
theorem dX6_askNow_15 : decode cX6_askNow 15 = .ok (.istore_n 3, 1) := by decide +kernel
theorem dX6_askNow_16 : decode cX6_askNow 16 = .ok (.bipush 65, 2) := by decide +kernel
theorem dX6_askNow_18 : decode cX6_askNow 18 = .ok (.istore 4, 2) := by decide +kernel
theorem dX6_askNow_20 : decode cX6_askNow 20 = .ok (.iconst 0, 1) := by decide +kernel
theorem dX6_askNow_21 : decode cX6_askNow 21 = .ok (.istore 5, 2) := by decide +kernel
theorem dX6_askNow_23 : decode cX6_askNow 23 = .ok (.iload 5, 2) := by decide +kernel
theorem dX6_askNow_25 : decode cX6_askNow 25 = .ok (.bipush 6, 2) := by decide +kernel
theorem dX6_askNow_27 : decode cX6_askNow 27 = .ok (.if_icmp .ge 76, 3) := by decide +kernel
theorem dX6_askNow_30 : decode cX6_askNow 30 = .ok (.lload_n 1, 1) := by decide +kernel
theorem dX6_askNow_31 : decode cX6_askNow 31 = .ok (.iload 5, 2) := by decide +kernel
theorem dX6_askNow_33 : decode cX6_askNow 33 = .ok (.invokestatic 130, 3) := by decide +kernel
theorem dX6_askNow_36 : decode cX6_askNow 36 = .ok (.land, 1) := by decide +kernel
theorem dX6_askNow_37 : decode cX6_askNow 37 = .ok (.invokestatic 151, 3) := by decide +kernel
theorem dX6_askNow_40 : decode cX6_askNow 40 = .ok (.istore 6, 2) := by decide +kernel
theorem dX6_askNow_42 : decode cX6_askNow 42 = .ok (.lload_n 1, 1) := by decide +kernel
theorem dX6_askNow_43 : decode cX6_askNow 43 = .ok (.invokestatic 151, 3) := by decide +kernel
theorem dX6_askNow_46 : decode cX6_askNow 46 = .ok (.iload 6, 2) := by decide +kernel
theorem dX6_askNow_48 : decode cX6_askNow 48 = .ok (.isub, 1) := by decide +kernel
theorem dX6_askNow_49 : decode cX6_askNow 49 = .ok (.istore 7, 2) := by decide +kernel
theorem dX6_askNow_51 : decode cX6_askNow 51 = .ok (.iload 6, 2) := by decide +kernel
theorem dX6_askNow_53 : decode cX6_askNow 53 = .ok (.iload 7, 2) := by decide +kernel
theorem dX6_askNow_55 : decode cX6_askNow 55 = .ok (.if_icmp .le 8, 3) := by decide +kernel
theorem dX6_askNow_58 : decode cX6_askNow 58 = .ok (.iload 6, 2) := by decide +kernel
theorem dX6_askNow_60 : decode cX6_askNow 60 = .ok (.goto 5, 3) := by decide +kernel
theorem dX6_askNow_63 : decode cX6_askNow 63 = .ok (.iload 7, 2) := by decide +kernel
theorem dX6_askNow_65 : decode cX6_askNow 65 = .ok (.istore 8, 2) := by decide +kernel
theorem dX6_askNow_67 : decode cX6_askNow 67 = .ok (.iload 8, 2) := by decide +kernel
theorem dX6_askNow_69 : decode cX6_askNow 69 = .ok (.iload 4, 2) := by decide +kernel
theorem dX6_askNow_71 : decode cX6_askNow 71 = .ok (.if_icmp .ge 8, 3) := by decide +kernel
theorem dX6_askNow_74 : decode cX6_askNow 74 = .ok (.iload 5, 2) := by decide +kernel
theorem dX6_askNow_76 : decode cX6_askNow 76 = .ok (.goto 4, 3) := by decide +kernel
theorem dX6_askNow_79 : decode cX6_askNow 79 = .ok (.iload_n 3, 1) := by decide +kernel
theorem dX6_askNow_80 : decode cX6_askNow 80 = .ok (.istore_n 3, 1) := by decide +kernel
theorem dX6_askNow_81 : decode cX6_askNow 81 = .ok (.iload 8, 2) := by decide +kernel
theorem dX6_askNow_83 : decode cX6_askNow 83 = .ok (.iload 4, 2) := by decide +kernel
theorem dX6_askNow_85 : decode cX6_askNow 85 = .ok (.if_icmp .ge 8, 3) := by decide +kernel
theorem dX6_askNow_88 : decode cX6_askNow 88 = .ok (.iload 8, 2) := by decide +kernel
theorem dX6_askNow_90 : decode cX6_askNow 90 = .ok (.goto 5, 3) := by decide +kernel
theorem dX6_askNow_93 : decode cX6_askNow 93 = .ok (.iload 4, 2) := by decide +kernel
theorem dX6_askNow_95 : decode cX6_askNow 95 = .ok (.istore 4, 2) := by decide +kernel
theorem dX6_askNow_97 : decode cX6_askNow 97 = .ok (.iinc 5 1, 3) := by decide +kernel
theorem dX6_askNow_100 : decode cX6_askNow 100 = .ok (.goto (-77), 3) := by decide +kernel
theorem dX6_askNow_103 : decode cX6_askNow 103 = .ok (.iload_n 3, 1) := by decide +kernel
theorem dX6_askNow_104 : decode cX6_askNow 104 = .ok (.ireturn, 1) := by decide +kernel
theorem dX6_ask_0 : decode cX6_ask 0 = .ok (.aload_n 0, 1) := by decide +kernel
theorem dX6_ask_1 : decode cX6_ask 1 = .ok (.getfield 97, 3) := by decide +kernel
theorem dX6_ask_4 : decode cX6_ask 4 = .ok (.ifCond .ne 8, 3) := by decide +kernel
theorem dX6_ask_7 : decode cX6_ask 7 = .ok (.bipush (-103), 2) := by decide +kernel
theorem dX6_ask_9 : decode cX6_ask 9 = .ok (.goto 7, 3) := by decide +kernel
theorem dX6_ask_12 : decode cX6_ask 12 = .ok (.aload_n 0, 1) := by decide +kernel
theorem dX6_ask_13 : decode cX6_ask 13 = .ok (.invokevirtual 217, 3) := by decide +kernel
theorem dX6_ask_16 : decode cX6_ask 16 = .ok (.ireturn, 1) := by decide +kernel
theorem dX6_addNow_0 : decode cX6_addNow 0 = .ok (.iconst (-1), 1) := by decide +kernel
theorem dX6_addNow_1 : decode cX6_addNow 1 = .ok (.istore_n 2, 1) := by decide +kernel
theorem dX6_addNow_2 : decode cX6_addNow 2 = .ok (.iconst (-1), 1) := by decide +kernel
theorem dX6_addNow_3 : decode cX6_addNow 3 = .ok (.istore_n 3, 1) := by decide +kernel
theorem dX6_addNow_4 : decode cX6_addNow 4 = .ok (.iconst 0, 1) := by decide +kernel
theorem dX6_addNow_5 : decode cX6_addNow 5 = .ok (.istore 4, 2) := by decide +kernel
theorem dX6_addNow_7 : decode cX6_addNow 7 = .ok (.iload 4, 2) := by decide +kernel
theorem dX6_addNow_9 : decode cX6_addNow 9 = .ok (.bipush 24, 2) := by decide +kernel
theorem dX6_addNow_11 : decode cX6_addNow 11 = .ok (.if_icmp .ge 93, 3) := by decide +kernel
theorem dX6_addNow_14 : decode cX6_addNow 14 = .ok (.aload_n 0, 1) := by decide +kernel
theorem dX6_addNow_15 : decode cX6_addNow 15 = .ok (.getfield 16, 3) := by decide +kernel
theorem dX6_addNow_18 : decode cX6_addNow 18 = .ok (.aload_n 0, 1) := by decide +kernel
theorem dX6_addNow_19 : decode cX6_addNow 19 = .ok (.getfield 97, 3) := by decide +kernel
theorem dX6_addNow_22 : decode cX6_addNow 22 = .ok (.iconst 1, 1) := by decide +kernel
theorem dX6_addNow_23 : decode cX6_addNow 23 = .ok (.isub, 1) := by decide +kernel
theorem dX6_addNow_24 : decode cX6_addNow 24 = .ok (.iload 4, 2) := by decide +kernel
theorem dX6_addNow_26 : decode cX6_addNow 26 = .ok (.bipush 12, 2) := by decide +kernel
theorem dX6_addNow_28 : decode cX6_addNow 28 = .ok (.idiv, 1) := by decide +kernel
theorem dX6_addNow_29 : decode cX6_addNow 29 = .ok (.iastore, 1) := by decide +kernel
theorem dX6_addNow_30 : decode cX6_addNow 30 = .ok (.aload_n 0, 1) := by decide +kernel
theorem dX6_addNow_31 : decode cX6_addNow 31 = .ok (.getfield 13, 3) := by decide +kernel
theorem dX6_addNow_34 : decode cX6_addNow 34 = .ok (.aload_n 0, 1) := by decide +kernel
theorem dX6_addNow_35 : decode cX6_addNow 35 = .ok (.getfield 97, 3) := by decide +kernel
theorem dX6_addNow_38 : decode cX6_addNow 38 = .ok (.iconst 2, 1) := by decide +kernel
theorem dX6_addNow_39 : decode cX6_addNow 39 = .ok (.iload 4, 2) := by decide +kernel
theorem dX6_addNow_41 : decode cX6_addNow 41 = .ok (.bipush 6, 2) := by decide +kernel
theorem dX6_addNow_43 : decode cX6_addNow 43 = .ok (.irem, 1) := by decide +kernel
theorem dX6_addNow_44 : decode cX6_addNow 44 = .ok (.imul, 1) := by decide +kernel
theorem dX6_addNow_45 : decode cX6_addNow 45 = .ok (.iload 4, 2) := by decide +kernel
theorem dX6_addNow_47 : decode cX6_addNow 47 = .ok (.bipush 6, 2) := by decide +kernel
theorem dX6_addNow_49 : decode cX6_addNow 49 = .ok (.idiv, 1) := by decide +kernel
theorem dX6_addNow_50 : decode cX6_addNow 50 = .ok (.iconst 2, 1) := by decide +kernel
theorem dX6_addNow_51 : decode cX6_addNow 51 = .ok (.irem, 1) := by decide +kernel
theorem dX6_addNow_52 : decode cX6_addNow 52 = .ok (.iadd, 1) := by decide +kernel
theorem dX6_addNow_53 : decode cX6_addNow 53 = .ok (.iastore, 1) := by decide +kernel
theorem dX6_addNow_54 : decode cX6_addNow 54 = .ok (.aload_n 0, 1) := by decide +kernel
theorem dX6_addNow_55 : decode cX6_addNow 55 = .ok (.aload_n 0, 1) := by decide +kernel
theorem dX6_addNow_56 : decode cX6_addNow 56 = .ok (.getfield 97, 3) := by decide +kernel
theorem dX6_addNow_59 : decode cX6_addNow 59 = .ok (.iconst 1, 1) := by decide +kernel
theorem dX6_addNow_60 : decode cX6_addNow 60 = .ok (.iadd, 1) := by decide +kernel
theorem dX6_addNow_61 : decode cX6_addNow 61 = .ok (.iconst 0, 1) := by decide +kernel
theorem dX6_addNow_62 : decode cX6_addNow 62 = .ok (.invokevirtual 106, 3) := by decide +kernel
theorem dX6_addNow_65 : decode cX6_addNow 65 = .ok (.aload_n 0, 1) := by decide +kernel
theorem dX6_addNow_66 : decode cX6_addNow 66 = .ok (.iconst 0, 1) := by decide +kernel
theorem dX6_addNow_67 : decode cX6_addNow 67 = .ok (.invokevirtual 165, 3) := by decide +kernel
theorem dX6_addNow_70 : decode cX6_addNow 70 = .ok (.istore 5, 2) := by decide +kernel
theorem dX6_addNow_72 : decode cX6_addNow 72 = .ok (.iload 5, 2) := by decide +kernel
theorem dX6_addNow_74 : decode cX6_addNow 74 = .ok (.iload_n 3, 1) := by decide +kernel
theorem dX6_addNow_75 : decode cX6_addNow 75 = .ok (.if_icmp .le 8, 3) := by decide +kernel
theorem dX6_addNow_78 : decode cX6_addNow 78 = .ok (.iload 4, 2) := by decide +kernel
theorem dX6_addNow_80 : decode cX6_addNow 80 = .ok (.goto 4, 3) := by decide +kernel
theorem dX6_addNow_83 : decode cX6_addNow 83 = .ok (.iload_n 2, 1) := by decide +kernel
theorem dX6_addNow_84 : decode cX6_addNow 84 = .ok (.istore_n 2, 1) := by decide +kernel
theorem dX6_addNow_85 : decode cX6_addNow 85 = .ok (.iload 5, 2) := by decide +kernel
theorem dX6_addNow_87 : decode cX6_addNow 87 = .ok (.iload_n 3, 1) := by decide +kernel
theorem dX6_addNow_88 : decode cX6_addNow 88 = .ok (.if_icmp .le 8, 3) := by decide +kernel
theorem dX6_addNow_91 : decode cX6_addNow 91 = .ok (.iload 5, 2) := by decide +kernel
theorem dX6_addNow_93 : decode cX6_addNow 93 = .ok (.goto 4, 3) := by decide +kernel
theorem dX6_addNow_96 : decode cX6_addNow 96 = .ok (.iload_n 3, 1) := by decide +kernel
theorem dX6_addNow_97 : decode cX6_addNow 97 = .ok (.istore_n 3, 1) := by decide +kernel
theorem dX6_addNow_98 : decode cX6_addNow 98 = .ok (.iinc 4 1, 3) := by decide +kernel
theorem dX6_addNow_101 : decode cX6_addNow 101 = .ok (.goto (-94), 3) := by decide +kernel
theorem dX6_addNow_104 : decode cX6_addNow 104 = .ok (.iload_n 1, 1) := by decide +kernel
theorem dX6_addNow_105 : decode cX6_addNow 105 = .ok (.ifCond .ne 7, 3) := by decide +kernel
theorem dX6_addNow_108 : decode cX6_addNow 108 = .ok (.iload_n 2, 1) := by decide +kernel
theorem dX6_addNow_109 : decode cX6_addNow 109 = .ok (.goto 4, 3) := by decide +kernel
theorem dX6_addNow_112 : decode cX6_addNow 112 = .ok (.iload_n 3, 1) := by decide +kernel
theorem dX6_addNow_113 : decode cX6_addNow 113 = .ok (.ireturn, 1) := by decide +kernel
theorem dX6_add_0 : decode cX6_add 0 = .ok (.iload_n 1, 1) := by decide +kernel
theorem dX6_add_1 : decode cX6_add 1 = .ok (.iconst 0, 1) := by decide +kernel
theorem dX6_add_2 : decode cX6_add 2 = .ok (.iconst 1, 1) := by decide +kernel
theorem dX6_add_3 : decode cX6_add 3 = .ok (.invokestatic 69, 3) := by decide +kernel
theorem dX6_add_6 : decode cX6_add 6 = .ok (.ifCond .ne 6, 3) := by decide +kernel
theorem dX6_add_9 : decode cX6_add 9 = .ok (.bipush (-102), 2) := by decide +kernel
theorem dX6_add_11 : decode cX6_add 11 = .ok (.ireturn, 1) := by decide +kernel
theorem dX6_add_12 : decode cX6_add 12 = .ok (.aload_n 0, 1) := by decide +kernel
theorem dX6_add_13 : decode cX6_add 13 = .ok (.getfield 97, 3) := by decide +kernel
theorem dX6_add_16 : decode cX6_add 16 = .ok (.ifCond .eq 20, 3) := by decide +kernel
theorem dX6_add_19 : decode cX6_add 19 = .ok (.aload_n 0, 1) := by decide +kernel
theorem dX6_add_20 : decode cX6_add 20 = .ok (.getfield 97, 3) := by decide +kernel
theorem dX6_add_23 : decode cX6_add 23 = .ok (.iconst 4, 1) := by decide +kernel
theorem dX6_add_24 : decode cX6_add 24 = .ok (.if_icmp .eq 12, 3) := by decide +kernel
theorem dX6_add_27 : decode cX6_add 27 = .ok (.aload_n 0, 1) := by decide +kernel
theorem dX6_add_28 : decode cX6_add 28 = .ok (.getfield 220, 3) := by decide +kernel
theorem dX6_add_31 : decode cX6_add 31 = .ok (.bipush 60, 2) := by decide +kernel
theorem dX6_add_33 : decode cX6_add 33 = .ok (.if_icmp .ne 6, 3) := by decide +kernel
theorem dX6_add_36 : decode cX6_add 36 = .ok (.bipush (-103), 2) := by decide +kernel
theorem dX6_add_38 : decode cX6_add 38 = .ok (.ireturn, 1) := by decide +kernel
theorem dX6_add_39 : decode cX6_add 39 = .ok (.aload_n 0, 1) := by decide +kernel
theorem dX6_add_40 : decode cX6_add 40 = .ok (.dup, 1) := by decide +kernel
theorem dX6_add_41 : decode cX6_add 41 = .ok (.getfield 220, 3) := by decide +kernel
theorem dX6_add_44 : decode cX6_add 44 = .ok (.iconst 1, 1) := by decide +kernel
theorem dX6_add_45 : decode cX6_add 45 = .ok (.iadd, 1) := by decide +kernel
theorem dX6_add_46 : decode cX6_add 46 = .ok (.putfield 220, 3) := by decide +kernel
theorem dX6_add_49 : decode cX6_add 49 = .ok (.aload_n 0, 1) := by decide +kernel
theorem dX6_add_50 : decode cX6_add 50 = .ok (.iload_n 1, 1) := by decide +kernel
theorem dX6_add_51 : decode cX6_add 51 = .ok (.invokevirtual 223, 3) := by decide +kernel
theorem dX6_add_54 : decode cX6_add 54 = .ok (.ireturn, 1) := by decide +kernel
theorem dX6_tell_0 : decode cX6_tell 0 = .ok (.iload_n 1, 1) := by decide +kernel
theorem dX6_tell_1 : decode cX6_tell 1 = .ok (.invokestatic 155, 3) := by decide +kernel
theorem dX6_tell_4 : decode cX6_tell 4 = .ok (.ifCond .ne 6, 3) := by decide +kernel
theorem dX6_tell_7 : decode cX6_tell 7 = .ok (.bipush (-101), 2) := by decide +kernel
theorem dX6_tell_9 : decode cX6_tell 9 = .ok (.ireturn, 1) := by decide +kernel
theorem dX6_tell_10 : decode cX6_tell 10 = .ok (.aload_n 0, 1) := by decide +kernel
theorem dX6_tell_11 : decode cX6_tell 11 = .ok (.getfield 226, 3) := by decide +kernel
theorem dX6_tell_14 : decode cX6_tell 14 = .ok (.istore_n 2, 1) := by decide +kernel
theorem dX6_tell_15 : decode cX6_tell 15 = .ok (.aload_n 0, 1) := by decide +kernel
theorem dX6_tell_16 : decode cX6_tell 16 = .ok (.getfield 37, 3) := by decide +kernel
theorem dX6_tell_19 : decode cX6_tell 19 = .ok (.iconst 0, 1) := by decide +kernel
theorem dX6_tell_20 : decode cX6_tell 20 = .ok (.iload_n 1, 1) := by decide +kernel
theorem dX6_tell_21 : decode cX6_tell 21 = .ok (.iastore, 1) := by decide +kernel
theorem dX6_tell_22 : decode cX6_tell 22 = .ok (.aload_n 0, 1) := by decide +kernel
theorem dX6_tell_23 : decode cX6_tell 23 = .ok (.iconst 1, 1) := by decide +kernel
theorem dX6_tell_24 : decode cX6_tell 24 = .ok (.putfield 226, 3) := by decide +kernel
theorem dX6_tell_27 : decode cX6_tell 27 = .ok (.iload_n 2, 1) := by decide +kernel
theorem dX6_tell_28 : decode cX6_tell 28 = .ok (.ireturn, 1) := by decide +kernel
theorem dX6_then_0 : decode cX6_then 0 = .ok (.aload_n 0, 1) := by decide +kernel
theorem dX6_then_1 : decode cX6_then 1 = .ok (.getfield 226, 3) := by decide +kernel
theorem dX6_then_4 : decode cX6_then 4 = .ok (.ifCond .ne 6, 3) := by decide +kernel
theorem dX6_then_7 : decode cX6_then 7 = .ok (.bipush (-103), 2) := by decide +kernel
theorem dX6_then_9 : decode cX6_then 9 = .ok (.ireturn, 1) := by decide +kernel
theorem dX6_then_10 : decode cX6_then 10 = .ok (.iload_n 1, 1) := by decide +kernel
theorem dX6_then_11 : decode cX6_then 11 = .ok (.invokestatic 155, 3) := by decide +kernel
theorem dX6_then_14 : decode cX6_then 14 = .ok (.ifCond .ne 6, 3) := by decide +kernel
theorem dX6_then_17 : decode cX6_then 17 = .ok (.bipush (-101), 2) := by decide +kernel
theorem dX6_then_19 : decode cX6_then 19 = .ok (.ireturn, 1) := by decide +kernel
theorem dX6_then_20 : decode cX6_then 20 = .ok (.aload_n 0, 1) := by decide +kernel
theorem dX6_then_21 : decode cX6_then 21 = .ok (.getfield 226, 3) := by decide +kernel
theorem dX6_then_24 : decode cX6_then 24 = .ok (.bipush 6, 2) := by decide +kernel
theorem dX6_then_26 : decode cX6_then 26 = .ok (.if_icmp .ne 6, 3) := by decide +kernel
theorem dX6_then_29 : decode cX6_then 29 = .ok (.bipush (-104), 2) := by decide +kernel
theorem dX6_then_31 : decode cX6_then 31 = .ok (.ireturn, 1) := by decide +kernel
theorem dX6_then_32 : decode cX6_then 32 = .ok (.aload_n 0, 1) := by decide +kernel
theorem dX6_then_33 : decode cX6_then 33 = .ok (.getfield 37, 3) := by decide +kernel
theorem dX6_then_36 : decode cX6_then 36 = .ok (.aload_n 0, 1) := by decide +kernel
theorem dX6_then_37 : decode cX6_then 37 = .ok (.getfield 226, 3) := by decide +kernel
theorem dX6_then_40 : decode cX6_then 40 = .ok (.iload_n 1, 1) := by decide +kernel
theorem dX6_then_41 : decode cX6_then 41 = .ok (.iastore, 1) := by decide +kernel
theorem dX6_then_42 : decode cX6_then 42 = .ok (.aload_n 0, 1) := by decide +kernel
theorem dX6_then_43 : decode cX6_then 43 = .ok (.dup, 1) := by decide +kernel
theorem dX6_then_44 : decode cX6_then 44 = .ok (.getfield 226, 3) := by decide +kernel
theorem dX6_then_47 : decode cX6_then 47 = .ok (.iconst 1, 1) := by decide +kernel
theorem dX6_then_48 : decode cX6_then 48 = .ok (.iadd, 1) := by decide +kernel
theorem dX6_then_49 : decode cX6_then 49 = .ok (.putfield 226, 3) := by decide +kernel
theorem dX6_then_52 : decode cX6_then 52 = .ok (.aload_n 0, 1) := by decide +kernel
theorem dX6_then_53 : decode cX6_then 53 = .ok (.getfield 226, 3) := by decide +kernel
theorem dX6_then_56 : decode cX6_then 56 = .ok (.ireturn, 1) := by decide +kernel
theorem dX6_fitsNow_0 : decode cX6_fitsNow 0 = .ok (.iconst 0, 1) := by decide +kernel
theorem dX6_fitsNow_1 : decode cX6_fitsNow 1 = .ok (.istore_n 3, 1) := by decide +kernel
theorem dX6_fitsNow_2 : decode cX6_fitsNow 2 = .ok (.iconst (-1), 1) := by decide +kernel
theorem dX6_fitsNow_3 : decode cX6_fitsNow 3 = .ok (.istore 4, 2) := by decide +kernel
theorem dX6_fitsNow_5 : decode cX6_fitsNow 5 = .ok (.iconst 0, 1) := by decide +kernel
theorem dX6_fitsNow_6 : decode cX6_fitsNow 6 = .ok (.istore 5, 2) := by decide +kernel
theorem dX6_fitsNow_8 : decode cX6_fitsNow 8 = .ok (.iload 5, 2) := by decide +kernel
theorem dX6_fitsNow_10 : decode cX6_fitsNow 10 = .ok (.aload_n 0, 1) := by decide +kernel
theorem dX6_fitsNow_11 : decode cX6_fitsNow 11 = .ok (.getfield 110, 3) := by decide +kernel
theorem dX6_fitsNow_14 : decode cX6_fitsNow 14 = .ok (.if_icmp .ge 101, 3) := by decide +kernel
theorem dX6_fitsNow_17 : decode cX6_fitsNow 17 = .ok (.iconst 1, 1) := by decide +kernel
theorem dX6_fitsNow_18 : decode cX6_fitsNow 18 = .ok (.istore 6, 2) := by decide +kernel
theorem dX6_fitsNow_20 : decode cX6_fitsNow 20 = .ok (.iconst 1, 1) := by decide +kernel
theorem dX6_fitsNow_21 : decode cX6_fitsNow 21 = .ok (.istore 7, 2) := by decide +kernel
theorem dX6_fitsNow_23 : decode cX6_fitsNow 23 = .ok (.iload 7, 2) := by decide +kernel
theorem dX6_fitsNow_25 : decode cX6_fitsNow 25 = .ok (.aload_n 0, 1) := by decide +kernel
theorem dX6_fitsNow_26 : decode cX6_fitsNow 26 = .ok (.getfield 226, 3) := by decide +kernel
theorem dX6_fitsNow_29 : decode cX6_fitsNow 29 = .ok (.if_icmp .ge 47, 3) := by decide +kernel
theorem dX6_fitsNow_32 : decode cX6_fitsNow 32 = .ok (.iload 6, 2) := by decide +kernel
theorem dX6_fitsNow_34 : decode cX6_fitsNow 34 = .ok (.ifCond .eq 33, 3) := by decide +kernel
theorem dX6_fitsNow_37 : decode cX6_fitsNow 37 = .ok (.aload_n 0, 1) := by decide +kernel
theorem dX6_fitsNow_38 : decode cX6_fitsNow 38 = .ok (.iload_n 1, 1) := by decide +kernel
theorem dX6_fitsNow_39 : decode cX6_fitsNow 39 = .ok (.iload 5, 2) := by decide +kernel
theorem dX6_fitsNow_41 : decode cX6_fitsNow 41 = .ok (.aload_n 0, 1) := by decide +kernel
theorem dX6_fitsNow_42 : decode cX6_fitsNow 42 = .ok (.getfield 37, 3) := by decide +kernel
theorem dX6_fitsNow_45 : decode cX6_fitsNow 45 = .ok (.iload 7, 2) := by decide +kernel
theorem dX6_fitsNow_47 : decode cX6_fitsNow 47 = .ok (.iconst 1, 1) := by decide +kernel
theorem dX6_fitsNow_48 : decode cX6_fitsNow 48 = .ok (.isub, 1) := by decide +kernel
theorem dX6_fitsNow_49 : decode cX6_fitsNow 49 = .ok (.iaload, 1) := by decide +kernel
theorem dX6_fitsNow_50 : decode cX6_fitsNow 50 = .ok (.invokevirtual 190, 3) := by decide +kernel
theorem dX6_fitsNow_53 : decode cX6_fitsNow 53 = .ok (.aload_n 0, 1) := by decide +kernel
theorem dX6_fitsNow_54 : decode cX6_fitsNow 54 = .ok (.getfield 37, 3) := by decide +kernel
theorem dX6_fitsNow_57 : decode cX6_fitsNow 57 = .ok (.iload 7, 2) := by decide +kernel
theorem dX6_fitsNow_59 : decode cX6_fitsNow 59 = .ok (.iaload, 1) := by decide +kernel
theorem dX6_fitsNow_60 : decode cX6_fitsNow 60 = .ok (.if_icmp .ne 7, 3) := by decide +kernel
theorem dX6_fitsNow_63 : decode cX6_fitsNow 63 = .ok (.iconst 1, 1) := by decide +kernel
theorem dX6_fitsNow_64 : decode cX6_fitsNow 64 = .ok (.goto 4, 3) := by decide +kernel
theorem dX6_fitsNow_67 : decode cX6_fitsNow 67 = .ok (.iconst 0, 1) := by decide +kernel
theorem dX6_fitsNow_68 : decode cX6_fitsNow 68 = .ok (.istore 6, 2) := by decide +kernel
theorem dX6_fitsNow_70 : decode cX6_fitsNow 70 = .ok (.iinc 7 1, 3) := by decide +kernel
theorem dX6_fitsNow_73 : decode cX6_fitsNow 73 = .ok (.goto (-50), 3) := by decide +kernel
theorem dX6_fitsNow_76 : decode cX6_fitsNow 76 = .ok (.iload_n 3, 1) := by decide +kernel
theorem dX6_fitsNow_77 : decode cX6_fitsNow 77 = .ok (.iload 6, 2) := by decide +kernel
theorem dX6_fitsNow_79 : decode cX6_fitsNow 79 = .ok (.ifCond .eq 7, 3) := by decide +kernel
theorem dX6_fitsNow_82 : decode cX6_fitsNow 82 = .ok (.iconst 1, 1) := by decide +kernel
theorem dX6_fitsNow_83 : decode cX6_fitsNow 83 = .ok (.goto 4, 3) := by decide +kernel
theorem dX6_fitsNow_86 : decode cX6_fitsNow 86 = .ok (.iconst 0, 1) := by decide +kernel
theorem dX6_fitsNow_87 : decode cX6_fitsNow 87 = .ok (.iadd, 1) := by decide +kernel
theorem dX6_fitsNow_88 : decode cX6_fitsNow 88 = .ok (.istore_n 3, 1) := by decide +kernel
theorem dX6_fitsNow_89 : decode cX6_fitsNow 89 = .ok (.iload 6, 2) := by decide +kernel
theorem dX6_fitsNow_91 : decode cX6_fitsNow 91 = .ok (.ifCond .eq 14, 3) := by decide +kernel
theorem dX6_fitsNow_94 : decode cX6_fitsNow 94 = .ok (.iload 4, 2) := by decide +kernel
theorem dX6_fitsNow_96 : decode cX6_fitsNow 96 = .ok (.iconst (-1), 1) := by decide +kernel
theorem dX6_fitsNow_97 : decode cX6_fitsNow 97 = .ok (.if_icmp .ne 8, 3) := by decide +kernel
theorem dX6_fitsNow_100 : decode cX6_fitsNow 100 = .ok (.iload 5, 2) := by decide +kernel
theorem dX6_fitsNow_102 : decode cX6_fitsNow 102 = .ok (.goto 5, 3) := by decide +kernel
theorem dX6_fitsNow_105 : decode cX6_fitsNow 105 = .ok (.iload 4, 2) := by decide +kernel
theorem dX6_fitsNow_107 : decode cX6_fitsNow 107 = .ok (.istore 4, 2) := by decide +kernel
theorem dX6_fitsNow_109 : decode cX6_fitsNow 109 = .ok (.iinc 5 1, 3) := by decide +kernel
theorem dX6_fitsNow_112 : decode cX6_fitsNow 112 = .ok (.goto (-104), 3) := by decide +kernel
theorem dX6_fitsNow_115 : decode cX6_fitsNow 115 = .ok (.iload_n 2, 1) := by decide +kernel
theorem dX6_fitsNow_116 : decode cX6_fitsNow 116 = .ok (.ifCond .ne 7, 3) := by decide +kernel
theorem dX6_fitsNow_119 : decode cX6_fitsNow 119 = .ok (.iload_n 3, 1) := by decide +kernel
theorem dX6_fitsNow_120 : decode cX6_fitsNow 120 = .ok (.goto 5, 3) := by decide +kernel
theorem dX6_fitsNow_123 : decode cX6_fitsNow 123 = .ok (.iload 4, 2) := by decide +kernel
theorem dX6_fitsNow_125 : decode cX6_fitsNow 125 = .ok (.ireturn, 1) := by decide +kernel
theorem dX6_fits_0 : decode cX6_fits 0 = .ok (.aload_n 0, 1) := by decide +kernel
theorem dX6_fits_1 : decode cX6_fits 1 = .ok (.iload_n 1, 1) := by decide +kernel
theorem dX6_fits_2 : decode cX6_fits 2 = .ok (.invokevirtual 184, 3) := by decide +kernel
theorem dX6_fits_5 : decode cX6_fits 5 = .ok (.ifCond .ne 6, 3) := by decide +kernel
theorem dX6_fits_8 : decode cX6_fits 8 = .ok (.bipush (-101), 2) := by decide +kernel
theorem dX6_fits_10 : decode cX6_fits 10 = .ok (.ireturn, 1) := by decide +kernel
theorem dX6_fits_11 : decode cX6_fits 11 = .ok (.iload_n 2, 1) := by decide +kernel
theorem dX6_fits_12 : decode cX6_fits 12 = .ok (.iconst 0, 1) := by decide +kernel
theorem dX6_fits_13 : decode cX6_fits 13 = .ok (.iconst 1, 1) := by decide +kernel
theorem dX6_fits_14 : decode cX6_fits 14 = .ok (.invokestatic 69, 3) := by decide +kernel
theorem dX6_fits_17 : decode cX6_fits 17 = .ok (.ifCond .ne 6, 3) := by decide +kernel
theorem dX6_fits_20 : decode cX6_fits 20 = .ok (.bipush (-102), 2) := by decide +kernel
theorem dX6_fits_22 : decode cX6_fits 22 = .ok (.ireturn, 1) := by decide +kernel
theorem dX6_fits_23 : decode cX6_fits 23 = .ok (.aload_n 0, 1) := by decide +kernel
theorem dX6_fits_24 : decode cX6_fits 24 = .ok (.getfield 97, 3) := by decide +kernel
theorem dX6_fits_27 : decode cX6_fits 27 = .ok (.ifCond .eq 10, 3) := by decide +kernel
theorem dX6_fits_30 : decode cX6_fits 30 = .ok (.aload_n 0, 1) := by decide +kernel
theorem dX6_fits_31 : decode cX6_fits 31 = .ok (.getfield 226, 3) := by decide +kernel
theorem dX6_fits_34 : decode cX6_fits 34 = .ok (.ifCond .ne 6, 3) := by decide +kernel
theorem dX6_fits_37 : decode cX6_fits 37 = .ok (.bipush (-103), 2) := by decide +kernel
theorem dX6_fits_39 : decode cX6_fits 39 = .ok (.ireturn, 1) := by decide +kernel
theorem dX6_fits_40 : decode cX6_fits 40 = .ok (.aload_n 0, 1) := by decide +kernel
theorem dX6_fits_41 : decode cX6_fits 41 = .ok (.aload_n 0, 1) := by decide +kernel
theorem dX6_fits_42 : decode cX6_fits 42 = .ok (.getfield 97, 3) := by decide +kernel
theorem dX6_fits_45 : decode cX6_fits 45 = .ok (.iconst 0, 1) := by decide +kernel
theorem dX6_fits_46 : decode cX6_fits 46 = .ok (.invokevirtual 106, 3) := by decide +kernel
theorem dX6_fits_49 : decode cX6_fits 49 = .ok (.aload_n 0, 1) := by decide +kernel
theorem dX6_fits_50 : decode cX6_fits 50 = .ok (.iload_n 1, 1) := by decide +kernel
theorem dX6_fits_51 : decode cX6_fits 51 = .ok (.iload_n 2, 1) := by decide +kernel
theorem dX6_fits_52 : decode cX6_fits 52 = .ok (.invokevirtual 229, 3) := by decide +kernel
theorem dX6_fits_55 : decode cX6_fits 55 = .ok (.ireturn, 1) := by decide +kernel
theorem dX6_draw_0 : decode cX6_draw 0 = .ok (.aload_n 0, 1) := by decide +kernel
theorem dX6_draw_1 : decode cX6_draw 1 = .ok (.ldc2_w 232, 3) := by decide +kernel
theorem dX6_draw_4 : decode cX6_draw 4 = .ok (.aload_n 0, 1) := by decide +kernel
theorem dX6_draw_5 : decode cX6_draw 5 = .ok (.getfield 234, 3) := by decide +kernel
theorem dX6_draw_8 : decode cX6_draw 8 = .ok (.lmul, 1) := by decide +kernel
theorem dX6_draw_9 : decode cX6_draw 9 = .ok (.ldc2_w 238, 3) := by decide +kernel
theorem dX6_draw_12 : decode cX6_draw 12 = .ok (.ladd, 1) := by decide +kernel
theorem dX6_draw_13 : decode cX6_draw 13 = .ok (.ldc2_w 240, 3) := by decide +kernel
theorem dX6_draw_16 : decode cX6_draw 16 = .ok (.land, 1) := by decide +kernel
theorem dX6_draw_17 : decode cX6_draw 17 = .ok (.putfield 234, 3) := by decide +kernel
theorem dX6_draw_20 : decode cX6_draw 20 = .ok (.aload_n 0, 1) := by decide +kernel
theorem dX6_draw_21 : decode cX6_draw 21 = .ok (.getfield 234, 3) := by decide +kernel
theorem dX6_draw_24 : decode cX6_draw 24 = .ok (.ldc2_w 242, 3) := by decide +kernel
theorem dX6_draw_27 : decode cX6_draw 27 = .ok (.ldiv, 1) := by decide +kernel
theorem dX6_draw_28 : decode cX6_draw 28 = .ok (.iload_n 1, 1) := by decide +kernel
theorem dX6_draw_29 : decode cX6_draw 29 = .ok (.i2l, 1) := by decide +kernel
theorem dX6_draw_30 : decode cX6_draw 30 = .ok (.lrem, 1) := by decide +kernel
theorem dX6_draw_31 : decode cX6_draw 31 = .ok (.l2i, 1) := by decide +kernel
theorem dX6_draw_32 : decode cX6_draw 32 = .ok (.ireturn, 1) := by decide +kernel
theorem dX6_timesNow_0 : decode cX6_timesNow 0 = .ok (.aload_n 0, 1) := by decide +kernel
theorem dX6_timesNow_1 : decode cX6_timesNow 1 = .ok (.aload_n 0, 1) := by decide +kernel
theorem dX6_timesNow_2 : decode cX6_timesNow 2 = .ok (.getfield 97, 3) := by decide +kernel
theorem dX6_timesNow_5 : decode cX6_timesNow 5 = .ok (.iconst 0, 1) := by decide +kernel
theorem dX6_timesNow_6 : decode cX6_timesNow 6 = .ok (.invokevirtual 106, 3) := by decide +kernel
theorem dX6_timesNow_9 : decode cX6_timesNow 9 = .ok (.aload_n 0, 1) := by decide +kernel
theorem dX6_timesNow_10 : decode cX6_timesNow 10 = .ok (.invokevirtual 200, 3) := by decide +kernel
theorem dX6_timesNow_13 : decode cX6_timesNow 13 = .ok (.aload_n 0, 1) := by decide +kernel
theorem dX6_timesNow_14 : decode cX6_timesNow 14 = .ok (.invokevirtual 203, 3) := by decide +kernel
theorem dX6_timesNow_17 : decode cX6_timesNow 17 = .ok (.lstore 4, 2) := by decide +kernel
theorem dX6_timesNow_19 : decode cX6_timesNow 19 = .ok (.aload_n 0, 1) := by decide +kernel
theorem dX6_timesNow_20 : decode cX6_timesNow 20 = .ok (.iload_n 2, 1) := by decide +kernel
theorem dX6_timesNow_21 : decode cX6_timesNow 21 = .ok (.i2l, 1) := by decide +kernel
theorem dX6_timesNow_22 : decode cX6_timesNow 22 = .ok (.putfield 234, 3) := by decide +kernel
theorem dX6_timesNow_25 : decode cX6_timesNow 25 = .ok (.aload_n 0, 1) := by decide +kernel
theorem dX6_timesNow_26 : decode cX6_timesNow 26 = .ok (.getfield 162, 3) := by decide +kernel
theorem dX6_timesNow_29 : decode cX6_timesNow 29 = .ok (.istore 6, 2) := by decide +kernel
theorem dX6_timesNow_31 : decode cX6_timesNow 31 = .ok (.iconst 0, 1) := by decide +kernel
theorem dX6_timesNow_32 : decode cX6_timesNow 32 = .ok (.istore 7, 2) := by decide +kernel
theorem dX6_timesNow_34 : decode cX6_timesNow 34 = .ok (.iconst 0, 1) := by decide +kernel
theorem dX6_timesNow_35 : decode cX6_timesNow 35 = .ok (.istore 8, 2) := by decide +kernel
theorem dX6_timesNow_37 : decode cX6_timesNow 37 = .ok (.iload 8, 2) := by decide +kernel
theorem dX6_timesNow_39 : decode cX6_timesNow 39 = .ok (.iload_n 1, 1) := by decide +kernel
theorem dX6_timesNow_40 : decode cX6_timesNow 40 = .ok (.if_icmp .ge 59, 3) := by decide +kernel
theorem dX6_timesNow_43 : decode cX6_timesNow 43 = .ok (.aload_n 0, 1) := by decide +kernel
theorem dX6_timesNow_44 : decode cX6_timesNow 44 = .ok (.iconst 2, 1) := by decide +kernel
theorem dX6_timesNow_45 : decode cX6_timesNow 45 = .ok (.invokevirtual 244, 3) := by decide +kernel
theorem dX6_timesNow_48 : decode cX6_timesNow 48 = .ok (.ifCond .ne 12, 3) := by decide +kernel
theorem dX6_timesNow_51 : decode cX6_timesNow 51 = .ok (.aload_n 0, 1) := by decide +kernel
theorem dX6_timesNow_52 : decode cX6_timesNow 52 = .ok (.iload 6, 2) := by decide +kernel
theorem dX6_timesNow_54 : decode cX6_timesNow 54 = .ok (.invokevirtual 207, 3) := by decide +kernel
theorem dX6_timesNow_57 : decode cX6_timesNow 57 = .ok (.goto 14, 3) := by decide +kernel
theorem dX6_timesNow_60 : decode cX6_timesNow 60 = .ok (.iload 6, 2) := by decide +kernel
theorem dX6_timesNow_62 : decode cX6_timesNow 62 = .ok (.iconst 1, 1) := by decide +kernel
theorem dX6_timesNow_63 : decode cX6_timesNow 63 = .ok (.aload_n 0, 1) := by decide +kernel
theorem dX6_timesNow_64 : decode cX6_timesNow 64 = .ok (.bipush 6, 2) := by decide +kernel
theorem dX6_timesNow_66 : decode cX6_timesNow 66 = .ok (.invokevirtual 244, 3) := by decide +kernel
theorem dX6_timesNow_69 : decode cX6_timesNow 69 = .ok (.ishl, 1) := by decide +kernel
theorem dX6_timesNow_70 : decode cX6_timesNow 70 = .ok (.ixor, 1) := by decide +kernel
theorem dX6_timesNow_71 : decode cX6_timesNow 71 = .ok (.istore 6, 2) := by decide +kernel
theorem dX6_timesNow_73 : decode cX6_timesNow 73 = .ok (.iload 7, 2) := by decide +kernel
theorem dX6_timesNow_75 : decode cX6_timesNow 75 = .ok (.lload 4, 2) := by decide +kernel
theorem dX6_timesNow_77 : decode cX6_timesNow 77 = .ok (.iload 6, 2) := by decide +kernel
theorem dX6_timesNow_79 : decode cX6_timesNow 79 = .ok (.invokestatic 158, 3) := by decide +kernel
theorem dX6_timesNow_82 : decode cX6_timesNow 82 = .ok (.ifCond .eq 7, 3) := by decide +kernel
theorem dX6_timesNow_85 : decode cX6_timesNow 85 = .ok (.iconst 1, 1) := by decide +kernel
theorem dX6_timesNow_86 : decode cX6_timesNow 86 = .ok (.goto 4, 3) := by decide +kernel
theorem dX6_timesNow_89 : decode cX6_timesNow 89 = .ok (.iconst 0, 1) := by decide +kernel
theorem dX6_timesNow_90 : decode cX6_timesNow 90 = .ok (.iadd, 1) := by decide +kernel
theorem dX6_timesNow_91 : decode cX6_timesNow 91 = .ok (.istore 7, 2) := by decide +kernel
theorem dX6_timesNow_93 : decode cX6_timesNow 93 = .ok (.iinc 8 1, 3) := by decide +kernel
theorem dX6_timesNow_96 : decode cX6_timesNow 96 = .ok (.goto (-59), 3) := by decide +kernel
theorem dX6_timesNow_99 : decode cX6_timesNow 99 = .ok (.iload_n 3, 1) := by decide +kernel
theorem dX6_timesNow_100 : decode cX6_timesNow 100 = .ok (.ifCond .ne 8, 3) := by decide +kernel
theorem dX6_timesNow_103 : decode cX6_timesNow 103 = .ok (.iload 6, 2) := by decide +kernel
theorem dX6_timesNow_105 : decode cX6_timesNow 105 = .ok (.goto 18, 3) := by decide +kernel
theorem dX6_timesNow_108 : decode cX6_timesNow 108 = .ok (.iload_n 3, 1) := by decide +kernel
theorem dX6_timesNow_109 : decode cX6_timesNow 109 = .ok (.iconst 1, 1) := by decide +kernel
theorem dX6_timesNow_110 : decode cX6_timesNow 110 = .ok (.if_icmp .ne 8, 3) := by decide +kernel
theorem dX6_timesNow_113 : decode cX6_timesNow 113 = .ok (.iload 7, 2) := by decide +kernel
theorem dX6_timesNow_115 : decode cX6_timesNow 115 = .ok (.goto 8, 3) := by decide +kernel
theorem dX6_timesNow_118 : decode cX6_timesNow 118 = .ok (.aload_n 0, 1) := by decide +kernel
theorem dX6_timesNow_119 : decode cX6_timesNow 119 = .ok (.getfield 234, 3) := by decide +kernel
theorem dX6_timesNow_122 : decode cX6_timesNow 122 = .ok (.l2i, 1) := by decide +kernel
theorem dX6_timesNow_123 : decode cX6_timesNow 123 = .ok (.ireturn, 1) := by decide +kernel
theorem dX6_times_0 : decode cX6_times 0 = .ok (.iload_n 1, 1) := by decide +kernel
theorem dX6_times_1 : decode cX6_times 1 = .ok (.iconst 1, 1) := by decide +kernel
theorem dX6_times_2 : decode cX6_times 2 = .ok (.bipush 60, 2) := by decide +kernel
theorem dX6_times_4 : decode cX6_times 4 = .ok (.invokestatic 69, 3) := by decide +kernel
theorem dX6_times_7 : decode cX6_times 7 = .ok (.ifCond .eq 16, 3) := by decide +kernel
theorem dX6_times_10 : decode cX6_times 10 = .ok (.iload_n 2, 1) := by decide +kernel
theorem dX6_times_11 : decode cX6_times 11 = .ok (.ifCond .lt 12, 3) := by decide +kernel
theorem dX6_times_14 : decode cX6_times 14 = .ok (.iload_n 3, 1) := by decide +kernel
theorem dX6_times_15 : decode cX6_times 15 = .ok (.iconst 0, 1) := by decide +kernel
theorem dX6_times_16 : decode cX6_times 16 = .ok (.iconst 2, 1) := by decide +kernel
theorem dX6_times_17 : decode cX6_times 17 = .ok (.invokestatic 69, 3) := by decide +kernel
theorem dX6_times_20 : decode cX6_times 20 = .ok (.ifCond .ne 6, 3) := by decide +kernel
theorem dX6_times_23 : decode cX6_times 23 = .ok (.bipush (-102), 2) := by decide +kernel
theorem dX6_times_25 : decode cX6_times 25 = .ok (.ireturn, 1) := by decide +kernel
theorem dX6_times_26 : decode cX6_times 26 = .ok (.aload_n 0, 1) := by decide +kernel
theorem dX6_times_27 : decode cX6_times 27 = .ok (.getfield 97, 3) := by decide +kernel
theorem dX6_times_30 : decode cX6_times 30 = .ok (.ifCond .ne 8, 3) := by decide +kernel
theorem dX6_times_33 : decode cX6_times 33 = .ok (.bipush (-103), 2) := by decide +kernel
theorem dX6_times_35 : decode cX6_times 35 = .ok (.goto 10, 3) := by decide +kernel
theorem dX6_times_38 : decode cX6_times 38 = .ok (.aload_n 0, 1) := by decide +kernel
theorem dX6_times_39 : decode cX6_times 39 = .ok (.iload_n 1, 1) := by decide +kernel
theorem dX6_times_40 : decode cX6_times 40 = .ok (.iload_n 2, 1) := by decide +kernel
theorem dX6_times_41 : decode cX6_times 41 = .ok (.iload_n 3, 1) := by decide +kernel
theorem dX6_times_42 : decode cX6_times 42 = .ok (.invokevirtual 247, 3) := by decide +kernel
theorem dX6_times_45 : decode cX6_times 45 = .ok (.ireturn, 1) := by decide +kernel
theorem dX6_image_0 : decode cX6_image 0 = .ok (.aload_n 0, 1) := by decide +kernel
theorem dX6_image_1 : decode cX6_image 1 = .ok (.iconst 1, 1) := by decide +kernel
theorem dX6_image_2 : decode cX6_image 2 = .ok (.putfield 250, 3) := by decide +kernel
theorem dX6_image_5 : decode cX6_image 5 = .ok (.aload_n 0, 1) := by decide +kernel
theorem dX6_image_6 : decode cX6_image 6 = .ok (.aload_n 0, 1) := by decide +kernel
theorem dX6_image_7 : decode cX6_image 7 = .ok (.getfield 162, 3) := by decide +kernel
theorem dX6_image_10 : decode cX6_image 10 = .ok (.putfield 253, 3) := by decide +kernel
theorem dX6_image_13 : decode cX6_image 13 = .ok (.aload_n 0, 1) := by decide +kernel
theorem dX6_image_14 : decode cX6_image 14 = .ok (.aload_n 0, 1) := by decide +kernel
theorem dX6_image_15 : decode cX6_image 15 = .ok (.getfield 175, 3) := by decide +kernel
theorem dX6_image_18 : decode cX6_image 18 = .ok (.putfield 256, 3) := by decide +kernel
theorem dX6_image_21 : decode cX6_image 21 = .ok (.aload_n 0, 1) := by decide +kernel
theorem dX6_image_22 : decode cX6_image 22 = .ok (.aload_n 0, 1) := by decide +kernel
theorem dX6_image_23 : decode cX6_image 23 = .ok (.getfield 197, 3) := by decide +kernel
theorem dX6_image_26 : decode cX6_image 26 = .ok (.putfield 259, 3) := by decide +kernel
theorem dX6_image_29 : decode cX6_image 29 = .ok (.aload_n 0, 1) := by decide +kernel
theorem dX6_image_30 : decode cX6_image 30 = .ok (.aload_n 0, 1) := by decide +kernel
theorem dX6_image_31 : decode cX6_image 31 = .ok (.getfield 226, 3) := by decide +kernel
theorem dX6_image_34 : decode cX6_image 34 = .ok (.putfield 262, 3) := by decide +kernel
theorem dX6_image_37 : decode cX6_image 37 = .ok (.iconst 0, 1) := by decide +kernel
theorem dX6_image_38 : decode cX6_image 38 = .ok (.istore_n 1, 1) := by decide +kernel
theorem dX6_image_39 : decode cX6_image 39 = .ok (.iload_n 1, 1) := by decide +kernel
theorem dX6_image_40 : decode cX6_image 40 = .ok (.iconst 4, 1) := by decide +kernel
theorem dX6_image_41 : decode cX6_image 41 = .ok (.if_icmp .ge 21, 3) := by decide +kernel
theorem dX6_image_44 : decode cX6_image 44 = .ok (.aload_n 0, 1) := by decide +kernel
theorem dX6_image_45 : decode cX6_image 45 = .ok (.getfield 63, 3) := by decide +kernel
theorem dX6_image_48 : decode cX6_image 48 = .ok (.iload_n 1, 1) := by decide +kernel
theorem dX6_image_49 : decode cX6_image 49 = .ok (.aload_n 0, 1) := by decide +kernel
theorem dX6_image_50 : decode cX6_image 50 = .ok (.getfield 34, 3) := by decide +kernel
theorem dX6_image_53 : decode cX6_image 53 = .ok (.iload_n 1, 1) := by decide +kernel
theorem dX6_image_54 : decode cX6_image 54 = .ok (.iaload, 1) := by decide +kernel
theorem dX6_image_55 : decode cX6_image 55 = .ok (.iastore, 1) := by decide +kernel
theorem dX6_image_56 : decode cX6_image 56 = .ok (.iinc 1 1, 3) := by decide +kernel
theorem dX6_image_59 : decode cX6_image 59 = .ok (.goto (-20), 3) := by decide +kernel
theorem dX6_image_62 : decode cX6_image 62 = .ok (.iconst 0, 1) := by decide +kernel
theorem dX6_image_63 : decode cX6_image 63 = .ok (.istore_n 1, 1) := by decide +kernel
theorem dX6_image_64 : decode cX6_image 64 = .ok (.iload_n 1, 1) := by decide +kernel
theorem dX6_image_65 : decode cX6_image 65 = .ok (.bipush 6, 2) := by decide +kernel
theorem dX6_image_67 : decode cX6_image 67 = .ok (.if_icmp .ge 21, 3) := by decide +kernel
theorem dX6_image_70 : decode cX6_image 70 = .ok (.aload_n 0, 1) := by decide +kernel
theorem dX6_image_71 : decode cX6_image 71 = .ok (.getfield 66, 3) := by decide +kernel
theorem dX6_image_74 : decode cX6_image 74 = .ok (.iload_n 1, 1) := by decide +kernel
theorem dX6_image_75 : decode cX6_image 75 = .ok (.aload_n 0, 1) := by decide +kernel
theorem dX6_image_76 : decode cX6_image 76 = .ok (.getfield 37, 3) := by decide +kernel
theorem dX6_image_79 : decode cX6_image 79 = .ok (.iload_n 1, 1) := by decide +kernel
theorem dX6_image_80 : decode cX6_image 80 = .ok (.iaload, 1) := by decide +kernel
theorem dX6_image_81 : decode cX6_image 81 = .ok (.iastore, 1) := by decide +kernel
theorem dX6_image_82 : decode cX6_image 82 = .ok (.iinc 1 1, 3) := by decide +kernel
theorem dX6_image_85 : decode cX6_image 85 = .ok (.goto (-21), 3) := by decide +kernel
theorem dX6_image_88 : decode cX6_image 88 = .ok (.aload_n 0, 1) := by decide +kernel
theorem dX6_image_89 : decode cX6_image 89 = .ok (.getfield 162, 3) := by decide +kernel
theorem dX6_image_92 : decode cX6_image 92 = .ok (.ireturn, 1) := by decide +kernel
theorem dX6_restore_0 : decode cX6_restore 0 = .ok (.aload_n 0, 1) := by decide +kernel
theorem dX6_restore_1 : decode cX6_restore 1 = .ok (.getfield 250, 3) := by decide +kernel
theorem dX6_restore_4 : decode cX6_restore 4 = .ok (.ifCond .ne 6, 3) := by decide +kernel
theorem dX6_restore_7 : decode cX6_restore 7 = .ok (.bipush (-103), 2) := by decide +kernel
theorem dX6_restore_9 : decode cX6_restore 9 = .ok (.ireturn, 1) := by decide +kernel
theorem dX6_restore_10 : decode cX6_restore 10 = .ok (.aload_n 0, 1) := by decide +kernel
theorem dX6_restore_11 : decode cX6_restore 11 = .ok (.aload_n 0, 1) := by decide +kernel
theorem dX6_restore_12 : decode cX6_restore 12 = .ok (.getfield 253, 3) := by decide +kernel
theorem dX6_restore_15 : decode cX6_restore 15 = .ok (.putfield 162, 3) := by decide +kernel
theorem dX6_restore_18 : decode cX6_restore 18 = .ok (.aload_n 0, 1) := by decide +kernel
theorem dX6_restore_19 : decode cX6_restore 19 = .ok (.aload_n 0, 1) := by decide +kernel
theorem dX6_restore_20 : decode cX6_restore 20 = .ok (.getfield 256, 3) := by decide +kernel
theorem dX6_restore_23 : decode cX6_restore 23 = .ok (.putfield 175, 3) := by decide +kernel
theorem dX6_restore_26 : decode cX6_restore 26 = .ok (.aload_n 0, 1) := by decide +kernel
theorem dX6_restore_27 : decode cX6_restore 27 = .ok (.aload_n 0, 1) := by decide +kernel
theorem dX6_restore_28 : decode cX6_restore 28 = .ok (.getfield 259, 3) := by decide +kernel
theorem dX6_restore_31 : decode cX6_restore 31 = .ok (.putfield 197, 3) := by decide +kernel
theorem dX6_restore_34 : decode cX6_restore 34 = .ok (.aload_n 0, 1) := by decide +kernel
theorem dX6_restore_35 : decode cX6_restore 35 = .ok (.aload_n 0, 1) := by decide +kernel
theorem dX6_restore_36 : decode cX6_restore 36 = .ok (.getfield 262, 3) := by decide +kernel
theorem dX6_restore_39 : decode cX6_restore 39 = .ok (.putfield 226, 3) := by decide +kernel
theorem dX6_restore_42 : decode cX6_restore 42 = .ok (.iconst 0, 1) := by decide +kernel
theorem dX6_restore_43 : decode cX6_restore 43 = .ok (.istore_n 1, 1) := by decide +kernel
theorem dX6_restore_44 : decode cX6_restore 44 = .ok (.iload_n 1, 1) := by decide +kernel
theorem dX6_restore_45 : decode cX6_restore 45 = .ok (.iconst 4, 1) := by decide +kernel
theorem dX6_restore_46 : decode cX6_restore 46 = .ok (.if_icmp .ge 21, 3) := by decide +kernel
theorem dX6_restore_49 : decode cX6_restore 49 = .ok (.aload_n 0, 1) := by decide +kernel
theorem dX6_restore_50 : decode cX6_restore 50 = .ok (.getfield 34, 3) := by decide +kernel
theorem dX6_restore_53 : decode cX6_restore 53 = .ok (.iload_n 1, 1) := by decide +kernel
theorem dX6_restore_54 : decode cX6_restore 54 = .ok (.aload_n 0, 1) := by decide +kernel
theorem dX6_restore_55 : decode cX6_restore 55 = .ok (.getfield 63, 3) := by decide +kernel
theorem dX6_restore_58 : decode cX6_restore 58 = .ok (.iload_n 1, 1) := by decide +kernel
theorem dX6_restore_59 : decode cX6_restore 59 = .ok (.iaload, 1) := by decide +kernel
theorem dX6_restore_60 : decode cX6_restore 60 = .ok (.iastore, 1) := by decide +kernel
theorem dX6_restore_61 : decode cX6_restore 61 = .ok (.iinc 1 1, 3) := by decide +kernel
theorem dX6_restore_64 : decode cX6_restore 64 = .ok (.goto (-20), 3) := by decide +kernel
theorem dX6_restore_67 : decode cX6_restore 67 = .ok (.iconst 0, 1) := by decide +kernel
theorem dX6_restore_68 : decode cX6_restore 68 = .ok (.istore_n 1, 1) := by decide +kernel
theorem dX6_restore_69 : decode cX6_restore 69 = .ok (.iload_n 1, 1) := by decide +kernel
theorem dX6_restore_70 : decode cX6_restore 70 = .ok (.bipush 6, 2) := by decide +kernel
theorem dX6_restore_72 : decode cX6_restore 72 = .ok (.if_icmp .ge 21, 3) := by decide +kernel
theorem dX6_restore_75 : decode cX6_restore 75 = .ok (.aload_n 0, 1) := by decide +kernel
theorem dX6_restore_76 : decode cX6_restore 76 = .ok (.getfield 37, 3) := by decide +kernel
theorem dX6_restore_79 : decode cX6_restore 79 = .ok (.iload_n 1, 1) := by decide +kernel
theorem dX6_restore_80 : decode cX6_restore 80 = .ok (.aload_n 0, 1) := by decide +kernel
theorem dX6_restore_81 : decode cX6_restore 81 = .ok (.getfield 66, 3) := by decide +kernel
theorem dX6_restore_84 : decode cX6_restore 84 = .ok (.iload_n 1, 1) := by decide +kernel
theorem dX6_restore_85 : decode cX6_restore 85 = .ok (.iaload, 1) := by decide +kernel
theorem dX6_restore_86 : decode cX6_restore 86 = .ok (.iastore, 1) := by decide +kernel
theorem dX6_restore_87 : decode cX6_restore 87 = .ok (.iinc 1 1, 3) := by decide +kernel
theorem dX6_restore_90 : decode cX6_restore 90 = .ok (.goto (-21), 3) := by decide +kernel
theorem dX6_restore_93 : decode cX6_restore 93 = .ok (.aload_n 0, 1) := by decide +kernel
theorem dX6_restore_94 : decode cX6_restore 94 = .ok (.getfield 162, 3) := by decide +kernel
theorem dX6_restore_97 : decode cX6_restore 97 = .ok (.ireturn, 1) := by decide +kernel
theorem dX6_readingsOf_0 : decode cX6_readingsOf 0 = .ok (.iload_n 1, 1) := by decide +kernel
theorem dX6_readingsOf_1 : decode cX6_readingsOf 1 = .ok (.ifCond .ne 7, 3) := by decide +kernel
theorem dX6_readingsOf_4 : decode cX6_readingsOf 4 = .ok (.iconst 0, 1) := by decide +kernel
theorem dX6_readingsOf_5 : decode cX6_readingsOf 5 = .ok (.goto 16, 3) := by decide +kernel
theorem dX6_readingsOf_8 : decode cX6_readingsOf 8 = .ok (.iload_n 1, 1) := by decide +kernel
theorem dX6_readingsOf_9 : decode cX6_readingsOf 9 = .ok (.invokestatic 123, 3) := by decide +kernel
theorem dX6_readingsOf_12 : decode cX6_readingsOf 12 = .ok (.aload_n 0, 1) := by decide +kernel
theorem dX6_readingsOf_13 : decode cX6_readingsOf 13 = .ok (.iload_n 1, 1) := by decide +kernel
theorem dX6_readingsOf_14 : decode cX6_readingsOf 14 = .ok (.iload_n 2, 1) := by decide +kernel
theorem dX6_readingsOf_15 : decode cX6_readingsOf 15 = .ok (.invokevirtual 120, 3) := by decide +kernel
theorem dX6_readingsOf_18 : decode cX6_readingsOf 18 = .ok (.iload_n 1, 1) := by decide +kernel
theorem dX6_readingsOf_19 : decode cX6_readingsOf 19 = .ok (.iadd, 1) := by decide +kernel
theorem dX6_readingsOf_20 : decode cX6_readingsOf 20 = .ok (.ishl, 1) := by decide +kernel
theorem dX6_readingsOf_21 : decode cX6_readingsOf 21 = .ok (.ireturn, 1) := by decide +kernel
theorem dX6_howMany_0 : decode cX6_howMany 0 = .ok (.iload_n 1, 1) := by decide +kernel
theorem dX6_howMany_1 : decode cX6_howMany 1 = .ok (.tableswitch 115 0 9 #[55, 65, 70, 80, 85, 90, 95, 100, 105, 110], 55) := by decide +kernel
theorem dX6_howMany_56 : decode cX6_howMany 56 = .ok (.aload_n 0, 1) := by decide +kernel
theorem dX6_howMany_57 : decode cX6_howMany 57 = .ok (.aload_n 0, 1) := by decide +kernel
theorem dX6_howMany_58 : decode cX6_howMany 58 = .ok (.getfield 97, 3) := by decide +kernel
theorem dX6_howMany_61 : decode cX6_howMany 61 = .ok (.iconst 0, 1) := by decide +kernel
theorem dX6_howMany_62 : decode cX6_howMany 62 = .ok (.invokevirtual 265, 3) := by decide +kernel
theorem dX6_howMany_65 : decode cX6_howMany 65 = .ok (.ireturn, 1) := by decide +kernel
theorem dX6_howMany_66 : decode cX6_howMany 66 = .ok (.aload_n 0, 1) := by decide +kernel
theorem dX6_howMany_67 : decode cX6_howMany 67 = .ok (.getfield 97, 3) := by decide +kernel
theorem dX6_howMany_70 : decode cX6_howMany 70 = .ok (.ireturn, 1) := by decide +kernel
theorem dX6_howMany_71 : decode cX6_howMany 71 = .ok (.aload_n 0, 1) := by decide +kernel
theorem dX6_howMany_72 : decode cX6_howMany 72 = .ok (.aload_n 0, 1) := by decide +kernel
theorem dX6_howMany_73 : decode cX6_howMany 73 = .ok (.getfield 100, 3) := by decide +kernel
theorem dX6_howMany_76 : decode cX6_howMany 76 = .ok (.iconst 1, 1) := by decide +kernel
theorem dX6_howMany_77 : decode cX6_howMany 77 = .ok (.invokevirtual 265, 3) := by decide +kernel
theorem dX6_howMany_80 : decode cX6_howMany 80 = .ok (.ireturn, 1) := by decide +kernel
theorem dX6_howMany_81 : decode cX6_howMany 81 = .ok (.aload_n 0, 1) := by decide +kernel
theorem dX6_howMany_82 : decode cX6_howMany 82 = .ok (.getfield 175, 3) := by decide +kernel
theorem dX6_howMany_85 : decode cX6_howMany 85 = .ok (.ireturn, 1) := by decide +kernel
theorem dX6_howMany_86 : decode cX6_howMany 86 = .ok (.aload_n 0, 1) := by decide +kernel
theorem dX6_howMany_87 : decode cX6_howMany 87 = .ok (.getfield 197, 3) := by decide +kernel
theorem dX6_howMany_90 : decode cX6_howMany 90 = .ok (.ireturn, 1) := by decide +kernel
theorem dX6_howMany_91 : decode cX6_howMany 91 = .ok (.aload_n 0, 1) := by decide +kernel
theorem dX6_howMany_92 : decode cX6_howMany 92 = .ok (.getfield 162, 3) := by decide +kernel
theorem dX6_howMany_95 : decode cX6_howMany 95 = .ok (.ireturn, 1) := by decide +kernel
theorem dX6_howMany_96 : decode cX6_howMany 96 = .ok (.aload_n 0, 1) := by decide +kernel
theorem dX6_howMany_97 : decode cX6_howMany 97 = .ok (.getfield 226, 3) := by decide +kernel
theorem dX6_howMany_100 : decode cX6_howMany 100 = .ok (.ireturn, 1) := by decide +kernel
theorem dX6_howMany_101 : decode cX6_howMany 101 = .ok (.aload_n 0, 1) := by decide +kernel
theorem dX6_howMany_102 : decode cX6_howMany 102 = .ok (.getfield 73, 3) := by decide +kernel
theorem dX6_howMany_105 : decode cX6_howMany 105 = .ok (.ireturn, 1) := by decide +kernel
theorem dX6_howMany_106 : decode cX6_howMany 106 = .ok (.aload_n 0, 1) := by decide +kernel
theorem dX6_howMany_107 : decode cX6_howMany 107 = .ok (.getfield 103, 3) := by decide +kernel
theorem dX6_howMany_110 : decode cX6_howMany 110 = .ok (.ireturn, 1) := by decide +kernel
theorem dX6_howMany_111 : decode cX6_howMany 111 = .ok (.aload_n 0, 1) := by decide +kernel
theorem dX6_howMany_112 : decode cX6_howMany 112 = .ok (.getfield 220, 3) := by decide +kernel
theorem dX6_howMany_115 : decode cX6_howMany 115 = .ok (.ireturn, 1) := by decide +kernel
theorem dX6_howMany_116 : decode cX6_howMany 116 = .ok (.bipush (-102), 2) := by decide +kernel
theorem dX6_howMany_118 : decode cX6_howMany 118 = .ok (.ireturn, 1) := by decide +kernel
theorem dX6_count_0 : decode cX6_count 0 = .ok (.aload_n 0, 1) := by decide +kernel
theorem dX6_count_1 : decode cX6_count 1 = .ok (.iload_n 1, 1) := by decide +kernel
theorem dX6_count_2 : decode cX6_count 2 = .ok (.invokevirtual 268, 3) := by decide +kernel
theorem dX6_count_5 : decode cX6_count 5 = .ok (.ireturn, 1) := by decide +kernel
theorem dX6_mix_0 : decode cX6_mix 0 = .ok (.aload_n 0, 1) := by decide +kernel
theorem dX6_mix_1 : decode cX6_mix 1 = .ok (.ldc2_w 271, 3) := by decide +kernel
theorem dX6_mix_4 : decode cX6_mix 4 = .ok (.aload_n 0, 1) := by decide +kernel
theorem dX6_mix_5 : decode cX6_mix 5 = .ok (.getfield 273, 3) := by decide +kernel
theorem dX6_mix_8 : decode cX6_mix 8 = .ok (.lmul, 1) := by decide +kernel
theorem dX6_mix_9 : decode cX6_mix 9 = .ok (.lload_n 1, 1) := by decide +kernel
theorem dX6_mix_10 : decode cX6_mix 10 = .ok (.ladd, 1) := by decide +kernel
theorem dX6_mix_11 : decode cX6_mix 11 = .ok (.putfield 273, 3) := by decide +kernel
theorem dX6_mix_14 : decode cX6_mix 14 = .ok (.return_, 1) := by decide +kernel
theorem dX6_digest_0 : decode cX6_digest 0 = .ok (.aload_n 0, 1) := by decide +kernel
theorem dX6_digest_1 : decode cX6_digest 1 = .ok (.ldc2_w 276, 3) := by decide +kernel
theorem dX6_digest_4 : decode cX6_digest 4 = .ok (.putfield 273, 3) := by decide +kernel
theorem dX6_digest_7 : decode cX6_digest 7 = .ok (.iconst 0, 1) := by decide +kernel
theorem dX6_digest_8 : decode cX6_digest 8 = .ok (.istore_n 1, 1) := by decide +kernel
theorem dX6_digest_9 : decode cX6_digest 9 = .ok (.iload_n 1, 1) := by decide +kernel
theorem dX6_digest_10 : decode cX6_digest 10 = .ok (.bipush 6, 2) := by decide +kernel
theorem dX6_digest_12 : decode cX6_digest 12 = .ok (.if_icmp .ge 20, 3) := by decide +kernel
theorem dX6_digest_15 : decode cX6_digest 15 = .ok (.aload_n 0, 1) := by decide +kernel
theorem dX6_digest_16 : decode cX6_digest 16 = .ok (.aload_n 0, 1) := by decide +kernel
theorem dX6_digest_17 : decode cX6_digest 17 = .ok (.getfield 7, 3) := by decide +kernel
theorem dX6_digest_20 : decode cX6_digest 20 = .ok (.iload_n 1, 1) := by decide +kernel
theorem dX6_digest_21 : decode cX6_digest 21 = .ok (.iaload, 1) := by decide +kernel
theorem dX6_digest_22 : decode cX6_digest 22 = .ok (.i2l, 1) := by decide +kernel
theorem dX6_digest_23 : decode cX6_digest 23 = .ok (.invokevirtual 278, 3) := by decide +kernel
theorem dX6_digest_26 : decode cX6_digest 26 = .ok (.iinc 1 1, 3) := by decide +kernel
theorem dX6_digest_29 : decode cX6_digest 29 = .ok (.goto (-20), 3) := by decide +kernel
theorem dX6_digest_32 : decode cX6_digest 32 = .ok (.iconst 0, 1) := by decide +kernel
theorem dX6_digest_33 : decode cX6_digest 33 = .ok (.istore_n 1, 1) := by decide +kernel
theorem dX6_digest_34 : decode cX6_digest 34 = .ok (.iload_n 1, 1) := by decide +kernel
theorem dX6_digest_35 : decode cX6_digest 35 = .ok (.bipush 6, 2) := by decide +kernel
theorem dX6_digest_37 : decode cX6_digest 37 = .ok (.if_icmp .ge 22, 3) := by decide +kernel
theorem dX6_digest_40 : decode cX6_digest 40 = .ok (.aload_n 0, 1) := by decide +kernel
theorem dX6_digest_41 : decode cX6_digest 41 = .ok (.aload_n 0, 1) := by decide +kernel
theorem dX6_digest_42 : decode cX6_digest 42 = .ok (.getfield 162, 3) := by decide +kernel
theorem dX6_digest_45 : decode cX6_digest 45 = .ok (.iload_n 1, 1) := by decide +kernel
theorem dX6_digest_46 : decode cX6_digest 46 = .ok (.ishr, 1) := by decide +kernel
theorem dX6_digest_47 : decode cX6_digest 47 = .ok (.iconst 1, 1) := by decide +kernel
theorem dX6_digest_48 : decode cX6_digest 48 = .ok (.iand, 1) := by decide +kernel
theorem dX6_digest_49 : decode cX6_digest 49 = .ok (.i2l, 1) := by decide +kernel
theorem dX6_digest_50 : decode cX6_digest 50 = .ok (.invokevirtual 278, 3) := by decide +kernel
theorem dX6_digest_53 : decode cX6_digest 53 = .ok (.iinc 1 1, 3) := by decide +kernel
theorem dX6_digest_56 : decode cX6_digest 56 = .ok (.goto (-22), 3) := by decide +kernel
theorem dX6_digest_59 : decode cX6_digest 59 = .ok (.aload_n 0, 1) := by decide +kernel
theorem dX6_digest_60 : decode cX6_digest 60 = .ok (.aload_n 0, 1) := by decide +kernel
theorem dX6_digest_61 : decode cX6_digest 61 = .ok (.getfield 97, 3) := by decide +kernel
theorem dX6_digest_64 : decode cX6_digest 64 = .ok (.iconst 0, 1) := by decide +kernel
theorem dX6_digest_65 : decode cX6_digest 65 = .ok (.invokevirtual 106, 3) := by decide +kernel
theorem dX6_digest_68 : decode cX6_digest 68 = .ok (.iconst 0, 1) := by decide +kernel
theorem dX6_digest_69 : decode cX6_digest 69 = .ok (.istore_n 1, 1) := by decide +kernel
theorem dX6_digest_70 : decode cX6_digest 70 = .ok (.iload_n 1, 1) := by decide +kernel
theorem dX6_digest_71 : decode cX6_digest 71 = .ok (.aload_n 0, 1) := by decide +kernel
theorem dX6_digest_72 : decode cX6_digest 72 = .ok (.getfield 175, 3) := by decide +kernel
theorem dX6_digest_75 : decode cX6_digest 75 = .ok (.if_icmp .ge 34, 3) := by decide +kernel
theorem dX6_digest_78 : decode cX6_digest 78 = .ok (.iconst 0, 1) := by decide +kernel
theorem dX6_digest_79 : decode cX6_digest 79 = .ok (.istore_n 2, 1) := by decide +kernel
theorem dX6_digest_80 : decode cX6_digest 80 = .ok (.iload_n 2, 1) := by decide +kernel
theorem dX6_digest_81 : decode cX6_digest 81 = .ok (.bipush 6, 2) := by decide +kernel
theorem dX6_digest_83 : decode cX6_digest 83 = .ok (.if_icmp .ge 20, 3) := by decide +kernel
theorem dX6_digest_86 : decode cX6_digest 86 = .ok (.aload_n 0, 1) := by decide +kernel
theorem dX6_digest_87 : decode cX6_digest 87 = .ok (.aload_n 0, 1) := by decide +kernel
theorem dX6_digest_88 : decode cX6_digest 88 = .ok (.iload_n 1, 1) := by decide +kernel
theorem dX6_digest_89 : decode cX6_digest 89 = .ok (.iload_n 2, 1) := by decide +kernel
theorem dX6_digest_90 : decode cX6_digest 90 = .ok (.invokevirtual 187, 3) := by decide +kernel
theorem dX6_digest_93 : decode cX6_digest 93 = .ok (.i2l, 1) := by decide +kernel
theorem dX6_digest_94 : decode cX6_digest 94 = .ok (.invokevirtual 278, 3) := by decide +kernel
theorem dX6_digest_97 : decode cX6_digest 97 = .ok (.iinc 2 1, 3) := by decide +kernel
theorem dX6_digest_100 : decode cX6_digest 100 = .ok (.goto (-20), 3) := by decide +kernel
theorem dX6_digest_103 : decode cX6_digest 103 = .ok (.iinc 1 1, 3) := by decide +kernel
theorem dX6_digest_106 : decode cX6_digest 106 = .ok (.goto (-36), 3) := by decide +kernel
theorem dX6_digest_109 : decode cX6_digest 109 = .ok (.aload_n 0, 1) := by decide +kernel
theorem dX6_digest_110 : decode cX6_digest 110 = .ok (.getfield 97, 3) := by decide +kernel
theorem dX6_digest_113 : decode cX6_digest 113 = .ok (.ifCond .le 71, 3) := by decide +kernel
theorem dX6_digest_116 : decode cX6_digest 116 = .ok (.aload_n 0, 1) := by decide +kernel
theorem dX6_digest_117 : decode cX6_digest 117 = .ok (.aload_n 0, 1) := by decide +kernel
theorem dX6_digest_118 : decode cX6_digest 118 = .ok (.iconst 0, 1) := by decide +kernel
theorem dX6_digest_119 : decode cX6_digest 119 = .ok (.invokevirtual 165, 3) := by decide +kernel
theorem dX6_digest_122 : decode cX6_digest 122 = .ok (.i2l, 1) := by decide +kernel
theorem dX6_digest_123 : decode cX6_digest 123 = .ok (.invokevirtual 278, 3) := by decide +kernel
theorem dX6_digest_126 : decode cX6_digest 126 = .ok (.aload_n 0, 1) := by decide +kernel
theorem dX6_digest_127 : decode cX6_digest 127 = .ok (.aload_n 0, 1) := by decide +kernel
theorem dX6_digest_128 : decode cX6_digest 128 = .ok (.iconst 1, 1) := by decide +kernel
theorem dX6_digest_129 : decode cX6_digest 129 = .ok (.invokevirtual 165, 3) := by decide +kernel
theorem dX6_digest_132 : decode cX6_digest 132 = .ok (.i2l, 1) := by decide +kernel
theorem dX6_digest_133 : decode cX6_digest 133 = .ok (.invokevirtual 278, 3) := by decide +kernel
theorem dX6_digest_136 : decode cX6_digest 136 = .ok (.aload_n 0, 1) := by decide +kernel
theorem dX6_digest_137 : decode cX6_digest 137 = .ok (.aload_n 0, 1) := by decide +kernel
theorem dX6_digest_138 : decode cX6_digest 138 = .ok (.invokevirtual 210, 3) := by decide +kernel
theorem dX6_digest_141 : decode cX6_digest 141 = .ok (.i2l, 1) := by decide +kernel
theorem dX6_digest_142 : decode cX6_digest 142 = .ok (.invokevirtual 278, 3) := by decide +kernel
theorem dX6_digest_145 : decode cX6_digest 145 = .ok (.aload_n 0, 1) := by decide +kernel
theorem dX6_digest_146 : decode cX6_digest 146 = .ok (.aload_n 0, 1) := by decide +kernel
theorem dX6_digest_147 : decode cX6_digest 147 = .ok (.iconst 0, 1) := by decide +kernel
theorem dX6_digest_148 : decode cX6_digest 148 = .ok (.invokevirtual 214, 3) := by decide +kernel
theorem dX6_digest_151 : decode cX6_digest 151 = .ok (.i2l, 1) := by decide +kernel
theorem dX6_digest_152 : decode cX6_digest 152 = .ok (.invokevirtual 278, 3) := by decide +kernel
theorem dX6_digest_155 : decode cX6_digest 155 = .ok (.aload_n 0, 1) := by decide +kernel
theorem dX6_digest_156 : decode cX6_digest 156 = .ok (.aload_n 0, 1) := by decide +kernel
theorem dX6_digest_157 : decode cX6_digest 157 = .ok (.iconst 1, 1) := by decide +kernel
theorem dX6_digest_158 : decode cX6_digest 158 = .ok (.invokevirtual 214, 3) := by decide +kernel
theorem dX6_digest_161 : decode cX6_digest 161 = .ok (.i2l, 1) := by decide +kernel
theorem dX6_digest_162 : decode cX6_digest 162 = .ok (.invokevirtual 278, 3) := by decide +kernel
theorem dX6_digest_165 : decode cX6_digest 165 = .ok (.aload_n 0, 1) := by decide +kernel
theorem dX6_digest_166 : decode cX6_digest 166 = .ok (.aload_n 0, 1) := by decide +kernel
theorem dX6_digest_167 : decode cX6_digest 167 = .ok (.iconst 2, 1) := by decide +kernel
theorem dX6_digest_168 : decode cX6_digest 168 = .ok (.invokevirtual 214, 3) := by decide +kernel
theorem dX6_digest_171 : decode cX6_digest 171 = .ok (.i2l, 1) := by decide +kernel
theorem dX6_digest_172 : decode cX6_digest 172 = .ok (.invokevirtual 278, 3) := by decide +kernel
theorem dX6_digest_175 : decode cX6_digest 175 = .ok (.aload_n 0, 1) := by decide +kernel
theorem dX6_digest_176 : decode cX6_digest 176 = .ok (.aload_n 0, 1) := by decide +kernel
theorem dX6_digest_177 : decode cX6_digest 177 = .ok (.invokevirtual 217, 3) := by decide +kernel
theorem dX6_digest_180 : decode cX6_digest 180 = .ok (.i2l, 1) := by decide +kernel
theorem dX6_digest_181 : decode cX6_digest 181 = .ok (.invokevirtual 278, 3) := by decide +kernel
theorem dX6_digest_184 : decode cX6_digest 184 = .ok (.iconst 0, 1) := by decide +kernel
theorem dX6_digest_185 : decode cX6_digest 185 = .ok (.istore_n 1, 1) := by decide +kernel
theorem dX6_digest_186 : decode cX6_digest 186 = .ok (.iload_n 1, 1) := by decide +kernel
theorem dX6_digest_187 : decode cX6_digest 187 = .ok (.aload_n 0, 1) := by decide +kernel
theorem dX6_digest_188 : decode cX6_digest 188 = .ok (.getfield 175, 3) := by decide +kernel
theorem dX6_digest_191 : decode cX6_digest 191 = .ok (.if_icmp .ge 45, 3) := by decide +kernel
theorem dX6_digest_194 : decode cX6_digest 194 = .ok (.aload_n 0, 1) := by decide +kernel
theorem dX6_digest_195 : decode cX6_digest 195 = .ok (.getfield 97, 3) := by decide +kernel
theorem dX6_digest_198 : decode cX6_digest 198 = .ok (.ifCond .le 38, 3) := by decide +kernel
theorem dX6_digest_201 : decode cX6_digest 201 = .ok (.aload_n 0, 1) := by decide +kernel
theorem dX6_digest_202 : decode cX6_digest 202 = .ok (.getfield 226, 3) := by decide +kernel
theorem dX6_digest_205 : decode cX6_digest 205 = .ok (.ifCond .le 31, 3) := by decide +kernel
theorem dX6_digest_208 : decode cX6_digest 208 = .ok (.aload_n 0, 1) := by decide +kernel
theorem dX6_digest_209 : decode cX6_digest 209 = .ok (.aload_n 0, 1) := by decide +kernel
theorem dX6_digest_210 : decode cX6_digest 210 = .ok (.iload_n 1, 1) := by decide +kernel
theorem dX6_digest_211 : decode cX6_digest 211 = .ok (.iconst 0, 1) := by decide +kernel
theorem dX6_digest_212 : decode cX6_digest 212 = .ok (.invokevirtual 229, 3) := by decide +kernel
theorem dX6_digest_215 : decode cX6_digest 215 = .ok (.i2l, 1) := by decide +kernel
theorem dX6_digest_216 : decode cX6_digest 216 = .ok (.invokevirtual 278, 3) := by decide +kernel
theorem dX6_digest_219 : decode cX6_digest 219 = .ok (.aload_n 0, 1) := by decide +kernel
theorem dX6_digest_220 : decode cX6_digest 220 = .ok (.aload_n 0, 1) := by decide +kernel
theorem dX6_digest_221 : decode cX6_digest 221 = .ok (.iload_n 1, 1) := by decide +kernel
theorem dX6_digest_222 : decode cX6_digest 222 = .ok (.iconst 1, 1) := by decide +kernel
theorem dX6_digest_223 : decode cX6_digest 223 = .ok (.invokevirtual 229, 3) := by decide +kernel
theorem dX6_digest_226 : decode cX6_digest 226 = .ok (.i2l, 1) := by decide +kernel
theorem dX6_digest_227 : decode cX6_digest 227 = .ok (.invokevirtual 278, 3) := by decide +kernel
theorem dX6_digest_230 : decode cX6_digest 230 = .ok (.iinc 1 1, 3) := by decide +kernel
theorem dX6_digest_233 : decode cX6_digest 233 = .ok (.goto (-47), 3) := by decide +kernel
theorem dX6_digest_236 : decode cX6_digest 236 = .ok (.iconst 0, 1) := by decide +kernel
theorem dX6_digest_237 : decode cX6_digest 237 = .ok (.istore_n 1, 1) := by decide +kernel
theorem dX6_digest_238 : decode cX6_digest 238 = .ok (.iload_n 1, 1) := by decide +kernel
theorem dX6_digest_239 : decode cX6_digest 239 = .ok (.aload_n 0, 1) := by decide +kernel
theorem dX6_digest_240 : decode cX6_digest 240 = .ok (.getfield 73, 3) := by decide +kernel
theorem dX6_digest_243 : decode cX6_digest 243 = .ok (.if_icmp .ge 20, 3) := by decide +kernel
theorem dX6_digest_246 : decode cX6_digest 246 = .ok (.aload_n 0, 1) := by decide +kernel
theorem dX6_digest_247 : decode cX6_digest 247 = .ok (.aload_n 0, 1) := by decide +kernel
theorem dX6_digest_248 : decode cX6_digest 248 = .ok (.getfield 40, 3) := by decide +kernel
theorem dX6_digest_251 : decode cX6_digest 251 = .ok (.iload_n 1, 1) := by decide +kernel
theorem dX6_digest_252 : decode cX6_digest 252 = .ok (.baload, 1) := by decide +kernel
theorem dX6_digest_253 : decode cX6_digest 253 = .ok (.i2l, 1) := by decide +kernel
theorem dX6_digest_254 : decode cX6_digest 254 = .ok (.invokevirtual 278, 3) := by decide +kernel
theorem dX6_digest_257 : decode cX6_digest 257 = .ok (.iinc 1 1, 3) := by decide +kernel
theorem dX6_digest_260 : decode cX6_digest 260 = .ok (.goto (-22), 3) := by decide +kernel
theorem dX6_digest_263 : decode cX6_digest 263 = .ok (.iconst 0, 1) := by decide +kernel
theorem dX6_digest_264 : decode cX6_digest 264 = .ok (.istore_n 1, 1) := by decide +kernel
theorem dX6_digest_265 : decode cX6_digest 265 = .ok (.iload_n 1, 1) := by decide +kernel
theorem dX6_digest_266 : decode cX6_digest 266 = .ok (.bipush 10, 2) := by decide +kernel
theorem dX6_digest_268 : decode cX6_digest 268 = .ok (.if_icmp .ge 19, 3) := by decide +kernel
theorem dX6_digest_271 : decode cX6_digest 271 = .ok (.aload_n 0, 1) := by decide +kernel
theorem dX6_digest_272 : decode cX6_digest 272 = .ok (.aload_n 0, 1) := by decide +kernel
theorem dX6_digest_273 : decode cX6_digest 273 = .ok (.iload_n 1, 1) := by decide +kernel
theorem dX6_digest_274 : decode cX6_digest 274 = .ok (.invokevirtual 268, 3) := by decide +kernel
theorem dX6_digest_277 : decode cX6_digest 277 = .ok (.i2l, 1) := by decide +kernel
theorem dX6_digest_278 : decode cX6_digest 278 = .ok (.invokevirtual 278, 3) := by decide +kernel
theorem dX6_digest_281 : decode cX6_digest 281 = .ok (.iinc 1 1, 3) := by decide +kernel
theorem dX6_digest_284 : decode cX6_digest 284 = .ok (.goto (-19), 3) := by decide +kernel
theorem dX6_digest_287 : decode cX6_digest 287 = .ok (.aload_n 0, 1) := by decide +kernel
theorem dX6_digest_288 : decode cX6_digest 288 = .ok (.getfield 273, 3) := by decide +kernel
theorem dX6_digest_291 : decode cX6_digest 291 = .ok (.lreturn, 1) := by decide +kernel
end
section
theorem dL_law_0 : decode cL_law 0 = .ok (.new 7, 3) := by decide +kernel
theorem dL_law_3 : decode cL_law 3 = .ok (.dup, 1) := by decide +kernel
theorem dL_law_4 : decode cL_law 4 = .ok (.invokespecial 9, 3) := by decide +kernel
theorem dL_law_7 : decode cL_law 7 = .ok (.astore_n 1, 1) := by decide +kernel
theorem dL_law_8 : decode cL_law 8 = .ok (.new 10, 3) := by decide +kernel
theorem dL_law_11 : decode cL_law 11 = .ok (.dup, 1) := by decide +kernel
theorem dL_law_12 : decode cL_law 12 = .ok (.invokespecial 12, 3) := by decide +kernel
theorem dL_law_15 : decode cL_law 15 = .ok (.astore_n 2, 1) := by decide +kernel
theorem dL_law_16 : decode cL_law 16 = .ok (.iconst 0, 1) := by decide +kernel
theorem dL_law_17 : decode cL_law 17 = .ok (.istore_n 3, 1) := by decide +kernel
theorem dL_law_18 : decode cL_law 18 = .ok (.iload_n 3, 1) := by decide +kernel
theorem dL_law_19 : decode cL_law 19 = .ok (.aload_n 0, 1) := by decide +kernel
theorem dL_law_20 : decode cL_law 20 = .ok (.arraylength, 1) := by decide +kernel
theorem dL_law_21 : decode cL_law 21 = .ok (.iconst 4, 1) := by decide +kernel
theorem dL_law_22 : decode cL_law 22 = .ok (.isub, 1) := by decide +kernel
theorem dL_law_23 : decode cL_law 23 = .ok (.if_icmp .gt 788, 3) := by decide +kernel
theorem dL_law_26 : decode cL_law 26 = .ok (.aload_n 0, 1) := by decide +kernel
theorem dL_law_27 : decode cL_law 27 = .ok (.iload_n 3, 1) := by decide +kernel
theorem dL_law_28 : decode cL_law 28 = .ok (.iaload, 1) := by decide +kernel
theorem dL_law_29 : decode cL_law 29 = .ok (.bipush 31, 2) := by decide +kernel
theorem dL_law_31 : decode cL_law 31 = .ok (.iand, 1) := by decide +kernel
theorem dL_law_32 : decode cL_law 32 = .ok (.tableswitch 773 0 27 #[128, 151, 164, 187, 200, 213, 236, 259, 292, 315, 338, 371, 414, 447, 480, 503, 516, 529, 552, 565, 588, 611, 634, 667, 710, 723, 736, 759], 128) := by decide +kernel
theorem dL_law_160 : decode cL_law 160 = .ok (.aload_n 1, 1) := by decide +kernel
theorem dL_law_161 : decode cL_law 161 = .ok (.aload_n 0, 1) := by decide +kernel
theorem dL_law_162 : decode cL_law 162 = .ok (.iload_n 3, 1) := by decide +kernel
theorem dL_law_163 : decode cL_law 163 = .ok (.iconst 1, 1) := by decide +kernel
theorem dL_law_164 : decode cL_law 164 = .ok (.iadd, 1) := by decide +kernel
theorem dL_law_165 : decode cL_law 165 = .ok (.iaload, 1) := by decide +kernel
theorem dL_law_166 : decode cL_law 166 = .ok (.invokevirtual 13, 3) := by decide +kernel
theorem dL_law_169 : decode cL_law 169 = .ok (.aload_n 2, 1) := by decide +kernel
theorem dL_law_170 : decode cL_law 170 = .ok (.aload_n 0, 1) := by decide +kernel
theorem dL_law_171 : decode cL_law 171 = .ok (.iload_n 3, 1) := by decide +kernel
theorem dL_law_172 : decode cL_law 172 = .ok (.iconst 1, 1) := by decide +kernel
theorem dL_law_173 : decode cL_law 173 = .ok (.iadd, 1) := by decide +kernel
theorem dL_law_174 : decode cL_law 174 = .ok (.iaload, 1) := by decide +kernel
theorem dL_law_175 : decode cL_law 175 = .ok (.invokevirtual 17, 3) := by decide +kernel
theorem dL_law_178 : decode cL_law 178 = .ok (.if_icmp .eq 627, 3) := by decide +kernel
theorem dL_law_181 : decode cL_law 181 = .ok (.iconst 0, 1) := by decide +kernel
theorem dL_law_182 : decode cL_law 182 = .ok (.ireturn, 1) := by decide +kernel
theorem dL_law_183 : decode cL_law 183 = .ok (.aload_n 1, 1) := by decide +kernel
theorem dL_law_184 : decode cL_law 184 = .ok (.invokevirtual 18, 3) := by decide +kernel
theorem dL_law_187 : decode cL_law 187 = .ok (.aload_n 2, 1) := by decide +kernel
theorem dL_law_188 : decode cL_law 188 = .ok (.invokevirtual 22, 3) := by decide +kernel
theorem dL_law_191 : decode cL_law 191 = .ok (.if_icmp .eq 614, 3) := by decide +kernel
theorem dL_law_194 : decode cL_law 194 = .ok (.iconst 0, 1) := by decide +kernel
theorem dL_law_195 : decode cL_law 195 = .ok (.ireturn, 1) := by decide +kernel
theorem dL_law_196 : decode cL_law 196 = .ok (.aload_n 1, 1) := by decide +kernel
theorem dL_law_197 : decode cL_law 197 = .ok (.aload_n 0, 1) := by decide +kernel
theorem dL_law_198 : decode cL_law 198 = .ok (.iload_n 3, 1) := by decide +kernel
theorem dL_law_199 : decode cL_law 199 = .ok (.iconst 1, 1) := by decide +kernel
theorem dL_law_200 : decode cL_law 200 = .ok (.iadd, 1) := by decide +kernel
theorem dL_law_201 : decode cL_law 201 = .ok (.iaload, 1) := by decide +kernel
theorem dL_law_202 : decode cL_law 202 = .ok (.invokevirtual 23, 3) := by decide +kernel
theorem dL_law_205 : decode cL_law 205 = .ok (.aload_n 2, 1) := by decide +kernel
theorem dL_law_206 : decode cL_law 206 = .ok (.aload_n 0, 1) := by decide +kernel
theorem dL_law_207 : decode cL_law 207 = .ok (.iload_n 3, 1) := by decide +kernel
theorem dL_law_208 : decode cL_law 208 = .ok (.iconst 1, 1) := by decide +kernel
theorem dL_law_209 : decode cL_law 209 = .ok (.iadd, 1) := by decide +kernel
theorem dL_law_210 : decode cL_law 210 = .ok (.iaload, 1) := by decide +kernel
theorem dL_law_211 : decode cL_law 211 = .ok (.invokevirtual 26, 3) := by decide +kernel
theorem dL_law_214 : decode cL_law 214 = .ok (.if_icmp .eq 591, 3) := by decide +kernel
theorem dL_law_217 : decode cL_law 217 = .ok (.iconst 0, 1) := by decide +kernel
theorem dL_law_218 : decode cL_law 218 = .ok (.ireturn, 1) := by decide +kernel
theorem dL_law_219 : decode cL_law 219 = .ok (.aload_n 1, 1) := by decide +kernel
theorem dL_law_220 : decode cL_law 220 = .ok (.invokevirtual 27, 3) := by decide +kernel
theorem dL_law_223 : decode cL_law 223 = .ok (.aload_n 2, 1) := by decide +kernel
theorem dL_law_224 : decode cL_law 224 = .ok (.invokevirtual 30, 3) := by decide +kernel
theorem dL_law_227 : decode cL_law 227 = .ok (.if_icmp .eq 578, 3) := by decide +kernel
theorem dL_law_230 : decode cL_law 230 = .ok (.iconst 0, 1) := by decide +kernel
theorem dL_law_231 : decode cL_law 231 = .ok (.ireturn, 1) := by decide +kernel
theorem dL_law_232 : decode cL_law 232 = .ok (.aload_n 1, 1) := by decide +kernel
theorem dL_law_233 : decode cL_law 233 = .ok (.invokevirtual 31, 3) := by decide +kernel
theorem dL_law_236 : decode cL_law 236 = .ok (.aload_n 2, 1) := by decide +kernel
theorem dL_law_237 : decode cL_law 237 = .ok (.invokevirtual 34, 3) := by decide +kernel
theorem dL_law_240 : decode cL_law 240 = .ok (.if_icmp .eq 565, 3) := by decide +kernel
theorem dL_law_243 : decode cL_law 243 = .ok (.iconst 0, 1) := by decide +kernel
theorem dL_law_244 : decode cL_law 244 = .ok (.ireturn, 1) := by decide +kernel
theorem dL_law_245 : decode cL_law 245 = .ok (.aload_n 1, 1) := by decide +kernel
theorem dL_law_246 : decode cL_law 246 = .ok (.aload_n 0, 1) := by decide +kernel
theorem dL_law_247 : decode cL_law 247 = .ok (.iload_n 3, 1) := by decide +kernel
theorem dL_law_248 : decode cL_law 248 = .ok (.iconst 1, 1) := by decide +kernel
theorem dL_law_249 : decode cL_law 249 = .ok (.iadd, 1) := by decide +kernel
theorem dL_law_250 : decode cL_law 250 = .ok (.iaload, 1) := by decide +kernel
theorem dL_law_251 : decode cL_law 251 = .ok (.invokevirtual 35, 3) := by decide +kernel
theorem dL_law_254 : decode cL_law 254 = .ok (.aload_n 2, 1) := by decide +kernel
theorem dL_law_255 : decode cL_law 255 = .ok (.aload_n 0, 1) := by decide +kernel
theorem dL_law_256 : decode cL_law 256 = .ok (.iload_n 3, 1) := by decide +kernel
theorem dL_law_257 : decode cL_law 257 = .ok (.iconst 1, 1) := by decide +kernel
theorem dL_law_258 : decode cL_law 258 = .ok (.iadd, 1) := by decide +kernel
theorem dL_law_259 : decode cL_law 259 = .ok (.iaload, 1) := by decide +kernel
theorem dL_law_260 : decode cL_law 260 = .ok (.invokevirtual 38, 3) := by decide +kernel
theorem dL_law_263 : decode cL_law 263 = .ok (.if_icmp .eq 542, 3) := by decide +kernel
theorem dL_law_266 : decode cL_law 266 = .ok (.iconst 0, 1) := by decide +kernel
theorem dL_law_267 : decode cL_law 267 = .ok (.ireturn, 1) := by decide +kernel
theorem dL_law_268 : decode cL_law 268 = .ok (.aload_n 1, 1) := by decide +kernel
theorem dL_law_269 : decode cL_law 269 = .ok (.aload_n 0, 1) := by decide +kernel
theorem dL_law_270 : decode cL_law 270 = .ok (.iload_n 3, 1) := by decide +kernel
theorem dL_law_271 : decode cL_law 271 = .ok (.iconst 1, 1) := by decide +kernel
theorem dL_law_272 : decode cL_law 272 = .ok (.iadd, 1) := by decide +kernel
theorem dL_law_273 : decode cL_law 273 = .ok (.iaload, 1) := by decide +kernel
theorem dL_law_274 : decode cL_law 274 = .ok (.invokevirtual 39, 3) := by decide +kernel
theorem dL_law_277 : decode cL_law 277 = .ok (.aload_n 2, 1) := by decide +kernel
theorem dL_law_278 : decode cL_law 278 = .ok (.aload_n 0, 1) := by decide +kernel
theorem dL_law_279 : decode cL_law 279 = .ok (.iload_n 3, 1) := by decide +kernel
theorem dL_law_280 : decode cL_law 280 = .ok (.iconst 1, 1) := by decide +kernel
theorem dL_law_281 : decode cL_law 281 = .ok (.iadd, 1) := by decide +kernel
theorem dL_law_282 : decode cL_law 282 = .ok (.iaload, 1) := by decide +kernel
theorem dL_law_283 : decode cL_law 283 = .ok (.invokevirtual 42, 3) := by decide +kernel
theorem dL_law_286 : decode cL_law 286 = .ok (.if_icmp .eq 519, 3) := by decide +kernel
theorem dL_law_289 : decode cL_law 289 = .ok (.iconst 0, 1) := by decide +kernel
theorem dL_law_290 : decode cL_law 290 = .ok (.ireturn, 1) := by decide +kernel
theorem dL_law_291 : decode cL_law 291 = .ok (.aload_n 1, 1) := by decide +kernel
theorem dL_law_292 : decode cL_law 292 = .ok (.aload_n 0, 1) := by decide +kernel
theorem dL_law_293 : decode cL_law 293 = .ok (.iload_n 3, 1) := by decide +kernel
theorem dL_law_294 : decode cL_law 294 = .ok (.iconst 1, 1) := by decide +kernel
theorem dL_law_295 : decode cL_law 295 = .ok (.iadd, 1) := by decide +kernel
theorem dL_law_296 : decode cL_law 296 = .ok (.iaload, 1) := by decide +kernel
theorem dL_law_297 : decode cL_law 297 = .ok (.aload_n 0, 1) := by decide +kernel
theorem dL_law_298 : decode cL_law 298 = .ok (.iload_n 3, 1) := by decide +kernel
theorem dL_law_299 : decode cL_law 299 = .ok (.iconst 2, 1) := by decide +kernel
theorem dL_law_300 : decode cL_law 300 = .ok (.iadd, 1) := by decide +kernel
theorem dL_law_301 : decode cL_law 301 = .ok (.iaload, 1) := by decide +kernel
theorem dL_law_302 : decode cL_law 302 = .ok (.invokevirtual 43, 3) := by decide +kernel
theorem dL_law_305 : decode cL_law 305 = .ok (.aload_n 2, 1) := by decide +kernel
theorem dL_law_306 : decode cL_law 306 = .ok (.aload_n 0, 1) := by decide +kernel
theorem dL_law_307 : decode cL_law 307 = .ok (.iload_n 3, 1) := by decide +kernel
theorem dL_law_308 : decode cL_law 308 = .ok (.iconst 1, 1) := by decide +kernel
theorem dL_law_309 : decode cL_law 309 = .ok (.iadd, 1) := by decide +kernel
theorem dL_law_310 : decode cL_law 310 = .ok (.iaload, 1) := by decide +kernel
theorem dL_law_311 : decode cL_law 311 = .ok (.aload_n 0, 1) := by decide +kernel
theorem dL_law_312 : decode cL_law 312 = .ok (.iload_n 3, 1) := by decide +kernel
theorem dL_law_313 : decode cL_law 313 = .ok (.iconst 2, 1) := by decide +kernel
theorem dL_law_314 : decode cL_law 314 = .ok (.iadd, 1) := by decide +kernel
theorem dL_law_315 : decode cL_law 315 = .ok (.iaload, 1) := by decide +kernel
theorem dL_law_316 : decode cL_law 316 = .ok (.invokevirtual 47, 3) := by decide +kernel
theorem dL_law_319 : decode cL_law 319 = .ok (.if_icmp .eq 486, 3) := by decide +kernel
theorem dL_law_322 : decode cL_law 322 = .ok (.iconst 0, 1) := by decide +kernel
theorem dL_law_323 : decode cL_law 323 = .ok (.ireturn, 1) := by decide +kernel
theorem dL_law_324 : decode cL_law 324 = .ok (.aload_n 1, 1) := by decide +kernel
theorem dL_law_325 : decode cL_law 325 = .ok (.aload_n 0, 1) := by decide +kernel
theorem dL_law_326 : decode cL_law 326 = .ok (.iload_n 3, 1) := by decide +kernel
theorem dL_law_327 : decode cL_law 327 = .ok (.iconst 1, 1) := by decide +kernel
theorem dL_law_328 : decode cL_law 328 = .ok (.iadd, 1) := by decide +kernel
theorem dL_law_329 : decode cL_law 329 = .ok (.iaload, 1) := by decide +kernel
theorem dL_law_330 : decode cL_law 330 = .ok (.invokevirtual 48, 3) := by decide +kernel
theorem dL_law_333 : decode cL_law 333 = .ok (.aload_n 2, 1) := by decide +kernel
theorem dL_law_334 : decode cL_law 334 = .ok (.aload_n 0, 1) := by decide +kernel
theorem dL_law_335 : decode cL_law 335 = .ok (.iload_n 3, 1) := by decide +kernel
theorem dL_law_336 : decode cL_law 336 = .ok (.iconst 1, 1) := by decide +kernel
theorem dL_law_337 : decode cL_law 337 = .ok (.iadd, 1) := by decide +kernel
theorem dL_law_338 : decode cL_law 338 = .ok (.iaload, 1) := by decide +kernel
theorem dL_law_339 : decode cL_law 339 = .ok (.invokevirtual 51, 3) := by decide +kernel
theorem dL_law_342 : decode cL_law 342 = .ok (.if_icmp .eq 463, 3) := by decide +kernel
theorem dL_law_345 : decode cL_law 345 = .ok (.iconst 0, 1) := by decide +kernel
theorem dL_law_346 : decode cL_law 346 = .ok (.ireturn, 1) := by decide +kernel
theorem dL_law_347 : decode cL_law 347 = .ok (.aload_n 1, 1) := by decide +kernel
theorem dL_law_348 : decode cL_law 348 = .ok (.aload_n 0, 1) := by decide +kernel
theorem dL_law_349 : decode cL_law 349 = .ok (.iload_n 3, 1) := by decide +kernel
theorem dL_law_350 : decode cL_law 350 = .ok (.iconst 1, 1) := by decide +kernel
theorem dL_law_351 : decode cL_law 351 = .ok (.iadd, 1) := by decide +kernel
theorem dL_law_352 : decode cL_law 352 = .ok (.iaload, 1) := by decide +kernel
theorem dL_law_353 : decode cL_law 353 = .ok (.invokevirtual 52, 3) := by decide +kernel
theorem dL_law_356 : decode cL_law 356 = .ok (.aload_n 2, 1) := by decide +kernel
theorem dL_law_357 : decode cL_law 357 = .ok (.aload_n 0, 1) := by decide +kernel
theorem dL_law_358 : decode cL_law 358 = .ok (.iload_n 3, 1) := by decide +kernel
theorem dL_law_359 : decode cL_law 359 = .ok (.iconst 1, 1) := by decide +kernel
theorem dL_law_360 : decode cL_law 360 = .ok (.iadd, 1) := by decide +kernel
theorem dL_law_361 : decode cL_law 361 = .ok (.iaload, 1) := by decide +kernel
theorem dL_law_362 : decode cL_law 362 = .ok (.invokevirtual 55, 3) := by decide +kernel
theorem dL_law_365 : decode cL_law 365 = .ok (.if_icmp .eq 440, 3) := by decide +kernel
theorem dL_law_368 : decode cL_law 368 = .ok (.iconst 0, 1) := by decide +kernel
theorem dL_law_369 : decode cL_law 369 = .ok (.ireturn, 1) := by decide +kernel
theorem dL_law_370 : decode cL_law 370 = .ok (.aload_n 1, 1) := by decide +kernel
theorem dL_law_371 : decode cL_law 371 = .ok (.aload_n 0, 1) := by decide +kernel
theorem dL_law_372 : decode cL_law 372 = .ok (.iload_n 3, 1) := by decide +kernel
theorem dL_law_373 : decode cL_law 373 = .ok (.iconst 1, 1) := by decide +kernel
theorem dL_law_374 : decode cL_law 374 = .ok (.iadd, 1) := by decide +kernel
theorem dL_law_375 : decode cL_law 375 = .ok (.iaload, 1) := by decide +kernel
theorem dL_law_376 : decode cL_law 376 = .ok (.aload_n 0, 1) := by decide +kernel
theorem dL_law_377 : decode cL_law 377 = .ok (.iload_n 3, 1) := by decide +kernel
theorem dL_law_378 : decode cL_law 378 = .ok (.iconst 2, 1) := by decide +kernel
theorem dL_law_379 : decode cL_law 379 = .ok (.iadd, 1) := by decide +kernel
theorem dL_law_380 : decode cL_law 380 = .ok (.iaload, 1) := by decide +kernel
theorem dL_law_381 : decode cL_law 381 = .ok (.invokevirtual 56, 3) := by decide +kernel
theorem dL_law_384 : decode cL_law 384 = .ok (.aload_n 2, 1) := by decide +kernel
theorem dL_law_385 : decode cL_law 385 = .ok (.aload_n 0, 1) := by decide +kernel
theorem dL_law_386 : decode cL_law 386 = .ok (.iload_n 3, 1) := by decide +kernel
theorem dL_law_387 : decode cL_law 387 = .ok (.iconst 1, 1) := by decide +kernel
theorem dL_law_388 : decode cL_law 388 = .ok (.iadd, 1) := by decide +kernel
theorem dL_law_389 : decode cL_law 389 = .ok (.iaload, 1) := by decide +kernel
theorem dL_law_390 : decode cL_law 390 = .ok (.aload_n 0, 1) := by decide +kernel
theorem dL_law_391 : decode cL_law 391 = .ok (.iload_n 3, 1) := by decide +kernel
theorem dL_law_392 : decode cL_law 392 = .ok (.iconst 2, 1) := by decide +kernel
theorem dL_law_393 : decode cL_law 393 = .ok (.iadd, 1) := by decide +kernel
theorem dL_law_394 : decode cL_law 394 = .ok (.iaload, 1) := by decide +kernel
theorem dL_law_395 : decode cL_law 395 = .ok (.invokevirtual 59, 3) := by decide +kernel
theorem dL_law_398 : decode cL_law 398 = .ok (.if_icmp .eq 407, 3) := by decide +kernel
theorem dL_law_401 : decode cL_law 401 = .ok (.iconst 0, 1) := by decide +kernel
theorem dL_law_402 : decode cL_law 402 = .ok (.ireturn, 1) := by decide +kernel
theorem dL_law_403 : decode cL_law 403 = .ok (.aload_n 1, 1) := by decide +kernel
theorem dL_law_404 : decode cL_law 404 = .ok (.aload_n 0, 1) := by decide +kernel
theorem dL_law_405 : decode cL_law 405 = .ok (.iload_n 3, 1) := by decide +kernel
theorem dL_law_406 : decode cL_law 406 = .ok (.iconst 1, 1) := by decide +kernel
theorem dL_law_407 : decode cL_law 407 = .ok (.iadd, 1) := by decide +kernel
theorem dL_law_408 : decode cL_law 408 = .ok (.iaload, 1) := by decide +kernel
theorem dL_law_409 : decode cL_law 409 = .ok (.aload_n 0, 1) := by decide +kernel
theorem dL_law_410 : decode cL_law 410 = .ok (.iload_n 3, 1) := by decide +kernel
theorem dL_law_411 : decode cL_law 411 = .ok (.iconst 2, 1) := by decide +kernel
theorem dL_law_412 : decode cL_law 412 = .ok (.iadd, 1) := by decide +kernel
theorem dL_law_413 : decode cL_law 413 = .ok (.iaload, 1) := by decide +kernel
theorem dL_law_414 : decode cL_law 414 = .ok (.aload_n 0, 1) := by decide +kernel
theorem dL_law_415 : decode cL_law 415 = .ok (.iload_n 3, 1) := by decide +kernel
theorem dL_law_416 : decode cL_law 416 = .ok (.iconst 3, 1) := by decide +kernel
theorem dL_law_417 : decode cL_law 417 = .ok (.iadd, 1) := by decide +kernel
theorem dL_law_418 : decode cL_law 418 = .ok (.iaload, 1) := by decide +kernel
theorem dL_law_419 : decode cL_law 419 = .ok (.invokevirtual 60, 3) := by decide +kernel
theorem dL_law_422 : decode cL_law 422 = .ok (.aload_n 2, 1) := by decide +kernel
theorem dL_law_423 : decode cL_law 423 = .ok (.aload_n 0, 1) := by decide +kernel
theorem dL_law_424 : decode cL_law 424 = .ok (.iload_n 3, 1) := by decide +kernel
theorem dL_law_425 : decode cL_law 425 = .ok (.iconst 1, 1) := by decide +kernel
theorem dL_law_426 : decode cL_law 426 = .ok (.iadd, 1) := by decide +kernel
theorem dL_law_427 : decode cL_law 427 = .ok (.iaload, 1) := by decide +kernel
theorem dL_law_428 : decode cL_law 428 = .ok (.aload_n 0, 1) := by decide +kernel
theorem dL_law_429 : decode cL_law 429 = .ok (.iload_n 3, 1) := by decide +kernel
theorem dL_law_430 : decode cL_law 430 = .ok (.iconst 2, 1) := by decide +kernel
theorem dL_law_431 : decode cL_law 431 = .ok (.iadd, 1) := by decide +kernel
theorem dL_law_432 : decode cL_law 432 = .ok (.iaload, 1) := by decide +kernel
theorem dL_law_433 : decode cL_law 433 = .ok (.aload_n 0, 1) := by decide +kernel
theorem dL_law_434 : decode cL_law 434 = .ok (.iload_n 3, 1) := by decide +kernel
theorem dL_law_435 : decode cL_law 435 = .ok (.iconst 3, 1) := by decide +kernel
theorem dL_law_436 : decode cL_law 436 = .ok (.iadd, 1) := by decide +kernel
theorem dL_law_437 : decode cL_law 437 = .ok (.iaload, 1) := by decide +kernel
theorem dL_law_438 : decode cL_law 438 = .ok (.invokevirtual 64, 3) := by decide +kernel
theorem dL_law_441 : decode cL_law 441 = .ok (.if_icmp .eq 364, 3) := by decide +kernel
theorem dL_law_444 : decode cL_law 444 = .ok (.iconst 0, 1) := by decide +kernel
theorem dL_law_445 : decode cL_law 445 = .ok (.ireturn, 1) := by decide +kernel
theorem dL_law_446 : decode cL_law 446 = .ok (.aload_n 1, 1) := by decide +kernel
theorem dL_law_447 : decode cL_law 447 = .ok (.aload_n 0, 1) := by decide +kernel
theorem dL_law_448 : decode cL_law 448 = .ok (.iload_n 3, 1) := by decide +kernel
theorem dL_law_449 : decode cL_law 449 = .ok (.iconst 1, 1) := by decide +kernel
theorem dL_law_450 : decode cL_law 450 = .ok (.iadd, 1) := by decide +kernel
theorem dL_law_451 : decode cL_law 451 = .ok (.iaload, 1) := by decide +kernel
theorem dL_law_452 : decode cL_law 452 = .ok (.aload_n 0, 1) := by decide +kernel
theorem dL_law_453 : decode cL_law 453 = .ok (.iload_n 3, 1) := by decide +kernel
theorem dL_law_454 : decode cL_law 454 = .ok (.iconst 2, 1) := by decide +kernel
theorem dL_law_455 : decode cL_law 455 = .ok (.iadd, 1) := by decide +kernel
theorem dL_law_456 : decode cL_law 456 = .ok (.iaload, 1) := by decide +kernel
theorem dL_law_457 : decode cL_law 457 = .ok (.invokevirtual 65, 3) := by decide +kernel
theorem dL_law_460 : decode cL_law 460 = .ok (.aload_n 2, 1) := by decide +kernel
theorem dL_law_461 : decode cL_law 461 = .ok (.aload_n 0, 1) := by decide +kernel
theorem dL_law_462 : decode cL_law 462 = .ok (.iload_n 3, 1) := by decide +kernel
theorem dL_law_463 : decode cL_law 463 = .ok (.iconst 1, 1) := by decide +kernel
theorem dL_law_464 : decode cL_law 464 = .ok (.iadd, 1) := by decide +kernel
theorem dL_law_465 : decode cL_law 465 = .ok (.iaload, 1) := by decide +kernel
theorem dL_law_466 : decode cL_law 466 = .ok (.aload_n 0, 1) := by decide +kernel
theorem dL_law_467 : decode cL_law 467 = .ok (.iload_n 3, 1) := by decide +kernel
theorem dL_law_468 : decode cL_law 468 = .ok (.iconst 2, 1) := by decide +kernel
theorem dL_law_469 : decode cL_law 469 = .ok (.iadd, 1) := by decide +kernel
theorem dL_law_470 : decode cL_law 470 = .ok (.iaload, 1) := by decide +kernel
theorem dL_law_471 : decode cL_law 471 = .ok (.invokevirtual 68, 3) := by decide +kernel
theorem dL_law_474 : decode cL_law 474 = .ok (.if_icmp .eq 331, 3) := by decide +kernel
theorem dL_law_477 : decode cL_law 477 = .ok (.iconst 0, 1) := by decide +kernel
theorem dL_law_478 : decode cL_law 478 = .ok (.ireturn, 1) := by decide +kernel
theorem dL_law_479 : decode cL_law 479 = .ok (.aload_n 1, 1) := by decide +kernel
theorem dL_law_480 : decode cL_law 480 = .ok (.aload_n 0, 1) := by decide +kernel
theorem dL_law_481 : decode cL_law 481 = .ok (.iload_n 3, 1) := by decide +kernel
theorem dL_law_482 : decode cL_law 482 = .ok (.iconst 1, 1) := by decide +kernel
theorem dL_law_483 : decode cL_law 483 = .ok (.iadd, 1) := by decide +kernel
theorem dL_law_484 : decode cL_law 484 = .ok (.iaload, 1) := by decide +kernel
theorem dL_law_485 : decode cL_law 485 = .ok (.aload_n 0, 1) := by decide +kernel
theorem dL_law_486 : decode cL_law 486 = .ok (.iload_n 3, 1) := by decide +kernel
theorem dL_law_487 : decode cL_law 487 = .ok (.iconst 2, 1) := by decide +kernel
theorem dL_law_488 : decode cL_law 488 = .ok (.iadd, 1) := by decide +kernel
theorem dL_law_489 : decode cL_law 489 = .ok (.iaload, 1) := by decide +kernel
theorem dL_law_490 : decode cL_law 490 = .ok (.invokevirtual 69, 3) := by decide +kernel
theorem dL_law_493 : decode cL_law 493 = .ok (.aload_n 2, 1) := by decide +kernel
theorem dL_law_494 : decode cL_law 494 = .ok (.aload_n 0, 1) := by decide +kernel
theorem dL_law_495 : decode cL_law 495 = .ok (.iload_n 3, 1) := by decide +kernel
theorem dL_law_496 : decode cL_law 496 = .ok (.iconst 1, 1) := by decide +kernel
theorem dL_law_497 : decode cL_law 497 = .ok (.iadd, 1) := by decide +kernel
theorem dL_law_498 : decode cL_law 498 = .ok (.iaload, 1) := by decide +kernel
theorem dL_law_499 : decode cL_law 499 = .ok (.aload_n 0, 1) := by decide +kernel
theorem dL_law_500 : decode cL_law 500 = .ok (.iload_n 3, 1) := by decide +kernel
theorem dL_law_501 : decode cL_law 501 = .ok (.iconst 2, 1) := by decide +kernel
theorem dL_law_502 : decode cL_law 502 = .ok (.iadd, 1) := by decide +kernel
theorem dL_law_503 : decode cL_law 503 = .ok (.iaload, 1) := by decide +kernel
theorem dL_law_504 : decode cL_law 504 = .ok (.invokevirtual 72, 3) := by decide +kernel
theorem dL_law_507 : decode cL_law 507 = .ok (.if_icmp .eq 298, 3) := by decide +kernel
theorem dL_law_510 : decode cL_law 510 = .ok (.iconst 0, 1) := by decide +kernel
theorem dL_law_511 : decode cL_law 511 = .ok (.ireturn, 1) := by decide +kernel
theorem dL_law_512 : decode cL_law 512 = .ok (.aload_n 1, 1) := by decide +kernel
theorem dL_law_513 : decode cL_law 513 = .ok (.aload_n 0, 1) := by decide +kernel
theorem dL_law_514 : decode cL_law 514 = .ok (.iload_n 3, 1) := by decide +kernel
theorem dL_law_515 : decode cL_law 515 = .ok (.iconst 1, 1) := by decide +kernel
theorem dL_law_516 : decode cL_law 516 = .ok (.iadd, 1) := by decide +kernel
theorem dL_law_517 : decode cL_law 517 = .ok (.iaload, 1) := by decide +kernel
theorem dL_law_518 : decode cL_law 518 = .ok (.invokevirtual 73, 3) := by decide +kernel
theorem dL_law_521 : decode cL_law 521 = .ok (.aload_n 2, 1) := by decide +kernel
theorem dL_law_522 : decode cL_law 522 = .ok (.aload_n 0, 1) := by decide +kernel
theorem dL_law_523 : decode cL_law 523 = .ok (.iload_n 3, 1) := by decide +kernel
theorem dL_law_524 : decode cL_law 524 = .ok (.iconst 1, 1) := by decide +kernel
theorem dL_law_525 : decode cL_law 525 = .ok (.iadd, 1) := by decide +kernel
theorem dL_law_526 : decode cL_law 526 = .ok (.iaload, 1) := by decide +kernel
theorem dL_law_527 : decode cL_law 527 = .ok (.invokevirtual 76, 3) := by decide +kernel
theorem dL_law_530 : decode cL_law 530 = .ok (.if_icmp .eq 275, 3) := by decide +kernel
theorem dL_law_533 : decode cL_law 533 = .ok (.iconst 0, 1) := by decide +kernel
theorem dL_law_534 : decode cL_law 534 = .ok (.ireturn, 1) := by decide +kernel
theorem dL_law_535 : decode cL_law 535 = .ok (.aload_n 1, 1) := by decide +kernel
theorem dL_law_536 : decode cL_law 536 = .ok (.invokevirtual 77, 3) := by decide +kernel
theorem dL_law_539 : decode cL_law 539 = .ok (.aload_n 2, 1) := by decide +kernel
theorem dL_law_540 : decode cL_law 540 = .ok (.invokevirtual 80, 3) := by decide +kernel
theorem dL_law_543 : decode cL_law 543 = .ok (.if_icmp .eq 262, 3) := by decide +kernel
theorem dL_law_546 : decode cL_law 546 = .ok (.iconst 0, 1) := by decide +kernel
theorem dL_law_547 : decode cL_law 547 = .ok (.ireturn, 1) := by decide +kernel
theorem dL_law_548 : decode cL_law 548 = .ok (.aload_n 1, 1) := by decide +kernel
theorem dL_law_549 : decode cL_law 549 = .ok (.invokevirtual 81, 3) := by decide +kernel
theorem dL_law_552 : decode cL_law 552 = .ok (.aload_n 2, 1) := by decide +kernel
theorem dL_law_553 : decode cL_law 553 = .ok (.invokevirtual 84, 3) := by decide +kernel
theorem dL_law_556 : decode cL_law 556 = .ok (.if_icmp .eq 249, 3) := by decide +kernel
theorem dL_law_559 : decode cL_law 559 = .ok (.iconst 0, 1) := by decide +kernel
theorem dL_law_560 : decode cL_law 560 = .ok (.ireturn, 1) := by decide +kernel
theorem dL_law_561 : decode cL_law 561 = .ok (.aload_n 1, 1) := by decide +kernel
theorem dL_law_562 : decode cL_law 562 = .ok (.aload_n 0, 1) := by decide +kernel
theorem dL_law_563 : decode cL_law 563 = .ok (.iload_n 3, 1) := by decide +kernel
theorem dL_law_564 : decode cL_law 564 = .ok (.iconst 1, 1) := by decide +kernel
theorem dL_law_565 : decode cL_law 565 = .ok (.iadd, 1) := by decide +kernel
theorem dL_law_566 : decode cL_law 566 = .ok (.iaload, 1) := by decide +kernel
theorem dL_law_567 : decode cL_law 567 = .ok (.invokevirtual 85, 3) := by decide +kernel
theorem dL_law_570 : decode cL_law 570 = .ok (.aload_n 2, 1) := by decide +kernel
theorem dL_law_571 : decode cL_law 571 = .ok (.aload_n 0, 1) := by decide +kernel
theorem dL_law_572 : decode cL_law 572 = .ok (.iload_n 3, 1) := by decide +kernel
theorem dL_law_573 : decode cL_law 573 = .ok (.iconst 1, 1) := by decide +kernel
theorem dL_law_574 : decode cL_law 574 = .ok (.iadd, 1) := by decide +kernel
theorem dL_law_575 : decode cL_law 575 = .ok (.iaload, 1) := by decide +kernel
theorem dL_law_576 : decode cL_law 576 = .ok (.invokevirtual 88, 3) := by decide +kernel
theorem dL_law_579 : decode cL_law 579 = .ok (.if_icmp .eq 226, 3) := by decide +kernel
theorem dL_law_582 : decode cL_law 582 = .ok (.iconst 0, 1) := by decide +kernel
theorem dL_law_583 : decode cL_law 583 = .ok (.ireturn, 1) := by decide +kernel
theorem dL_law_584 : decode cL_law 584 = .ok (.aload_n 1, 1) := by decide +kernel
theorem dL_law_585 : decode cL_law 585 = .ok (.invokevirtual 89, 3) := by decide +kernel
theorem dL_law_588 : decode cL_law 588 = .ok (.aload_n 2, 1) := by decide +kernel
theorem dL_law_589 : decode cL_law 589 = .ok (.invokevirtual 92, 3) := by decide +kernel
theorem dL_law_592 : decode cL_law 592 = .ok (.if_icmp .eq 213, 3) := by decide +kernel
theorem dL_law_595 : decode cL_law 595 = .ok (.iconst 0, 1) := by decide +kernel
theorem dL_law_596 : decode cL_law 596 = .ok (.ireturn, 1) := by decide +kernel
theorem dL_law_597 : decode cL_law 597 = .ok (.aload_n 1, 1) := by decide +kernel
theorem dL_law_598 : decode cL_law 598 = .ok (.aload_n 0, 1) := by decide +kernel
theorem dL_law_599 : decode cL_law 599 = .ok (.iload_n 3, 1) := by decide +kernel
theorem dL_law_600 : decode cL_law 600 = .ok (.iconst 1, 1) := by decide +kernel
theorem dL_law_601 : decode cL_law 601 = .ok (.iadd, 1) := by decide +kernel
theorem dL_law_602 : decode cL_law 602 = .ok (.iaload, 1) := by decide +kernel
theorem dL_law_603 : decode cL_law 603 = .ok (.invokevirtual 93, 3) := by decide +kernel
theorem dL_law_606 : decode cL_law 606 = .ok (.aload_n 2, 1) := by decide +kernel
theorem dL_law_607 : decode cL_law 607 = .ok (.aload_n 0, 1) := by decide +kernel
theorem dL_law_608 : decode cL_law 608 = .ok (.iload_n 3, 1) := by decide +kernel
theorem dL_law_609 : decode cL_law 609 = .ok (.iconst 1, 1) := by decide +kernel
theorem dL_law_610 : decode cL_law 610 = .ok (.iadd, 1) := by decide +kernel
theorem dL_law_611 : decode cL_law 611 = .ok (.iaload, 1) := by decide +kernel
theorem dL_law_612 : decode cL_law 612 = .ok (.invokevirtual 96, 3) := by decide +kernel
theorem dL_law_615 : decode cL_law 615 = .ok (.if_icmp .eq 190, 3) := by decide +kernel
theorem dL_law_618 : decode cL_law 618 = .ok (.iconst 0, 1) := by decide +kernel
theorem dL_law_619 : decode cL_law 619 = .ok (.ireturn, 1) := by decide +kernel
theorem dL_law_620 : decode cL_law 620 = .ok (.aload_n 1, 1) := by decide +kernel
theorem dL_law_621 : decode cL_law 621 = .ok (.aload_n 0, 1) := by decide +kernel
theorem dL_law_622 : decode cL_law 622 = .ok (.iload_n 3, 1) := by decide +kernel
theorem dL_law_623 : decode cL_law 623 = .ok (.iconst 1, 1) := by decide +kernel
theorem dL_law_624 : decode cL_law 624 = .ok (.iadd, 1) := by decide +kernel
theorem dL_law_625 : decode cL_law 625 = .ok (.iaload, 1) := by decide +kernel
theorem dL_law_626 : decode cL_law 626 = .ok (.invokevirtual 97, 3) := by decide +kernel
theorem dL_law_629 : decode cL_law 629 = .ok (.aload_n 2, 1) := by decide +kernel
theorem dL_law_630 : decode cL_law 630 = .ok (.aload_n 0, 1) := by decide +kernel
theorem dL_law_631 : decode cL_law 631 = .ok (.iload_n 3, 1) := by decide +kernel
theorem dL_law_632 : decode cL_law 632 = .ok (.iconst 1, 1) := by decide +kernel
theorem dL_law_633 : decode cL_law 633 = .ok (.iadd, 1) := by decide +kernel
theorem dL_law_634 : decode cL_law 634 = .ok (.iaload, 1) := by decide +kernel
theorem dL_law_635 : decode cL_law 635 = .ok (.invokevirtual 100, 3) := by decide +kernel
theorem dL_law_638 : decode cL_law 638 = .ok (.if_icmp .eq 167, 3) := by decide +kernel
theorem dL_law_641 : decode cL_law 641 = .ok (.iconst 0, 1) := by decide +kernel
theorem dL_law_642 : decode cL_law 642 = .ok (.ireturn, 1) := by decide +kernel
theorem dL_law_643 : decode cL_law 643 = .ok (.aload_n 1, 1) := by decide +kernel
theorem dL_law_644 : decode cL_law 644 = .ok (.aload_n 0, 1) := by decide +kernel
theorem dL_law_645 : decode cL_law 645 = .ok (.iload_n 3, 1) := by decide +kernel
theorem dL_law_646 : decode cL_law 646 = .ok (.iconst 1, 1) := by decide +kernel
theorem dL_law_647 : decode cL_law 647 = .ok (.iadd, 1) := by decide +kernel
theorem dL_law_648 : decode cL_law 648 = .ok (.iaload, 1) := by decide +kernel
theorem dL_law_649 : decode cL_law 649 = .ok (.invokevirtual 101, 3) := by decide +kernel
theorem dL_law_652 : decode cL_law 652 = .ok (.aload_n 2, 1) := by decide +kernel
theorem dL_law_653 : decode cL_law 653 = .ok (.aload_n 0, 1) := by decide +kernel
theorem dL_law_654 : decode cL_law 654 = .ok (.iload_n 3, 1) := by decide +kernel
theorem dL_law_655 : decode cL_law 655 = .ok (.iconst 1, 1) := by decide +kernel
theorem dL_law_656 : decode cL_law 656 = .ok (.iadd, 1) := by decide +kernel
theorem dL_law_657 : decode cL_law 657 = .ok (.iaload, 1) := by decide +kernel
theorem dL_law_658 : decode cL_law 658 = .ok (.invokevirtual 104, 3) := by decide +kernel
theorem dL_law_661 : decode cL_law 661 = .ok (.if_icmp .eq 144, 3) := by decide +kernel
theorem dL_law_664 : decode cL_law 664 = .ok (.iconst 0, 1) := by decide +kernel
theorem dL_law_665 : decode cL_law 665 = .ok (.ireturn, 1) := by decide +kernel
theorem dL_law_666 : decode cL_law 666 = .ok (.aload_n 1, 1) := by decide +kernel
theorem dL_law_667 : decode cL_law 667 = .ok (.aload_n 0, 1) := by decide +kernel
theorem dL_law_668 : decode cL_law 668 = .ok (.iload_n 3, 1) := by decide +kernel
theorem dL_law_669 : decode cL_law 669 = .ok (.iconst 1, 1) := by decide +kernel
theorem dL_law_670 : decode cL_law 670 = .ok (.iadd, 1) := by decide +kernel
theorem dL_law_671 : decode cL_law 671 = .ok (.iaload, 1) := by decide +kernel
theorem dL_law_672 : decode cL_law 672 = .ok (.aload_n 0, 1) := by decide +kernel
theorem dL_law_673 : decode cL_law 673 = .ok (.iload_n 3, 1) := by decide +kernel
theorem dL_law_674 : decode cL_law 674 = .ok (.iconst 2, 1) := by decide +kernel
theorem dL_law_675 : decode cL_law 675 = .ok (.iadd, 1) := by decide +kernel
theorem dL_law_676 : decode cL_law 676 = .ok (.iaload, 1) := by decide +kernel
theorem dL_law_677 : decode cL_law 677 = .ok (.invokevirtual 105, 3) := by decide +kernel
theorem dL_law_680 : decode cL_law 680 = .ok (.aload_n 2, 1) := by decide +kernel
theorem dL_law_681 : decode cL_law 681 = .ok (.aload_n 0, 1) := by decide +kernel
theorem dL_law_682 : decode cL_law 682 = .ok (.iload_n 3, 1) := by decide +kernel
theorem dL_law_683 : decode cL_law 683 = .ok (.iconst 1, 1) := by decide +kernel
theorem dL_law_684 : decode cL_law 684 = .ok (.iadd, 1) := by decide +kernel
theorem dL_law_685 : decode cL_law 685 = .ok (.iaload, 1) := by decide +kernel
theorem dL_law_686 : decode cL_law 686 = .ok (.aload_n 0, 1) := by decide +kernel
theorem dL_law_687 : decode cL_law 687 = .ok (.iload_n 3, 1) := by decide +kernel
theorem dL_law_688 : decode cL_law 688 = .ok (.iconst 2, 1) := by decide +kernel
theorem dL_law_689 : decode cL_law 689 = .ok (.iadd, 1) := by decide +kernel
theorem dL_law_690 : decode cL_law 690 = .ok (.iaload, 1) := by decide +kernel
theorem dL_law_691 : decode cL_law 691 = .ok (.invokevirtual 108, 3) := by decide +kernel
theorem dL_law_694 : decode cL_law 694 = .ok (.if_icmp .eq 111, 3) := by decide +kernel
theorem dL_law_697 : decode cL_law 697 = .ok (.iconst 0, 1) := by decide +kernel
theorem dL_law_698 : decode cL_law 698 = .ok (.ireturn, 1) := by decide +kernel
theorem dL_law_699 : decode cL_law 699 = .ok (.aload_n 1, 1) := by decide +kernel
theorem dL_law_700 : decode cL_law 700 = .ok (.aload_n 0, 1) := by decide +kernel
theorem dL_law_701 : decode cL_law 701 = .ok (.iload_n 3, 1) := by decide +kernel
theorem dL_law_702 : decode cL_law 702 = .ok (.iconst 1, 1) := by decide +kernel
theorem dL_law_703 : decode cL_law 703 = .ok (.iadd, 1) := by decide +kernel
theorem dL_law_704 : decode cL_law 704 = .ok (.iaload, 1) := by decide +kernel
theorem dL_law_705 : decode cL_law 705 = .ok (.aload_n 0, 1) := by decide +kernel
theorem dL_law_706 : decode cL_law 706 = .ok (.iload_n 3, 1) := by decide +kernel
theorem dL_law_707 : decode cL_law 707 = .ok (.iconst 2, 1) := by decide +kernel
theorem dL_law_708 : decode cL_law 708 = .ok (.iadd, 1) := by decide +kernel
theorem dL_law_709 : decode cL_law 709 = .ok (.iaload, 1) := by decide +kernel
theorem dL_law_710 : decode cL_law 710 = .ok (.aload_n 0, 1) := by decide +kernel
theorem dL_law_711 : decode cL_law 711 = .ok (.iload_n 3, 1) := by decide +kernel
theorem dL_law_712 : decode cL_law 712 = .ok (.iconst 3, 1) := by decide +kernel
theorem dL_law_713 : decode cL_law 713 = .ok (.iadd, 1) := by decide +kernel
theorem dL_law_714 : decode cL_law 714 = .ok (.iaload, 1) := by decide +kernel
theorem dL_law_715 : decode cL_law 715 = .ok (.invokevirtual 109, 3) := by decide +kernel
theorem dL_law_718 : decode cL_law 718 = .ok (.aload_n 2, 1) := by decide +kernel
theorem dL_law_719 : decode cL_law 719 = .ok (.aload_n 0, 1) := by decide +kernel
theorem dL_law_720 : decode cL_law 720 = .ok (.iload_n 3, 1) := by decide +kernel
theorem dL_law_721 : decode cL_law 721 = .ok (.iconst 1, 1) := by decide +kernel
theorem dL_law_722 : decode cL_law 722 = .ok (.iadd, 1) := by decide +kernel
theorem dL_law_723 : decode cL_law 723 = .ok (.iaload, 1) := by decide +kernel
theorem dL_law_724 : decode cL_law 724 = .ok (.aload_n 0, 1) := by decide +kernel
theorem dL_law_725 : decode cL_law 725 = .ok (.iload_n 3, 1) := by decide +kernel
theorem dL_law_726 : decode cL_law 726 = .ok (.iconst 2, 1) := by decide +kernel
theorem dL_law_727 : decode cL_law 727 = .ok (.iadd, 1) := by decide +kernel
theorem dL_law_728 : decode cL_law 728 = .ok (.iaload, 1) := by decide +kernel
theorem dL_law_729 : decode cL_law 729 = .ok (.aload_n 0, 1) := by decide +kernel
theorem dL_law_730 : decode cL_law 730 = .ok (.iload_n 3, 1) := by decide +kernel
theorem dL_law_731 : decode cL_law 731 = .ok (.iconst 3, 1) := by decide +kernel
theorem dL_law_732 : decode cL_law 732 = .ok (.iadd, 1) := by decide +kernel
theorem dL_law_733 : decode cL_law 733 = .ok (.iaload, 1) := by decide +kernel
theorem dL_law_734 : decode cL_law 734 = .ok (.invokevirtual 112, 3) := by decide +kernel
theorem dL_law_737 : decode cL_law 737 = .ok (.if_icmp .eq 68, 3) := by decide +kernel
theorem dL_law_740 : decode cL_law 740 = .ok (.iconst 0, 1) := by decide +kernel
theorem dL_law_741 : decode cL_law 741 = .ok (.ireturn, 1) := by decide +kernel
theorem dL_law_742 : decode cL_law 742 = .ok (.aload_n 1, 1) := by decide +kernel
theorem dL_law_743 : decode cL_law 743 = .ok (.invokevirtual 113, 3) := by decide +kernel
theorem dL_law_746 : decode cL_law 746 = .ok (.aload_n 2, 1) := by decide +kernel
theorem dL_law_747 : decode cL_law 747 = .ok (.invokevirtual 116, 3) := by decide +kernel
theorem dL_law_750 : decode cL_law 750 = .ok (.if_icmp .eq 55, 3) := by decide +kernel
theorem dL_law_753 : decode cL_law 753 = .ok (.iconst 0, 1) := by decide +kernel
theorem dL_law_754 : decode cL_law 754 = .ok (.ireturn, 1) := by decide +kernel
theorem dL_law_755 : decode cL_law 755 = .ok (.aload_n 1, 1) := by decide +kernel
theorem dL_law_756 : decode cL_law 756 = .ok (.invokevirtual 117, 3) := by decide +kernel
theorem dL_law_759 : decode cL_law 759 = .ok (.aload_n 2, 1) := by decide +kernel
theorem dL_law_760 : decode cL_law 760 = .ok (.invokevirtual 120, 3) := by decide +kernel
theorem dL_law_763 : decode cL_law 763 = .ok (.if_icmp .eq 42, 3) := by decide +kernel
theorem dL_law_766 : decode cL_law 766 = .ok (.iconst 0, 1) := by decide +kernel
theorem dL_law_767 : decode cL_law 767 = .ok (.ireturn, 1) := by decide +kernel
theorem dL_law_768 : decode cL_law 768 = .ok (.aload_n 1, 1) := by decide +kernel
theorem dL_law_769 : decode cL_law 769 = .ok (.aload_n 0, 1) := by decide +kernel
theorem dL_law_770 : decode cL_law 770 = .ok (.iload_n 3, 1) := by decide +kernel
theorem dL_law_771 : decode cL_law 771 = .ok (.iconst 1, 1) := by decide +kernel
theorem dL_law_772 : decode cL_law 772 = .ok (.iadd, 1) := by decide +kernel
theorem dL_law_773 : decode cL_law 773 = .ok (.iaload, 1) := by decide +kernel
theorem dL_law_774 : decode cL_law 774 = .ok (.invokevirtual 121, 3) := by decide +kernel
theorem dL_law_777 : decode cL_law 777 = .ok (.aload_n 2, 1) := by decide +kernel
theorem dL_law_778 : decode cL_law 778 = .ok (.aload_n 0, 1) := by decide +kernel
theorem dL_law_779 : decode cL_law 779 = .ok (.iload_n 3, 1) := by decide +kernel
theorem dL_law_780 : decode cL_law 780 = .ok (.iconst 1, 1) := by decide +kernel
theorem dL_law_781 : decode cL_law 781 = .ok (.iadd, 1) := by decide +kernel
theorem dL_law_782 : decode cL_law 782 = .ok (.iaload, 1) := by decide +kernel
theorem dL_law_783 : decode cL_law 783 = .ok (.invokevirtual 124, 3) := by decide +kernel
theorem dL_law_786 : decode cL_law 786 = .ok (.if_icmp .eq 19, 3) := by decide +kernel
theorem dL_law_789 : decode cL_law 789 = .ok (.iconst 0, 1) := by decide +kernel
theorem dL_law_790 : decode cL_law 790 = .ok (.ireturn, 1) := by decide +kernel
theorem dL_law_791 : decode cL_law 791 = .ok (.aload_n 1, 1) := by decide +kernel
theorem dL_law_792 : decode cL_law 792 = .ok (.invokevirtual 125, 3) := by decide +kernel
theorem dL_law_795 : decode cL_law 795 = .ok (.aload_n 2, 1) := by decide +kernel
theorem dL_law_796 : decode cL_law 796 = .ok (.invokevirtual 129, 3) := by decide +kernel
theorem dL_law_799 : decode cL_law 799 = .ok (.lcmp, 1) := by decide +kernel
theorem dL_law_800 : decode cL_law 800 = .ok (.ifCond .eq 5, 3) := by decide +kernel
theorem dL_law_803 : decode cL_law 803 = .ok (.iconst 0, 1) := by decide +kernel
theorem dL_law_804 : decode cL_law 804 = .ok (.ireturn, 1) := by decide +kernel
theorem dL_law_805 : decode cL_law 805 = .ok (.iinc 3 4, 3) := by decide +kernel
theorem dL_law_808 : decode cL_law 808 = .ok (.goto (-790), 3) := by decide +kernel
theorem dL_law_811 : decode cL_law 811 = .ok (.iconst 1, 1) := by decide +kernel
theorem dL_law_812 : decode cL_law 812 = .ok (.ireturn, 1) := by decide +kernel
end
section
/-! words: all good words of the tables, for every method alike -/
def WT : List Cond := lw_tbl.filter goodWord
theorem wt (i : Nat) {w : Cond} (h : lw_tbl[i]? = some w) (g : goodWord w = true) : w ∈ WT := List.mem_filter.mpr ⟨List.mem_of_getElem? h, g⟩
theorem WT_in {w : Cond} (h : w ∈ WT) : w ∈ lw_tbl := (List.mem_filter.mp h).1
theorem WT_ok {w : Cond} (h : w ∈ WT) : (w.onTables && w.keeps) = true ∨ ∃ ty, w = .arrayClass ty := good_of_word (List.mem_filter.mp h).2
theorem goodC {y : MethodName} {b : ByteArray} {n : Nat} {r : Option FieldType} (h : Cond.code y b n r ∈ WT) : GoodIn WT (Cond.code y b n r :: WT) := fun w hw => by
  rcases List.mem_cons.mp hw with rfl | hw
  · exact ⟨h, WT_ok h⟩
  · exact ⟨hw, WT_ok hw⟩
theorem goodV {own C : String} {idx : Nat} {y : MethodName} {b : ByteArray} {n : Nat} {r : Option FieldType} (h1 : Cond.methodLink own idx y ∈ WT) (h2 : Cond.instanceMethod y ∈ WT) (h3 : Cond.selects C y y ∈ WT) (h4 : Cond.initialized C ∈ WT) (h5 : Cond.code y b n r ∈ WT) : GoodIn WT (wsV own idx C y (Cond.code y b n r :: WT)) := fun w hw => by
  rcases List.mem_append.mp hw with hw | hw
  · have h9 : w ∈ WT := by
      simp only [List.mem_cons, List.not_mem_nil, or_false] at hw
      rcases hw with rfl | rfl | rfl | rfl <;> assumption
    exact ⟨h9, WT_ok h9⟩
  · exact goodC h5 w hw
theorem goodS {own : String} {idx : Nat} {y : MethodName} {b : ByteArray} {n : Nat} {r : Option FieldType} (h1 : Cond.methodLink own idx y ∈ WT) (h2 : Cond.static y ∈ WT) (h4 : Cond.initialized own ∈ WT) (h5 : Cond.code y b n r ∈ WT) : GoodIn WT (wsS own idx y (Cond.code y b n r :: WT)) := fun w hw => by
  rcases List.mem_append.mp hw with hw | hw
  · have h9 : w ∈ WT := by
      simp only [List.mem_cons, List.not_mem_nil, or_false] at hw
      rcases hw with rfl | rfl | rfl <;> assumption
    exact ⟨h9, WT_ok h9⟩
  · exact goodC h5 w hw
theorem kv_X3_workOutWords : Cond.selects RX3 yX3_workOutWords yX3_workOutWords ∈ WT := wt 0 (by decide +kernel) rfl
theorem kv_X3_countPluses : Cond.selects RX3 yX3_countPluses yX3_countPluses ∈ WT := wt 1 (by decide +kernel) rfl
theorem kv_X3_bracketings : Cond.selects RX3 yX3_bracketings yX3_bracketings ∈ WT := wt 2 (by decide +kernel) rfl
theorem kv_X3_joiningsThatAreOr : Cond.selects RX3 yX3_joiningsThatAreOr yX3_joiningsThatAreOr ∈ WT := wt 3 (by decide +kernel) rfl
theorem kv_X3_truthOf : Cond.selects RX3 yX3_truthOf yX3_truthOf ∈ WT := wt 4 (by decide +kernel) rfl
theorem kv_X3_wordTruth : Cond.selects RX3 yX3_wordTruth yX3_wordTruth ∈ WT := wt 5 (by decide +kernel) rfl
theorem kv_X3_truthOfThree : Cond.selects RX3 yX3_truthOfThree yX3_truthOfThree ∈ WT := wt 6 (by decide +kernel) rfl
theorem kv_X3_truthOfFour : Cond.selects RX3 yX3_truthOfFour yX3_truthOfFour ∈ WT := wt 7 (by decide +kernel) rfl
theorem kv_X3_weigh : Cond.selects RX3 yX3_weigh yX3_weigh ∈ WT := wt 8 (by decide +kernel) rfl
theorem kv_X5_taken : Cond.selects RX5 yX5_taken yX5_taken ∈ WT := wt 9 (by decide +kernel) rfl
theorem kv_X5_actsNow : Cond.selects RX5 yX5_actsNow yX5_actsNow ∈ WT := wt 10 (by decide +kernel) rfl
theorem kv_X5_actsBy : Cond.selects RX5 yX5_actsBy yX5_actsBy ∈ WT := wt 11 (by decide +kernel) rfl
theorem kv_X5_letAct : Cond.selects RX5 yX5_letAct yX5_letAct ∈ WT := wt 12 (by decide +kernel) rfl
theorem kv_X5_behindAct : Cond.selects RX5 yX5_behindAct yX5_behindAct ∈ WT := wt 13 (by decide +kernel) rfl
theorem kv_X5_behindRound : Cond.selects RX5 yX5_behindRound yX5_behindRound ∈ WT := wt 14 (by decide +kernel) rfl
theorem kv_X5_worldsLeft : Cond.selects RX5 yX5_worldsLeft yX5_worldsLeft ∈ WT := wt 15 (by decide +kernel) rfl
theorem kv_X5_leftAtWorst : Cond.selects RX5 yX5_leftAtWorst yX5_leftAtWorst ∈ WT := wt 16 (by decide +kernel) rfl
theorem kv_X5_readingsWith : Cond.selects RX5 yX5_readingsWith yX5_readingsWith ∈ WT := wt 17 (by decide +kernel) rfl
theorem kv_X5_doesFit : Cond.selects RX5 yX5_doesFit yX5_doesFit ∈ WT := wt 18 (by decide +kernel) rfl
theorem kv_X5_mixedWithHearers : Cond.selects RX5 yX5_mixedWithHearers yX5_mixedWithHearers ∈ WT := wt 19 (by decide +kernel) rfl
theorem kv_X5_mixedWithSaying : Cond.selects RX5 yX5_mixedWithSaying yX5_mixedWithSaying ∈ WT := wt 20 (by decide +kernel) rfl
theorem kv_X5_mixedWithFits : Cond.selects RX5 yX5_mixedWithFits yX5_mixedWithFits ∈ WT := wt 21 (by decide +kernel) rfl
theorem kv_X6_readSaying : Cond.selects RX6 yX6_readSaying yX6_readSaying ∈ WT := wt 22 (by decide +kernel) rfl
theorem kv_X6_nextState : Cond.selects RX6 yX6_nextState yX6_nextState ∈ WT := wt 23 (by decide +kernel) rfl
theorem kv_X6_readSenses : Cond.selects RX6 yX6_readSenses yX6_readSenses ∈ WT := wt 24 (by decide +kernel) rfl
theorem kv_X6_lay : Cond.selects RX6 yX6_lay yX6_lay ∈ WT := wt 25 (by decide +kernel) rfl
theorem kv_X6_bothMany : Cond.selects RX6 yX6_bothMany yX6_bothMany ∈ WT := wt 26 (by decide +kernel) rfl
theorem kv_X6_joinAt : Cond.selects RX6 yX6_joinAt yX6_joinAt ∈ WT := wt 27 (by decide +kernel) rfl
theorem kv_X6_wordAt : Cond.selects RX6 yX6_wordAt yX6_wordAt ∈ WT := wt 28 (by decide +kernel) rfl
theorem kv_X6_bracketed : Cond.selects RX6 yX6_bracketed yX6_bracketed ∈ WT := wt 29 (by decide +kernel) rfl
theorem kv_X6_ofFour : Cond.selects RX6 yX6_ofFour yX6_ofFour ∈ WT := wt 30 (by decide +kernel) rfl
theorem kv_X6_isReading : Cond.selects RX6 yX6_isReading yX6_isReading ∈ WT := wt 31 (by decide +kernel) rfl
theorem kv_X6_comeNow : Cond.selects RX6 yX6_comeNow yX6_comeNow ∈ WT := wt 32 (by decide +kernel) rfl
theorem kv_X6_isHearer : Cond.selects RX6 yX6_isHearer yX6_isHearer ∈ WT := wt 33 (by decide +kernel) rfl
theorem kv_X6_hearerNow : Cond.selects RX6 yX6_hearerNow yX6_hearerNow ∈ WT := wt 34 (by decide +kernel) rfl
theorem kv_X6_takes : Cond.selects RX6 yX6_takes yX6_takes ∈ WT := wt 35 (by decide +kernel) rfl
theorem kv_X6_actsBy : Cond.selects RX6 yX6_actsBy yX6_actsBy ∈ WT := wt 36 (by decide +kernel) rfl
theorem kv_X6_doAct : Cond.selects RX6 yX6_doAct yX6_doAct ∈ WT := wt 37 (by decide +kernel) rfl
theorem kv_X6_behind : Cond.selects RX6 yX6_behind yX6_behind ∈ WT := wt 38 (by decide +kernel) rfl
theorem kv_X6_anyhowNow : Cond.selects RX6 yX6_anyhowNow yX6_anyhowNow ∈ WT := wt 39 (by decide +kernel) rfl
theorem kv_X6_layTakes : Cond.selects RX6 yX6_layTakes yX6_layTakes ∈ WT := wt 40 (by decide +kernel) rfl
theorem kv_X6_some : Cond.selects RX6 yX6_some yX6_some ∈ WT := wt 41 (by decide +kernel) rfl
theorem kv_X6_roundFrom : Cond.selects RX6 yX6_roundFrom yX6_roundFrom ∈ WT := wt 42 (by decide +kernel) rfl
theorem kv_X6_leftNow : Cond.selects RX6 yX6_leftNow yX6_leftNow ∈ WT := wt 43 (by decide +kernel) rfl
theorem kv_X6_askNow : Cond.selects RX6 yX6_askNow yX6_askNow ∈ WT := wt 44 (by decide +kernel) rfl
theorem kv_X6_addNow : Cond.selects RX6 yX6_addNow yX6_addNow ∈ WT := wt 45 (by decide +kernel) rfl
theorem kv_X6_fitsNow : Cond.selects RX6 yX6_fitsNow yX6_fitsNow ∈ WT := wt 46 (by decide +kernel) rfl
theorem kv_X6_timesNow : Cond.selects RX6 yX6_timesNow yX6_timesNow ∈ WT := wt 47 (by decide +kernel) rfl
theorem kv_X6_draw : Cond.selects RX6 yX6_draw yX6_draw ∈ WT := wt 48 (by decide +kernel) rfl
theorem kv_X6_howMany : Cond.selects RX6 yX6_howMany yX6_howMany ∈ WT := wt 49 (by decide +kernel) rfl
theorem kv_X6_readingsOf : Cond.selects RX6 yX6_readingsOf yX6_readingsOf ∈ WT := wt 50 (by decide +kernel) rfl
theorem kv_X6_mix : Cond.selects RX6 yX6_mix yX6_mix ∈ WT := wt 51 (by decide +kernel) rfl
theorem ki_L : Cond.initialized RL ∈ WT := wt 52 (by decide +kernel) rfl
theorem ki_X5 : Cond.initialized RX5 ∈ WT := wt 53 (by decide +kernel) rfl
theorem ki_X2 : Cond.initialized RX2 ∈ WT := wt 54 (by decide +kernel) rfl
theorem ki_X3 : Cond.initialized RX3 ∈ WT := wt 55 (by decide +kernel) rfl
theorem ki_X0 : Cond.initialized RX0 ∈ WT := wt 56 (by decide +kernel) rfl
theorem ki_X4 : Cond.initialized RX4 ∈ WT := wt 57 (by decide +kernel) rfl
theorem ki_X1 : Cond.initialized RX1 ∈ WT := wt 58 (by decide +kernel) rfl
theorem ki_X6 : Cond.initialized RX6 ∈ WT := wt 59 (by decide +kernel) rfl
theorem ki_J13 : Cond.initialized RJ13 ∈ WT := wt 60 (by decide +kernel) rfl
theorem ki_J9 : Cond.initialized RJ9 ∈ WT := wt 61 (by decide +kernel) rfl
theorem kcl_L_7 : Cond.classLink RL 7 RX5 ∈ WT := wt 62 (by decide +kernel) rfl
theorem kn_X5 : Cond.instantiable RX5 12 ∈ WT := wt 63 (by decide +kernel) rfl
theorem kl_L_9 : Cond.methodLink RL 9 yX5_init ∈ WT := wt 64 (by decide +kernel) rfl
theorem km_X5_init : Cond.instanceMethod yX5_init ∈ WT := wt 65 (by decide +kernel) rfl
theorem kc_X5_init : Cond.code yX5_init cX5_init 2 none ∈ WT := wt 66 (by decide +kernel) rfl
theorem kl_X5_1 : Cond.methodLink RX5 1 objectInit ∈ WT := wt 67 (by decide +kernel) rfl
theorem km_Obj_init : Cond.instanceMethod objectInit ∈ WT := wt 68 (by decide +kernel) rfl
theorem kcl_X5_7 : Cond.classLink RX5 7 RX2 ∈ WT := wt 70 (by decide +kernel) rfl
theorem kn_X2 : Cond.instantiable RX2 2 ∈ WT := wt 71 (by decide +kernel) rfl
theorem kl_X5_9 : Cond.methodLink RX5 9 yX2_init ∈ WT := wt 72 (by decide +kernel) rfl
theorem km_X2_init : Cond.instanceMethod yX2_init ∈ WT := wt 73 (by decide +kernel) rfl
theorem kc_X2_init : Cond.code yX2_init cX2_init 1 none ∈ WT := wt 74 (by decide +kernel) rfl
theorem kl_X2_3 : Cond.methodLink RX2 3 objectInit ∈ WT := wt 75 (by decide +kernel) rfl
theorem kf_X2_9 : Cond.fieldLink RX2 9 "AsWasSaid$Page" "codes" "[I" ∈ WT := wt 76 (by decide +kernel) rfl
theorem kf_X2_15 : Cond.fieldLink RX2 15 "AsWasSaid$Page" "length" "I" ∈ WT := wt 77 (by decide +kernel) rfl
theorem ka_int : Cond.arrayClass Jvm.ClassFile.FieldType.int ∈ WT := wt 85 (by decide +kernel) rfl
theorem kcl_X5_20 : Cond.classLink RX5 20 RX3 ∈ WT := wt 86 (by decide +kernel) rfl
theorem kn_X3 : Cond.instantiable RX3 11 ∈ WT := wt 87 (by decide +kernel) rfl
theorem kl_X5_22 : Cond.methodLink RX5 22 yX3_init ∈ WT := wt 88 (by decide +kernel) rfl
theorem km_X3_init : Cond.instanceMethod yX3_init ∈ WT := wt 89 (by decide +kernel) rfl
theorem kc_X3_init : Cond.code yX3_init cX3_init 1 none ∈ WT := wt 90 (by decide +kernel) rfl
theorem kl_X3_3 : Cond.methodLink RX3 3 objectInit ∈ WT := wt 91 (by decide +kernel) rfl
theorem kf_X3_9 : Cond.fieldLink RX3 9 "AsWasSaid$Saying" "letters" "[I" ∈ WT := wt 92 (by decide +kernel) rfl
theorem kf_X3_15 : Cond.fieldLink RX3 15 "AsWasSaid$Saying" "negations" "[Z" ∈ WT := wt 93 (by decide +kernel) rfl
theorem kf_X3_19 : Cond.fieldLink RX3 19 "AsWasSaid$Saying" "pluses" "[Z" ∈ WT := wt 94 (by decide +kernel) rfl
theorem kf_X3_22 : Cond.fieldLink RX3 22 "AsWasSaid$Saying" "firstTruths" "[J" ∈ WT := wt 95 (by decide +kernel) rfl
theorem kf_X3_26 : Cond.fieldLink RX3 26 "AsWasSaid$Saying" "secondTruths" "[J" ∈ WT := wt 96 (by decide +kernel) rfl
theorem kf_X3_29 : Cond.fieldLink RX3 29 "AsWasSaid$Saying" "truths" "[J" ∈ WT := wt 97 (by decide +kernel) rfl
theorem kf_X3_32 : Cond.fieldLink RX3 32 "AsWasSaid$Saying" "words" "I" ∈ WT := wt 98 (by decide +kernel) rfl
theorem kf_X3_36 : Cond.fieldLink RX3 36 "AsWasSaid$Saying" "readings" "I" ∈ WT := wt 100 (by decide +kernel) rfl
theorem kf_X3_112 : Cond.fieldLink RX3 112 "AsWasSaid$Saying" "widest" "I" ∈ WT := wt 102 (by decide +kernel) rfl
theorem kf_X3_115 : Cond.fieldLink RX3 115 "AsWasSaid$Saying" "narrowest" "I" ∈ WT := wt 104 (by decide +kernel) rfl
theorem kf_X3_108 : Cond.fieldLink RX3 108 "AsWasSaid$Saying" "some" "J" ∈ WT := wt 107 (by decide +kernel) rfl
theorem ka_boolean : Cond.arrayClass Jvm.ClassFile.FieldType.boolean ∈ WT := wt 131 (by decide +kernel) rfl
theorem ka_long : Cond.arrayClass Jvm.ClassFile.FieldType.long ∈ WT := wt 132 (by decide +kernel) rfl
theorem kcl_X5_33 : Cond.classLink RX5 33 RX0 ∈ WT := wt 133 (by decide +kernel) rfl
theorem kn_X0 : Cond.instantiable RX0 5 ∈ WT := wt 134 (by decide +kernel) rfl
theorem kl_X5_35 : Cond.methodLink RX5 35 yX0_init ∈ WT := wt 135 (by decide +kernel) rfl
theorem km_X0_init : Cond.instanceMethod yX0_init ∈ WT := wt 136 (by decide +kernel) rfl
theorem kc_X0_init : Cond.code yX0_init cX0_init 1 none ∈ WT := wt 137 (by decide +kernel) rfl
theorem kl_X0_3 : Cond.methodLink RX0 3 objectInit ∈ WT := wt 138 (by decide +kernel) rfl
theorem kf_X0_9 : Cond.fieldLink RX0 9 "AsWasSaid$Hearers" "kinds" "[I" ∈ WT := wt 139 (by decide +kernel) rfl
theorem kf_X0_15 : Cond.fieldLink RX0 15 "AsWasSaid$Hearers" "facts" "[I" ∈ WT := wt 140 (by decide +kernel) rfl
theorem kf_X0_18 : Cond.fieldLink RX0 18 "AsWasSaid$Hearers" "values" "[I" ∈ WT := wt 141 (by decide +kernel) rfl
theorem kf_X0_21 : Cond.fieldLink RX0 21 "AsWasSaid$Hearers" "changes" "[I" ∈ WT := wt 142 (by decide +kernel) rfl
theorem kf_X0_24 : Cond.fieldLink RX0 24 "AsWasSaid$Hearers" "number" "I" ∈ WT := wt 143 (by decide +kernel) rfl
theorem kcl_X5_40 : Cond.classLink RX5 40 RX4 ∈ WT := wt 156 (by decide +kernel) rfl
theorem kn_X4 : Cond.instantiable RX4 2 ∈ WT := wt 157 (by decide +kernel) rfl
theorem kl_X5_42 : Cond.methodLink RX5 42 yX4_init ∈ WT := wt 158 (by decide +kernel) rfl
theorem km_X4_init : Cond.instanceMethod yX4_init ∈ WT := wt 159 (by decide +kernel) rfl
theorem kc_X4_init : Cond.code yX4_init cX4_init 1 none ∈ WT := wt 160 (by decide +kernel) rfl
theorem kl_X4_3 : Cond.methodLink RX4 3 objectInit ∈ WT := wt 161 (by decide +kernel) rfl
theorem kf_X4_9 : Cond.fieldLink RX4 9 "AsWasSaid$Told" "worlds" "[I" ∈ WT := wt 162 (by decide +kernel) rfl
theorem kf_X4_15 : Cond.fieldLink RX4 15 "AsWasSaid$Told" "number" "I" ∈ WT := wt 163 (by decide +kernel) rfl
theorem kcl_X5_47 : Cond.classLink RX5 47 RX1 ∈ WT := wt 170 (by decide +kernel) rfl
theorem kn_X1 : Cond.instantiable RX1 5 ∈ WT := wt 171 (by decide +kernel) rfl
theorem kl_X5_49 : Cond.methodLink RX5 49 yX1_init ∈ WT := wt 172 (by decide +kernel) rfl
theorem km_X1_init : Cond.instanceMethod yX1_init ∈ WT := wt 173 (by decide +kernel) rfl
theorem kc_X1_init : Cond.code yX1_init cX1_init 1 none ∈ WT := wt 174 (by decide +kernel) rfl
theorem kl_X1_1 : Cond.methodLink RX1 1 objectInit ∈ WT := wt 175 (by decide +kernel) rfl
theorem kcl_X1_7 : Cond.classLink RX1 7 RX0 ∈ WT := wt 176 (by decide +kernel) rfl
theorem kl_X1_9 : Cond.methodLink RX1 9 yX0_init ∈ WT := wt 177 (by decide +kernel) rfl
theorem kcl_X1_16 : Cond.classLink RX1 16 RX4 ∈ WT := wt 178 (by decide +kernel) rfl
theorem kl_X1_18 : Cond.methodLink RX1 18 yX4_init ∈ WT := wt 179 (by decide +kernel) rfl
theorem kf_X1_10 : Cond.fieldLink RX1 10 "AsWasSaid$Image" "hearers" "LAsWasSaid$Hearers;" ∈ WT := wt 180 (by decide +kernel) rfl
theorem kf_X1_19 : Cond.fieldLink RX1 19 "AsWasSaid$Image" "told" "LAsWasSaid$Told;" ∈ WT := wt 182 (by decide +kernel) rfl
theorem kf_X5_10 : Cond.fieldLink RX5 10 "AsWasSaid" "page" "LAsWasSaid$Page;" ∈ WT := wt 198 (by decide +kernel) rfl
theorem kf_X5_16 : Cond.fieldLink RX5 16 "AsWasSaid" "secondSenses" "[I" ∈ WT := wt 199 (by decide +kernel) rfl
theorem kf_X5_23 : Cond.fieldLink RX5 23 "AsWasSaid" "saying" "LAsWasSaid$Saying;" ∈ WT := wt 200 (by decide +kernel) rfl
theorem kf_X5_27 : Cond.fieldLink RX5 27 "AsWasSaid" "other" "LAsWasSaid$Saying;" ∈ WT := wt 201 (by decide +kernel) rfl
theorem kf_X5_30 : Cond.fieldLink RX5 30 "AsWasSaid" "longer" "LAsWasSaid$Saying;" ∈ WT := wt 202 (by decide +kernel) rfl
theorem kf_X5_36 : Cond.fieldLink RX5 36 "AsWasSaid" "hearers" "LAsWasSaid$Hearers;" ∈ WT := wt 203 (by decide +kernel) rfl
theorem kf_X5_43 : Cond.fieldLink RX5 43 "AsWasSaid" "told" "LAsWasSaid$Told;" ∈ WT := wt 204 (by decide +kernel) rfl
theorem kf_X5_50 : Cond.fieldLink RX5 50 "AsWasSaid" "kept" "LAsWasSaid$Image;" ∈ WT := wt 205 (by decide +kernel) rfl
theorem kf_X5_124 : Cond.fieldLink RX5 124 "AsWasSaid" "world" "I" ∈ WT := wt 206 (by decide +kernel) rfl
theorem kf_X5_182 : Cond.fieldLink RX5 182 "AsWasSaid" "rounds" "I" ∈ WT := wt 207 (by decide +kernel) rfl
theorem kf_X5_88 : Cond.fieldLink RX5 88 "AsWasSaid" "timesSaid" "I" ∈ WT := wt 208 (by decide +kernel) rfl
theorem kf_X5_208 : Cond.fieldLink RX5 208 "AsWasSaid" "timesAdded" "I" ∈ WT := wt 209 (by decide +kernel) rfl
theorem kl_L_13 : Cond.methodLink RL 13 yX5_letter ∈ WT := wt 235 (by decide +kernel) rfl
theorem km_X5_letter : Cond.instanceMethod yX5_letter ∈ WT := wt 236 (by decide +kernel) rfl
theorem kv_X5_letter : Cond.selects RX5 yX5_letter yX5_letter ∈ WT := wt 237 (by decide +kernel) rfl
theorem kc_X5_letter : Cond.code yX5_letter cX5_letter 2 (some .int) ∈ WT := wt 238 (by decide +kernel) rfl
theorem kl_X5_54 : Cond.methodLink RX5 54 yX2_write ∈ WT := wt 239 (by decide +kernel) rfl
theorem km_X2_write : Cond.instanceMethod yX2_write ∈ WT := wt 240 (by decide +kernel) rfl
theorem kv_X2_write : Cond.selects RX2 yX2_write yX2_write ∈ WT := wt 241 (by decide +kernel) rfl
theorem kc_X2_write : Cond.code yX2_write cX2_write 2 (some .boolean) ∈ WT := wt 242 (by decide +kernel) rfl
theorem kl_L_18 : Cond.methodLink RL 18 yX5_blank ∈ WT := wt 243 (by decide +kernel) rfl
theorem km_X5_blank : Cond.instanceMethod yX5_blank ∈ WT := wt 244 (by decide +kernel) rfl
theorem kv_X5_blank : Cond.selects RX5 yX5_blank yX5_blank ∈ WT := wt 245 (by decide +kernel) rfl
theorem kc_X5_blank : Cond.code yX5_blank cX5_blank 1 (some .int) ∈ WT := wt 246 (by decide +kernel) rfl
theorem kl_X5_62 : Cond.methodLink RX5 62 yX2_clear ∈ WT := wt 247 (by decide +kernel) rfl
theorem km_X2_clear : Cond.instanceMethod yX2_clear ∈ WT := wt 248 (by decide +kernel) rfl
theorem kv_X2_clear : Cond.selects RX2 yX2_clear yX2_clear ∈ WT := wt 249 (by decide +kernel) rfl
theorem kc_X2_clear : Cond.code yX2_clear cX2_clear 2 (some .int) ∈ WT := wt 250 (by decide +kernel) rfl
theorem kl_L_23 : Cond.methodLink RL 23 yX5_fault ∈ WT := wt 251 (by decide +kernel) rfl
theorem km_X5_fault : Cond.instanceMethod yX5_fault ∈ WT := wt 252 (by decide +kernel) rfl
theorem kv_X5_fault : Cond.selects RX5 yX5_fault yX5_fault ∈ WT := wt 253 (by decide +kernel) rfl
theorem kc_X5_fault : Cond.code yX5_fault cX5_fault 2 (some .int) ∈ WT := wt 254 (by decide +kernel) rfl
theorem kl_X5_66 : Cond.methodLink RX5 66 yX2_faultAsSaying ∈ WT := wt 255 (by decide +kernel) rfl
theorem km_X2_faultAsSaying : Cond.instanceMethod yX2_faultAsSaying ∈ WT := wt 256 (by decide +kernel) rfl
theorem kv_X2_faultAsSaying : Cond.selects RX2 yX2_faultAsSaying yX2_faultAsSaying ∈ WT := wt 257 (by decide +kernel) rfl
theorem kc_X2_faultAsSaying : Cond.code yX2_faultAsSaying cX2_faultAsSaying 6 (some .int) ∈ WT := wt 258 (by decide +kernel) rfl
theorem kl_X2_19 : Cond.methodLink RX2 19 yX2_codeAt ∈ WT := wt 259 (by decide +kernel) rfl
theorem km_X2_codeAt : Cond.instanceMethod yX2_codeAt ∈ WT := wt 260 (by decide +kernel) rfl
theorem kv_X2_codeAt : Cond.selects RX2 yX2_codeAt yX2_codeAt ∈ WT := wt 261 (by decide +kernel) rfl
theorem kc_X2_codeAt : Cond.code yX2_codeAt cX2_codeAt 2 (some .int) ∈ WT := wt 262 (by decide +kernel) rfl
theorem kl_X2_23 : Cond.methodLink RX2 23 yX2_isWordLetter ∈ WT := wt 263 (by decide +kernel) rfl
theorem ks_X2_isWordLetter : Cond.static yX2_isWordLetter ∈ WT := wt 264 (by decide +kernel) rfl
theorem kc_X2_isWordLetter : Cond.code yX2_isWordLetter cX2_isWordLetter 1 (some .boolean) ∈ WT := wt 265 (by decide +kernel) rfl
theorem kl_X2_27 : Cond.methodLink RX2 27 yX2_isJoining ∈ WT := wt 266 (by decide +kernel) rfl
theorem ks_X2_isJoining : Cond.static yX2_isJoining ∈ WT := wt 267 (by decide +kernel) rfl
theorem kc_X2_isJoining : Cond.code yX2_isJoining cX2_isJoining 1 (some .boolean) ∈ WT := wt 268 (by decide +kernel) rfl
theorem kl_X5_69 : Cond.methodLink RX5 69 yX2_faultAsSenses ∈ WT := wt 269 (by decide +kernel) rfl
theorem km_X2_faultAsSenses : Cond.instanceMethod yX2_faultAsSenses ∈ WT := wt 270 (by decide +kernel) rfl
theorem kv_X2_faultAsSenses : Cond.selects RX2 yX2_faultAsSenses yX2_faultAsSenses ∈ WT := wt 271 (by decide +kernel) rfl
theorem kc_X2_faultAsSenses : Cond.code yX2_faultAsSenses cX2_faultAsSenses 3 (some .int) ∈ WT := wt 272 (by decide +kernel) rfl
theorem kl_L_27 : Cond.methodLink RL 27 yX5_say ∈ WT := wt 273 (by decide +kernel) rfl
theorem km_X5_say : Cond.instanceMethod yX5_say ∈ WT := wt 274 (by decide +kernel) rfl
theorem kv_X5_say : Cond.selects RX5 yX5_say yX5_say ∈ WT := wt 275 (by decide +kernel) rfl
theorem kc_X5_say : Cond.code yX5_say cX5_say 1 (some .int) ∈ WT := wt 276 (by decide +kernel) rfl
theorem kl_X5_72 : Cond.methodLink RX5 72 yX2_isSaying ∈ WT := wt 277 (by decide +kernel) rfl
theorem km_X2_isSaying : Cond.instanceMethod yX2_isSaying ∈ WT := wt 278 (by decide +kernel) rfl
theorem kv_X2_isSaying : Cond.selects RX2 yX2_isSaying yX2_isSaying ∈ WT := wt 279 (by decide +kernel) rfl
theorem kc_X2_isSaying : Cond.code yX2_isSaying cX2_isSaying 1 (some .boolean) ∈ WT := wt 280 (by decide +kernel) rfl
theorem kl_X2_30 : Cond.methodLink RX2 30 yX2_faultAsSaying ∈ WT := wt 281 (by decide +kernel) rfl
theorem kl_X5_76 : Cond.methodLink RX5 76 yX3_become ∈ WT := wt 282 (by decide +kernel) rfl
theorem km_X3_become : Cond.instanceMethod yX3_become ∈ WT := wt 283 (by decide +kernel) rfl
theorem kv_X3_become : Cond.selects RX3 yX3_become yX3_become ∈ WT := wt 284 (by decide +kernel) rfl
theorem kc_X3_become : Cond.code yX3_become cX3_become 3 none ∈ WT := wt 285 (by decide +kernel) rfl
theorem kl_X3_52 : Cond.methodLink RX3 52 yX3_append ∈ WT := wt 286 (by decide +kernel) rfl
theorem km_X3_append : Cond.instanceMethod yX3_append ∈ WT := wt 287 (by decide +kernel) rfl
theorem kv_X3_append : Cond.selects RX3 yX3_append yX3_append ∈ WT := wt 288 (by decide +kernel) rfl
theorem kc_X3_append : Cond.code yX3_append cX3_append 4 none ∈ WT := wt 289 (by decide +kernel) rfl
theorem kl_X5_80 : Cond.methodLink RX5 80 yX3_workOut ∈ WT := wt 290 (by decide +kernel) rfl
theorem km_X3_workOut : Cond.instanceMethod yX3_workOut ∈ WT := wt 291 (by decide +kernel) rfl
theorem kv_X3_workOut : Cond.selects RX3 yX3_workOut yX3_workOut ∈ WT := wt 292 (by decide +kernel) rfl
theorem kc_X3_workOut : Cond.code yX3_workOut cX3_workOut 2 none ∈ WT := wt 293 (by decide +kernel) rfl
theorem kl_X3_56 : Cond.methodLink RX3 56 yX3_workOutReadings ∈ WT := wt 294 (by decide +kernel) rfl
theorem km_X3_workOutReadings : Cond.instanceMethod yX3_workOutReadings ∈ WT := wt 295 (by decide +kernel) rfl
theorem kv_X3_workOutReadings : Cond.selects RX3 yX3_workOutReadings yX3_workOutReadings ∈ WT := wt 296 (by decide +kernel) rfl
theorem kc_X3_workOutReadings : Cond.code yX3_workOutReadings cX3_workOutReadings 8 none ∈ WT := wt 297 (by decide +kernel) rfl
theorem kl_X3_63 : Cond.methodLink RX3 63 yX3_isNone ∈ WT := wt 298 (by decide +kernel) rfl
theorem km_X3_isNone : Cond.instanceMethod yX3_isNone ∈ WT := wt 299 (by decide +kernel) rfl
theorem kv_X3_isNone : Cond.selects RX3 yX3_isNone yX3_isNone ∈ WT := wt 300 (by decide +kernel) rfl
theorem kc_X3_isNone : Cond.code yX3_isNone cX3_isNone 1 (some .boolean) ∈ WT := wt 301 (by decide +kernel) rfl
theorem kl_X3_67 : Cond.methodLink RX3 67 yX3_workOutWords ∈ WT := wt 302 (by decide +kernel) rfl
theorem km_X3_workOutWords : Cond.instanceMethod yX3_workOutWords ∈ WT := wt 304 (by decide +kernel) rfl
theorem kc_X3_workOutWords : Cond.code yX3_workOutWords cX3_workOutWords 7 none ∈ WT := wt 305 (by decide +kernel) rfl
theorem kk_X3_84 : Cond.constantLong RX3 84 (-1) ∈ WT := wt 306 (by decide +kernel) rfl
theorem ks_X5_worldsOfFact : Cond.static yX5_worldsOfFact ∈ WT := wt 308 (by decide +kernel) rfl
theorem kc_X5_worldsOfFact : Cond.code yX5_worldsOfFact cX5_worldsOfFact 1 (some .long) ∈ WT := wt 309 (by decide +kernel) rfl
theorem kf_X5_287 : Cond.fieldLink RX5 287 "AsWasSaid" "WORLDS_OF_FACT" "[J" ∈ WT := wt 310 (by decide +kernel) rfl
theorem kl_X3_70 : Cond.methodLink RX3 70 yX3_countPluses ∈ WT := wt 312 (by decide +kernel) rfl
theorem km_X3_countPluses : Cond.instanceMethod yX3_countPluses ∈ WT := wt 314 (by decide +kernel) rfl
theorem kc_X3_countPluses : Cond.code yX3_countPluses cX3_countPluses 3 (some .int) ∈ WT := wt 315 (by decide +kernel) rfl
theorem kl_X3_74 : Cond.methodLink RX3 74 yX3_bracketings ∈ WT := wt 316 (by decide +kernel) rfl
theorem km_X3_bracketings : Cond.instanceMethod yX3_bracketings ∈ WT := wt 318 (by decide +kernel) rfl
theorem kc_X3_bracketings : Cond.code yX3_bracketings cX3_bracketings 1 (some .int) ∈ WT := wt 319 (by decide +kernel) rfl
theorem kl_X3_77 : Cond.methodLink RX3 77 yX3_joiningsThatAreOr ∈ WT := wt 320 (by decide +kernel) rfl
theorem km_X3_joiningsThatAreOr : Cond.instanceMethod yX3_joiningsThatAreOr ∈ WT := wt 322 (by decide +kernel) rfl
theorem kc_X3_joiningsThatAreOr : Cond.code yX3_joiningsThatAreOr cX3_joiningsThatAreOr 5 (some .int) ∈ WT := wt 323 (by decide +kernel) rfl
theorem ks_X5_bitOf : Cond.static yX5_bitOf ∈ WT := wt 325 (by decide +kernel) rfl
theorem kc_X5_bitOf : Cond.code yX5_bitOf cX5_bitOf 3 (some .int) ∈ WT := wt 326 (by decide +kernel) rfl
theorem kl_X3_80 : Cond.methodLink RX3 80 yX3_truthOf ∈ WT := wt 327 (by decide +kernel) rfl
theorem km_X3_truthOf : Cond.instanceMethod yX3_truthOf ∈ WT := wt 329 (by decide +kernel) rfl
theorem kc_X3_truthOf : Cond.code yX3_truthOf cX3_truthOf 4 (some .long) ∈ WT := wt 330 (by decide +kernel) rfl
theorem kl_X3_94 : Cond.methodLink RX3 94 yX3_wordTruth ∈ WT := wt 331 (by decide +kernel) rfl
theorem km_X3_wordTruth : Cond.instanceMethod yX3_wordTruth ∈ WT := wt 333 (by decide +kernel) rfl
theorem kc_X3_wordTruth : Cond.code yX3_wordTruth cX3_wordTruth 3 (some .long) ∈ WT := wt 334 (by decide +kernel) rfl
theorem kl_X3_98 : Cond.methodLink RX3 98 yX3_joined ∈ WT := wt 335 (by decide +kernel) rfl
theorem ks_X3_joined : Cond.static yX3_joined ∈ WT := wt 336 (by decide +kernel) rfl
theorem kc_X3_joined : Cond.code yX3_joined cX3_joined 6 (some .long) ∈ WT := wt 337 (by decide +kernel) rfl
theorem kl_X3_102 : Cond.methodLink RX3 102 yX3_truthOfThree ∈ WT := wt 338 (by decide +kernel) rfl
theorem km_X3_truthOfThree : Cond.instanceMethod yX3_truthOfThree ∈ WT := wt 340 (by decide +kernel) rfl
theorem kc_X3_truthOfThree : Cond.code yX3_truthOfThree cX3_truthOfThree 10 (some .long) ∈ WT := wt 341 (by decide +kernel) rfl
theorem kl_X3_105 : Cond.methodLink RX3 105 yX3_truthOfFour ∈ WT := wt 342 (by decide +kernel) rfl
theorem km_X3_truthOfFour : Cond.instanceMethod yX3_truthOfFour ∈ WT := wt 344 (by decide +kernel) rfl
theorem kc_X3_truthOfFour : Cond.code yX3_truthOfFour cX3_truthOfFour 12 (some .long) ∈ WT := wt 345 (by decide +kernel) rfl
theorem kl_X3_60 : Cond.methodLink RX3 60 yX3_weigh ∈ WT := wt 346 (by decide +kernel) rfl
theorem km_X3_weigh : Cond.instanceMethod yX3_weigh ∈ WT := wt 348 (by decide +kernel) rfl
theorem kc_X3_weigh : Cond.code yX3_weigh cX3_weigh 5 none ∈ WT := wt 349 (by decide +kernel) rfl
theorem kl_X3_118 : Cond.methodLink RX3 118 yJ13_bitCount_95d88 ∈ WT := wt 350 (by decide +kernel) rfl
theorem ks_J13_bitCount_95d88 : Cond.static yJ13_bitCount_95d88 ∈ WT := wt 351 (by decide +kernel) rfl
theorem kc_J13_bitCount_95d88 : Cond.code yJ13_bitCount_95d88 cJ13_bitCount_95d88 2 (some .int) ∈ WT := wt 352 (by decide +kernel) rfl
theorem kk_J13_314 : Cond.constantLong RJ13 314 (6148914691236517205) ∈ WT := wt 353 (by decide +kernel) rfl
theorem kk_J13_316 : Cond.constantLong RJ13 316 (3689348814741910323) ∈ WT := wt 354 (by decide +kernel) rfl
theorem kk_J13_318 : Cond.constantLong RJ13 318 (1085102592571150095) ∈ WT := wt 355 (by decide +kernel) rfl
theorem kl_X5_84 : Cond.methodLink RX5 84 yX3_read ∈ WT := wt 356 (by decide +kernel) rfl
theorem km_X3_read : Cond.instanceMethod yX3_read ∈ WT := wt 357 (by decide +kernel) rfl
theorem kv_X3_read : Cond.selects RX3 yX3_read yX3_read ∈ WT := wt 358 (by decide +kernel) rfl
theorem kc_X3_read : Cond.code yX3_read cX3_read 6 none ∈ WT := wt 359 (by decide +kernel) rfl
theorem kl_X3_44 : Cond.methodLink RX3 44 yX2_codeAt ∈ WT := wt 360 (by decide +kernel) rfl
theorem kl_L_31 : Cond.methodLink RL 31 yX5_senses ∈ WT := wt 362 (by decide +kernel) rfl
theorem km_X5_senses : Cond.instanceMethod yX5_senses ∈ WT := wt 363 (by decide +kernel) rfl
theorem kv_X5_senses : Cond.selects RX5 yX5_senses yX5_senses ∈ WT := wt 364 (by decide +kernel) rfl
theorem kc_X5_senses : Cond.code yX5_senses cX5_senses 3 (some .int) ∈ WT := wt 365 (by decide +kernel) rfl
theorem kl_X5_94 : Cond.methodLink RX5 94 yX2_isSenses ∈ WT := wt 366 (by decide +kernel) rfl
theorem km_X2_isSenses : Cond.instanceMethod yX2_isSenses ∈ WT := wt 367 (by decide +kernel) rfl
theorem kv_X2_isSenses : Cond.selects RX2 yX2_isSenses yX2_isSenses ∈ WT := wt 368 (by decide +kernel) rfl
theorem kc_X2_isSenses : Cond.code yX2_isSenses cX2_isSenses 1 (some .boolean) ∈ WT := wt 369 (by decide +kernel) rfl
theorem kl_X2_34 : Cond.methodLink RX2 34 yX2_faultAsSenses ∈ WT := wt 370 (by decide +kernel) rfl
theorem kl_X5_97 : Cond.methodLink RX5 97 yX2_codeAt ∈ WT := wt 371 (by decide +kernel) rfl
theorem kl_L_35 : Cond.methodLink RL 35 yX5_sense ∈ WT := wt 372 (by decide +kernel) rfl
theorem km_X5_sense : Cond.instanceMethod yX5_sense ∈ WT := wt 373 (by decide +kernel) rfl
theorem kv_X5_sense : Cond.selects RX5 yX5_sense yX5_sense ∈ WT := wt 374 (by decide +kernel) rfl
theorem kc_X5_sense : Cond.code yX5_sense cX5_sense 2 (some .int) ∈ WT := wt 375 (by decide +kernel) rfl
theorem kl_L_39 : Cond.methodLink RL 39 yX5_reading ∈ WT := wt 376 (by decide +kernel) rfl
theorem km_X5_reading : Cond.instanceMethod yX5_reading ∈ WT := wt 377 (by decide +kernel) rfl
theorem kv_X5_reading : Cond.selects RX5 yX5_reading yX5_reading ∈ WT := wt 378 (by decide +kernel) rfl
theorem kc_X5_reading : Cond.code yX5_reading cX5_reading 2 (some .int) ∈ WT := wt 379 (by decide +kernel) rfl
theorem kl_X5_101 : Cond.methodLink RX5 101 yX3_hasReading ∈ WT := wt 380 (by decide +kernel) rfl
theorem km_X3_hasReading : Cond.instanceMethod yX3_hasReading ∈ WT := wt 381 (by decide +kernel) rfl
theorem kv_X3_hasReading : Cond.selects RX3 yX3_hasReading yX3_hasReading ∈ WT := wt 382 (by decide +kernel) rfl
theorem kc_X3_hasReading : Cond.code yX3_hasReading cX3_hasReading 2 (some .boolean) ∈ WT := wt 383 (by decide +kernel) rfl
theorem kl_X5_104 : Cond.methodLink RX5 104 yX3_truth ∈ WT := wt 384 (by decide +kernel) rfl
theorem km_X3_truth : Cond.instanceMethod yX3_truth ∈ WT := wt 385 (by decide +kernel) rfl
theorem kv_X3_truth : Cond.selects RX3 yX3_truth yX3_truth ∈ WT := wt 386 (by decide +kernel) rfl
theorem kc_X3_truth : Cond.code yX3_truth cX3_truth 2 (some .long) ∈ WT := wt 387 (by decide +kernel) rfl
theorem kl_X5_108 : Cond.methodLink RX5 108 yJ13_bitCount_95d88 ∈ WT := wt 388 (by decide +kernel) rfl
theorem kl_L_43 : Cond.methodLink RL 43 yX5_isSo ∈ WT := wt 389 (by decide +kernel) rfl
theorem km_X5_isSo : Cond.instanceMethod yX5_isSo ∈ WT := wt 390 (by decide +kernel) rfl
theorem kv_X5_isSo : Cond.selects RX5 yX5_isSo yX5_isSo ∈ WT := wt 391 (by decide +kernel) rfl
theorem kc_X5_isSo : Cond.code yX5_isSo cX5_isSo 3 (some .int) ∈ WT := wt 392 (by decide +kernel) rfl
theorem kl_X5_114 : Cond.methodLink RX5 114 yX5_isWorld ∈ WT := wt 393 (by decide +kernel) rfl
theorem ks_X5_isWorld : Cond.static yX5_isWorld ∈ WT := wt 394 (by decide +kernel) rfl
theorem kc_X5_isWorld : Cond.code yX5_isWorld cX5_isWorld 1 (some .boolean) ∈ WT := wt 395 (by decide +kernel) rfl
theorem kl_X5_117 : Cond.methodLink RX5 117 yX5_bitOf ∈ WT := wt 396 (by decide +kernel) rfl
theorem kl_L_48 : Cond.methodLink RL 48 yX5_come ∈ WT := wt 397 (by decide +kernel) rfl
theorem km_X5_come : Cond.instanceMethod yX5_come ∈ WT := wt 398 (by decide +kernel) rfl
theorem kv_X5_come : Cond.selects RX5 yX5_come yX5_come ∈ WT := wt 399 (by decide +kernel) rfl
theorem kc_X5_come : Cond.code yX5_come cX5_come 2 (some .int) ∈ WT := wt 400 (by decide +kernel) rfl
theorem kl_X5_121 : Cond.methodLink RX5 121 yX3_isNone ∈ WT := wt 401 (by decide +kernel) rfl
theorem kl_X5_127 : Cond.methodLink RX5 127 yX3_readingsSoIn ∈ WT := wt 402 (by decide +kernel) rfl
theorem km_X3_readingsSoIn : Cond.instanceMethod yX3_readingsSoIn ∈ WT := wt 403 (by decide +kernel) rfl
theorem kv_X3_readingsSoIn : Cond.selects RX3 yX3_readingsSoIn yX3_readingsSoIn ∈ WT := wt 404 (by decide +kernel) rfl
theorem kc_X3_readingsSoIn : Cond.code yX3_readingsSoIn cX3_readingsSoIn 4 (some .int) ∈ WT := wt 405 (by decide +kernel) rfl
theorem kl_X3_124 : Cond.methodLink RX3 124 yX3_truth ∈ WT := wt 406 (by decide +kernel) rfl
theorem kl_X5_130 : Cond.methodLink RX5 130 yX3_firstReadingSoIn ∈ WT := wt 407 (by decide +kernel) rfl
theorem km_X3_firstReadingSoIn : Cond.instanceMethod yX3_firstReadingSoIn ∈ WT := wt 408 (by decide +kernel) rfl
theorem kv_X3_firstReadingSoIn : Cond.selects RX3 yX3_firstReadingSoIn yX3_firstReadingSoIn ∈ WT := wt 409 (by decide +kernel) rfl
theorem kc_X3_firstReadingSoIn : Cond.code yX3_firstReadingSoIn cX3_firstReadingSoIn 3 (some .int) ∈ WT := wt 410 (by decide +kernel) rfl
theorem kl_L_52 : Cond.methodLink RL 52 yX5_fact ∈ WT := wt 411 (by decide +kernel) rfl
theorem km_X5_fact : Cond.instanceMethod yX5_fact ∈ WT := wt 412 (by decide +kernel) rfl
theorem kv_X5_fact : Cond.selects RX5 yX5_fact yX5_fact ∈ WT := wt 413 (by decide +kernel) rfl
theorem kc_X5_fact : Cond.code yX5_fact cX5_fact 2 (some .int) ∈ WT := wt 414 (by decide +kernel) rfl
theorem kl_X5_133 : Cond.methodLink RX5 133 yX5_isFact ∈ WT := wt 415 (by decide +kernel) rfl
theorem ks_X5_isFact : Cond.static yX5_isFact ∈ WT := wt 416 (by decide +kernel) rfl
theorem kc_X5_isFact : Cond.code yX5_isFact cX5_isFact 1 (some .boolean) ∈ WT := wt 417 (by decide +kernel) rfl
theorem kl_L_56 : Cond.methodLink RL 56 yX5_set ∈ WT := wt 418 (by decide +kernel) rfl
theorem km_X5_set : Cond.instanceMethod yX5_set ∈ WT := wt 419 (by decide +kernel) rfl
theorem kv_X5_set : Cond.selects RX5 yX5_set yX5_set ∈ WT := wt 420 (by decide +kernel) rfl
theorem kc_X5_set : Cond.code yX5_set cX5_set 4 (some .int) ∈ WT := wt 421 (by decide +kernel) rfl
theorem kl_X5_136 : Cond.methodLink RX5 136 yX5_isValue ∈ WT := wt 422 (by decide +kernel) rfl
theorem ks_X5_isValue : Cond.static yX5_isValue ∈ WT := wt 423 (by decide +kernel) rfl
theorem kc_X5_isValue : Cond.code yX5_isValue cX5_isValue 1 (some .boolean) ∈ WT := wt 424 (by decide +kernel) rfl
theorem kl_X5_139 : Cond.methodLink RX5 139 yX5_withFact ∈ WT := wt 425 (by decide +kernel) rfl
theorem ks_X5_withFact : Cond.static yX5_withFact ∈ WT := wt 426 (by decide +kernel) rfl
theorem kc_X5_withFact : Cond.code yX5_withFact cX5_withFact 3 (some .int) ∈ WT := wt 427 (by decide +kernel) rfl
theorem kl_L_60 : Cond.methodLink RL 60 yX5_hearer ∈ WT := wt 428 (by decide +kernel) rfl
theorem km_X5_hearer : Cond.instanceMethod yX5_hearer ∈ WT := wt 429 (by decide +kernel) rfl
theorem kv_X5_hearer : Cond.selects RX5 yX5_hearer yX5_hearer ∈ WT := wt 430 (by decide +kernel) rfl
theorem kc_X5_hearer : Cond.code yX5_hearer cX5_hearer 4 (some .int) ∈ WT := wt 431 (by decide +kernel) rfl
theorem kl_X5_143 : Cond.methodLink RX5 143 yX5_isKind ∈ WT := wt 432 (by decide +kernel) rfl
theorem ks_X5_isKind : Cond.static yX5_isKind ∈ WT := wt 433 (by decide +kernel) rfl
theorem kc_X5_isKind : Cond.code yX5_isKind cX5_isKind 1 (some .boolean) ∈ WT := wt 434 (by decide +kernel) rfl
theorem kl_X5_146 : Cond.methodLink RX5 146 yX0_join ∈ WT := wt 435 (by decide +kernel) rfl
theorem km_X0_join : Cond.instanceMethod yX0_join ∈ WT := wt 436 (by decide +kernel) rfl
theorem kv_X0_join : Cond.selects RX0 yX0_join yX0_join ∈ WT := wt 437 (by decide +kernel) rfl
theorem kc_X0_join : Cond.code yX0_join cX0_join 4 (some .boolean) ∈ WT := wt 438 (by decide +kernel) rfl
theorem kl_L_65 : Cond.methodLink RL 65 yX5_about ∈ WT := wt 439 (by decide +kernel) rfl
theorem km_X5_about : Cond.instanceMethod yX5_about ∈ WT := wt 440 (by decide +kernel) rfl
theorem kv_X5_about : Cond.selects RX5 yX5_about yX5_about ∈ WT := wt 441 (by decide +kernel) rfl
theorem kc_X5_about : Cond.code yX5_about cX5_about 3 (some .int) ∈ WT := wt 442 (by decide +kernel) rfl
theorem kl_X5_153 : Cond.methodLink RX5 153 yX0_has ∈ WT := wt 443 (by decide +kernel) rfl
theorem km_X0_has : Cond.instanceMethod yX0_has ∈ WT := wt 444 (by decide +kernel) rfl
theorem kv_X0_has : Cond.selects RX0 yX0_has yX0_has ∈ WT := wt 445 (by decide +kernel) rfl
theorem kc_X0_has : Cond.code yX0_has cX0_has 2 (some .boolean) ∈ WT := wt 446 (by decide +kernel) rfl
theorem kl_X5_156 : Cond.methodLink RX5 156 yX0_kindOf ∈ WT := wt 447 (by decide +kernel) rfl
theorem km_X0_kindOf : Cond.instanceMethod yX0_kindOf ∈ WT := wt 448 (by decide +kernel) rfl
theorem kv_X0_kindOf : Cond.selects RX0 yX0_kindOf yX0_kindOf ∈ WT := wt 449 (by decide +kernel) rfl
theorem kc_X0_kindOf : Cond.code yX0_kindOf cX0_kindOf 2 (some .int) ∈ WT := wt 450 (by decide +kernel) rfl
theorem kl_X5_159 : Cond.methodLink RX5 159 yX0_factOf ∈ WT := wt 451 (by decide +kernel) rfl
theorem km_X0_factOf : Cond.instanceMethod yX0_factOf ∈ WT := wt 452 (by decide +kernel) rfl
theorem kv_X0_factOf : Cond.selects RX0 yX0_factOf yX0_factOf ∈ WT := wt 453 (by decide +kernel) rfl
theorem kc_X0_factOf : Cond.code yX0_factOf cX0_factOf 2 (some .int) ∈ WT := wt 454 (by decide +kernel) rfl
theorem kl_X5_162 : Cond.methodLink RX5 162 yX0_valueOf ∈ WT := wt 455 (by decide +kernel) rfl
theorem km_X0_valueOf : Cond.instanceMethod yX0_valueOf ∈ WT := wt 456 (by decide +kernel) rfl
theorem kv_X0_valueOf : Cond.selects RX0 yX0_valueOf yX0_valueOf ∈ WT := wt 457 (by decide +kernel) rfl
theorem kc_X0_valueOf : Cond.code yX0_valueOf cX0_valueOf 2 (some .int) ∈ WT := wt 458 (by decide +kernel) rfl
theorem kl_X5_165 : Cond.methodLink RX5 165 yX5_taken ∈ WT := wt 459 (by decide +kernel) rfl
theorem km_X5_taken : Cond.instanceMethod yX5_taken ∈ WT := wt 461 (by decide +kernel) rfl
theorem kc_X5_taken : Cond.code yX5_taken cX5_taken 2 (some .int) ∈ WT := wt 462 (by decide +kernel) rfl
theorem kl_X5_168 : Cond.methodLink RX5 168 yX5_actsNow ∈ WT := wt 463 (by decide +kernel) rfl
theorem km_X5_actsNow : Cond.instanceMethod yX5_actsNow ∈ WT := wt 465 (by decide +kernel) rfl
theorem kc_X5_actsNow : Cond.code yX5_actsNow cX5_actsNow 2 (some .boolean) ∈ WT := wt 466 (by decide +kernel) rfl
theorem kl_X5_297 : Cond.methodLink RX5 297 yX5_actsBy ∈ WT := wt 467 (by decide +kernel) rfl
theorem km_X5_actsBy : Cond.instanceMethod yX5_actsBy ∈ WT := wt 469 (by decide +kernel) rfl
theorem kc_X5_actsBy : Cond.code yX5_actsBy cX5_actsBy 5 (some .boolean) ∈ WT := wt 470 (by decide +kernel) rfl
theorem kl_X5_171 : Cond.methodLink RX5 171 yX0_changesOf ∈ WT := wt 471 (by decide +kernel) rfl
theorem km_X0_changesOf : Cond.instanceMethod yX0_changesOf ∈ WT := wt 472 (by decide +kernel) rfl
theorem kv_X0_changesOf : Cond.selects RX0 yX0_changesOf yX0_changesOf ∈ WT := wt 473 (by decide +kernel) rfl
theorem kc_X0_changesOf : Cond.code yX0_changesOf cX0_changesOf 2 (some .int) ∈ WT := wt 474 (by decide +kernel) rfl
theorem kl_L_69 : Cond.methodLink RL 69 yX5_as ∈ WT := wt 475 (by decide +kernel) rfl
theorem km_X5_as : Cond.instanceMethod yX5_as ∈ WT := wt 476 (by decide +kernel) rfl
theorem kv_X5_as : Cond.selects RX5 yX5_as yX5_as ∈ WT := wt 477 (by decide +kernel) rfl
theorem kc_X5_as : Cond.code yX5_as cX5_as 3 (some .int) ∈ WT := wt 478 (by decide +kernel) rfl
theorem kl_X5_174 : Cond.methodLink RX5 174 yX5_isOfKind ∈ WT := wt 479 (by decide +kernel) rfl
theorem ks_X5_isOfKind : Cond.static yX5_isOfKind ∈ WT := wt 480 (by decide +kernel) rfl
theorem kc_X5_isOfKind : Cond.code yX5_isOfKind cX5_isOfKind 2 (some .boolean) ∈ WT := wt 481 (by decide +kernel) rfl
theorem kl_L_73 : Cond.methodLink RL 73 yX5_act ∈ WT := wt 482 (by decide +kernel) rfl
theorem km_X5_act : Cond.instanceMethod yX5_act ∈ WT := wt 483 (by decide +kernel) rfl
theorem kv_X5_act : Cond.selects RX5 yX5_act yX5_act ∈ WT := wt 484 (by decide +kernel) rfl
theorem kc_X5_act : Cond.code yX5_act cX5_act 2 (some .int) ∈ WT := wt 485 (by decide +kernel) rfl
theorem kl_X5_178 : Cond.methodLink RX5 178 yX5_letAct ∈ WT := wt 486 (by decide +kernel) rfl
theorem km_X5_letAct : Cond.instanceMethod yX5_letAct ∈ WT := wt 488 (by decide +kernel) rfl
theorem kc_X5_letAct : Cond.code yX5_letAct cX5_letAct 3 none ∈ WT := wt 489 (by decide +kernel) rfl
theorem kl_X5_300 : Cond.methodLink RX5 300 yX5_behindAct ∈ WT := wt 490 (by decide +kernel) rfl
theorem km_X5_behindAct : Cond.instanceMethod yX5_behindAct ∈ WT := wt 492 (by decide +kernel) rfl
theorem kc_X5_behindAct : Cond.code yX5_behindAct cX5_behindAct 4 (some .int) ∈ WT := wt 493 (by decide +kernel) rfl
theorem kl_X5_303 : Cond.methodLink RX5 303 yX0_countChange ∈ WT := wt 494 (by decide +kernel) rfl
theorem km_X0_countChange : Cond.instanceMethod yX0_countChange ∈ WT := wt 495 (by decide +kernel) rfl
theorem kv_X0_countChange : Cond.selects RX0 yX0_countChange yX0_countChange ∈ WT := wt 496 (by decide +kernel) rfl
theorem kc_X0_countChange : Cond.code yX0_countChange cX0_countChange 2 none ∈ WT := wt 497 (by decide +kernel) rfl
theorem kl_X0_28 : Cond.methodLink RX0 28 yX0_has ∈ WT := wt 498 (by decide +kernel) rfl
theorem kl_L_77 : Cond.methodLink RL 77 yX5_round ∈ WT := wt 499 (by decide +kernel) rfl
theorem km_X5_round : Cond.instanceMethod yX5_round ∈ WT := wt 500 (by decide +kernel) rfl
theorem kv_X5_round : Cond.selects RX5 yX5_round yX5_round ∈ WT := wt 501 (by decide +kernel) rfl
theorem kc_X5_round : Cond.code yX5_round cX5_round 2 (some .int) ∈ WT := wt 502 (by decide +kernel) rfl
theorem kl_L_81 : Cond.methodLink RL 81 yX5_anyhow ∈ WT := wt 503 (by decide +kernel) rfl
theorem km_X5_anyhow : Cond.instanceMethod yX5_anyhow ∈ WT := wt 504 (by decide +kernel) rfl
theorem kv_X5_anyhow : Cond.selects RX5 yX5_anyhow yX5_anyhow ∈ WT := wt 505 (by decide +kernel) rfl
theorem kc_X5_anyhow : Cond.code yX5_anyhow cX5_anyhow 3 (some .int) ∈ WT := wt 506 (by decide +kernel) rfl
theorem kl_X5_189 : Cond.methodLink RX5 189 yX5_behindRound ∈ WT := wt 507 (by decide +kernel) rfl
theorem km_X5_behindRound : Cond.instanceMethod yX5_behindRound ∈ WT := wt 509 (by decide +kernel) rfl
theorem kc_X5_behindRound : Cond.code yX5_behindRound cX5_behindRound 4 (some .int) ∈ WT := wt 510 (by decide +kernel) rfl
theorem kl_L_85 : Cond.methodLink RL 85 yX5_left ∈ WT := wt 511 (by decide +kernel) rfl
theorem km_X5_left : Cond.instanceMethod yX5_left ∈ WT := wt 512 (by decide +kernel) rfl
theorem kv_X5_left : Cond.selects RX5 yX5_left yX5_left ∈ WT := wt 513 (by decide +kernel) rfl
theorem kc_X5_left : Cond.code yX5_left cX5_left 4 (some .int) ∈ WT := wt 514 (by decide +kernel) rfl
theorem kl_X5_192 : Cond.methodLink RX5 192 yX5_worldsLeft ∈ WT := wt 515 (by decide +kernel) rfl
theorem km_X5_worldsLeft : Cond.instanceMethod yX5_worldsLeft ∈ WT := wt 517 (by decide +kernel) rfl
theorem kc_X5_worldsLeft : Cond.code yX5_worldsLeft cX5_worldsLeft 1 (some .long) ∈ WT := wt 518 (by decide +kernel) rfl
theorem kl_X5_196 : Cond.methodLink RX5 196 yX5_factsSoInAll ∈ WT := wt 519 (by decide +kernel) rfl
theorem ks_X5_factsSoInAll : Cond.static yX5_factsSoInAll ∈ WT := wt 520 (by decide +kernel) rfl
theorem kc_X5_factsSoInAll : Cond.code yX5_factsSoInAll cX5_factsSoInAll 4 (some .int) ∈ WT := wt 521 (by decide +kernel) rfl
theorem kl_X5_306 : Cond.methodLink RX5 306 yX5_worldsOfFact ∈ WT := wt 522 (by decide +kernel) rfl
theorem kk_X5_309 : Cond.constantLong RX5 309 (-1) ∈ WT := wt 523 (by decide +kernel) rfl
theorem kl_X5_199 : Cond.methodLink RX5 199 yX5_factsSoInNone ∈ WT := wt 524 (by decide +kernel) rfl
theorem ks_X5_factsSoInNone : Cond.static yX5_factsSoInNone ∈ WT := wt 525 (by decide +kernel) rfl
theorem kc_X5_factsSoInNone : Cond.code yX5_factsSoInNone cX5_factsSoInNone 4 (some .int) ∈ WT := wt 526 (by decide +kernel) rfl
theorem kl_L_89 : Cond.methodLink RL 89 yX5_ask ∈ WT := wt 527 (by decide +kernel) rfl
theorem km_X5_ask : Cond.instanceMethod yX5_ask ∈ WT := wt 528 (by decide +kernel) rfl
theorem kv_X5_ask : Cond.selects RX5 yX5_ask yX5_ask ∈ WT := wt 529 (by decide +kernel) rfl
theorem kc_X5_ask : Cond.code yX5_ask cX5_ask 5 (some .int) ∈ WT := wt 530 (by decide +kernel) rfl
theorem kl_X5_202 : Cond.methodLink RX5 202 yX5_leftAtWorst ∈ WT := wt 531 (by decide +kernel) rfl
theorem km_X5_leftAtWorst : Cond.instanceMethod yX5_leftAtWorst ∈ WT := wt 533 (by decide +kernel) rfl
theorem kc_X5_leftAtWorst : Cond.code yX5_leftAtWorst cX5_leftAtWorst 4 (some .int) ∈ WT := wt 534 (by decide +kernel) rfl
theorem kl_X5_311 : Cond.methodLink RX5 311 yJ9_max_7cf53 ∈ WT := wt 535 (by decide +kernel) rfl
theorem ks_J9_max_7cf53 : Cond.static yJ9_max_7cf53 ∈ WT := wt 536 (by decide +kernel) rfl
theorem kc_J9_max_7cf53 : Cond.code yJ9_max_7cf53 cJ9_max_7cf53 2 (some .int) ∈ WT := wt 537 (by decide +kernel) rfl
theorem kl_L_93 : Cond.methodLink RL 93 yX5_add ∈ WT := wt 538 (by decide +kernel) rfl
theorem km_X5_add : Cond.instanceMethod yX5_add ∈ WT := wt 539 (by decide +kernel) rfl
theorem kv_X5_add : Cond.selects RX5 yX5_add yX5_add ∈ WT := wt 540 (by decide +kernel) rfl
theorem kc_X5_add : Cond.code yX5_add cX5_add 6 (some .int) ∈ WT := wt 541 (by decide +kernel) rfl
theorem kl_X5_211 : Cond.methodLink RX5 211 yX5_readingsWith ∈ WT := wt 542 (by decide +kernel) rfl
theorem km_X5_readingsWith : Cond.instanceMethod yX5_readingsWith ∈ WT := wt 544 (by decide +kernel) rfl
theorem kc_X5_readingsWith : Cond.code yX5_readingsWith cX5_readingsWith 4 (some .int) ∈ WT := wt 545 (by decide +kernel) rfl
theorem kl_X5_316 : Cond.methodLink RX5 316 yX3_append ∈ WT := wt 546 (by decide +kernel) rfl
theorem kl_X5_319 : Cond.methodLink RX5 319 yX3_workOutReadings ∈ WT := wt 547 (by decide +kernel) rfl
theorem kl_L_97 : Cond.methodLink RL 97 yX5_tell ∈ WT := wt 548 (by decide +kernel) rfl
theorem km_X5_tell : Cond.instanceMethod yX5_tell ∈ WT := wt 549 (by decide +kernel) rfl
theorem kv_X5_tell : Cond.selects RX5 yX5_tell yX5_tell ∈ WT := wt 550 (by decide +kernel) rfl
theorem kc_X5_tell : Cond.code yX5_tell cX5_tell 3 (some .int) ∈ WT := wt 551 (by decide +kernel) rfl
theorem kl_X5_215 : Cond.methodLink RX5 215 yX4_append ∈ WT := wt 552 (by decide +kernel) rfl
theorem km_X4_append : Cond.instanceMethod yX4_append ∈ WT := wt 553 (by decide +kernel) rfl
theorem kv_X4_append : Cond.selects RX4 yX4_append yX4_append ∈ WT := wt 554 (by decide +kernel) rfl
theorem kc_X4_append : Cond.code yX4_append cX4_append 2 (some .boolean) ∈ WT := wt 555 (by decide +kernel) rfl
theorem kl_L_101 : Cond.methodLink RL 101 yX5_then ∈ WT := wt 556 (by decide +kernel) rfl
theorem km_X5_then : Cond.instanceMethod yX5_then ∈ WT := wt 557 (by decide +kernel) rfl
theorem kv_X5_then : Cond.selects RX5 yX5_then yX5_then ∈ WT := wt 558 (by decide +kernel) rfl
theorem kc_X5_then : Cond.code yX5_then cX5_then 2 (some .int) ∈ WT := wt 559 (by decide +kernel) rfl
theorem kl_L_105 : Cond.methodLink RL 105 yX5_fits ∈ WT := wt 560 (by decide +kernel) rfl
theorem km_X5_fits : Cond.instanceMethod yX5_fits ∈ WT := wt 561 (by decide +kernel) rfl
theorem kv_X5_fits : Cond.selects RX5 yX5_fits yX5_fits ∈ WT := wt 562 (by decide +kernel) rfl
theorem kc_X5_fits : Cond.code yX5_fits cX5_fits 6 (some .int) ∈ WT := wt 563 (by decide +kernel) rfl
theorem kl_X5_218 : Cond.methodLink RX5 218 yX5_doesFit ∈ WT := wt 564 (by decide +kernel) rfl
theorem km_X5_doesFit : Cond.instanceMethod yX5_doesFit ∈ WT := wt 566 (by decide +kernel) rfl
theorem kc_X5_doesFit : Cond.code yX5_doesFit cX5_doesFit 4 (some .boolean) ∈ WT := wt 567 (by decide +kernel) rfl
theorem kl_X5_322 : Cond.methodLink RX5 322 yX4_worldAt ∈ WT := wt 568 (by decide +kernel) rfl
theorem km_X4_worldAt : Cond.instanceMethod yX4_worldAt ∈ WT := wt 569 (by decide +kernel) rfl
theorem kv_X4_worldAt : Cond.selects RX4 yX4_worldAt yX4_worldAt ∈ WT := wt 570 (by decide +kernel) rfl
theorem kc_X4_worldAt : Cond.code yX4_worldAt cX4_worldAt 2 (some .int) ∈ WT := wt 571 (by decide +kernel) rfl
theorem kl_L_109 : Cond.methodLink RL 109 yX5_times ∈ WT := wt 572 (by decide +kernel) rfl
theorem km_X5_times : Cond.instanceMethod yX5_times ∈ WT := wt 573 (by decide +kernel) rfl
theorem kv_X5_times : Cond.selects RX5 yX5_times yX5_times ∈ WT := wt 574 (by decide +kernel) rfl
theorem kc_X5_times : Cond.code yX5_times cX5_times 8 (some .int) ∈ WT := wt 575 (by decide +kernel) rfl
theorem kl_X5_221 : Cond.methodLink RX5 221 yX5_nextSeed ∈ WT := wt 576 (by decide +kernel) rfl
theorem ks_X5_nextSeed : Cond.static yX5_nextSeed ∈ WT := wt 577 (by decide +kernel) rfl
theorem kc_X5_nextSeed : Cond.code yX5_nextSeed cX5_nextSeed 1 (some .int) ∈ WT := wt 578 (by decide +kernel) rfl
theorem kk_X5_325 : Cond.constantLong RX5 325 (1103515245) ∈ WT := wt 579 (by decide +kernel) rfl
theorem kk_X5_327 : Cond.constantLong RX5 327 (12345) ∈ WT := wt 580 (by decide +kernel) rfl
theorem kk_X5_329 : Cond.constantLong RX5 329 (2147483647) ∈ WT := wt 581 (by decide +kernel) rfl
theorem kl_X5_224 : Cond.methodLink RX5 224 yX5_drawOf ∈ WT := wt 582 (by decide +kernel) rfl
theorem ks_X5_drawOf : Cond.static yX5_drawOf ∈ WT := wt 583 (by decide +kernel) rfl
theorem kc_X5_drawOf : Cond.code yX5_drawOf cX5_drawOf 2 (some .int) ∈ WT := wt 584 (by decide +kernel) rfl
theorem kk_X5_331 : Cond.constant RX5 331 (65536) ∈ WT := wt 585 (by decide +kernel) rfl
theorem kl_L_113 : Cond.methodLink RL 113 yX5_image ∈ WT := wt 586 (by decide +kernel) rfl
theorem km_X5_image : Cond.instanceMethod yX5_image ∈ WT := wt 587 (by decide +kernel) rfl
theorem kv_X5_image : Cond.selects RX5 yX5_image yX5_image ∈ WT := wt 588 (by decide +kernel) rfl
theorem kc_X5_image : Cond.code yX5_image cX5_image 1 (some .int) ∈ WT := wt 589 (by decide +kernel) rfl
theorem kl_X5_235 : Cond.methodLink RX5 235 yX0_become ∈ WT := wt 590 (by decide +kernel) rfl
theorem km_X0_become : Cond.instanceMethod yX0_become ∈ WT := wt 591 (by decide +kernel) rfl
theorem kv_X0_become : Cond.selects RX0 yX0_become yX0_become ∈ WT := wt 592 (by decide +kernel) rfl
theorem kc_X0_become : Cond.code yX0_become cX0_become 3 none ∈ WT := wt 593 (by decide +kernel) rfl
theorem kl_X5_239 : Cond.methodLink RX5 239 yX4_become ∈ WT := wt 594 (by decide +kernel) rfl
theorem km_X4_become : Cond.instanceMethod yX4_become ∈ WT := wt 595 (by decide +kernel) rfl
theorem kv_X4_become : Cond.selects RX4 yX4_become yX4_become ∈ WT := wt 596 (by decide +kernel) rfl
theorem kc_X4_become : Cond.code yX4_become cX4_become 3 none ∈ WT := wt 597 (by decide +kernel) rfl
theorem kl_X4_19 : Cond.methodLink RX4 19 yX4_worldAt ∈ WT := wt 598 (by decide +kernel) rfl
theorem kl_X4_23 : Cond.methodLink RX4 23 yX4_append ∈ WT := wt 599 (by decide +kernel) rfl
theorem kl_L_117 : Cond.methodLink RL 117 yX5_restore ∈ WT := wt 600 (by decide +kernel) rfl
theorem km_X5_restore : Cond.instanceMethod yX5_restore ∈ WT := wt 601 (by decide +kernel) rfl
theorem kv_X5_restore : Cond.selects RX5 yX5_restore yX5_restore ∈ WT := wt 602 (by decide +kernel) rfl
theorem kc_X5_restore : Cond.code yX5_restore cX5_restore 1 (some .int) ∈ WT := wt 603 (by decide +kernel) rfl
theorem kl_L_121 : Cond.methodLink RL 121 yX5_count ∈ WT := wt 604 (by decide +kernel) rfl
theorem km_X5_count : Cond.instanceMethod yX5_count ∈ WT := wt 605 (by decide +kernel) rfl
theorem kv_X5_count : Cond.selects RX5 yX5_count yX5_count ∈ WT := wt 606 (by decide +kernel) rfl
theorem kc_X5_count : Cond.code yX5_count cX5_count 2 (some .int) ∈ WT := wt 607 (by decide +kernel) rfl
theorem kl_L_125 : Cond.methodLink RL 125 yX5_digest ∈ WT := wt 608 (by decide +kernel) rfl
theorem km_X5_digest : Cond.instanceMethod yX5_digest ∈ WT := wt 609 (by decide +kernel) rfl
theorem kv_X5_digest : Cond.selects RX5 yX5_digest yX5_digest ∈ WT := wt 610 (by decide +kernel) rfl
theorem kc_X5_digest : Cond.code yX5_digest cX5_digest 4 (some .long) ∈ WT := wt 611 (by decide +kernel) rfl
theorem kk_X5_242 : Cond.constantLong RX5 242 (739) ∈ WT := wt 612 (by decide +kernel) rfl
theorem kl_X5_244 : Cond.methodLink RX5 244 yX5_sense ∈ WT := wt 613 (by decide +kernel) rfl
theorem kl_X5_247 : Cond.methodLink RX5 247 yX5_mixed ∈ WT := wt 614 (by decide +kernel) rfl
theorem ks_X5_mixed : Cond.static yX5_mixed ∈ WT := wt 615 (by decide +kernel) rfl
theorem kc_X5_mixed : Cond.code yX5_mixed cX5_mixed 4 (some .long) ∈ WT := wt 616 (by decide +kernel) rfl
theorem kk_X5_267 : Cond.constantLong RX5 267 (31) ∈ WT := wt 617 (by decide +kernel) rfl
theorem kl_X5_251 : Cond.methodLink RX5 251 yX5_fact ∈ WT := wt 618 (by decide +kernel) rfl
theorem kl_X5_254 : Cond.methodLink RX5 254 yX5_mixedWithHearers ∈ WT := wt 619 (by decide +kernel) rfl
theorem km_X5_mixedWithHearers : Cond.instanceMethod yX5_mixedWithHearers ∈ WT := wt 621 (by decide +kernel) rfl
theorem kc_X5_mixedWithHearers : Cond.code yX5_mixedWithHearers cX5_mixedWithHearers 7 (some .long) ∈ WT := wt 622 (by decide +kernel) rfl
theorem kl_X5_269 : Cond.methodLink RX5 269 yX5_about ∈ WT := wt 623 (by decide +kernel) rfl
theorem kl_X5_258 : Cond.methodLink RX5 258 yX5_mixedWithSaying ∈ WT := wt 624 (by decide +kernel) rfl
theorem km_X5_mixedWithSaying : Cond.instanceMethod yX5_mixedWithSaying ∈ WT := wt 626 (by decide +kernel) rfl
theorem kc_X5_mixedWithSaying : Cond.code yX5_mixedWithSaying cX5_mixedWithSaying 6 (some .long) ∈ WT := wt 627 (by decide +kernel) rfl
theorem kl_X5_272 : Cond.methodLink RX5 272 yX5_come ∈ WT := wt 628 (by decide +kernel) rfl
theorem kl_X5_275 : Cond.methodLink RX5 275 yX5_anyhow ∈ WT := wt 629 (by decide +kernel) rfl
theorem kl_X5_278 : Cond.methodLink RX5 278 yX5_left ∈ WT := wt 630 (by decide +kernel) rfl
theorem kl_X5_281 : Cond.methodLink RX5 281 yX5_ask ∈ WT := wt 631 (by decide +kernel) rfl
theorem kl_X5_261 : Cond.methodLink RX5 261 yX5_mixedWithFits ∈ WT := wt 632 (by decide +kernel) rfl
theorem km_X5_mixedWithFits : Cond.instanceMethod yX5_mixedWithFits ∈ WT := wt 634 (by decide +kernel) rfl
theorem kc_X5_mixedWithFits : Cond.code yX5_mixedWithFits cX5_mixedWithFits 6 (some .long) ∈ WT := wt 635 (by decide +kernel) rfl
theorem kl_X5_284 : Cond.methodLink RX5 284 yX5_fits ∈ WT := wt 636 (by decide +kernel) rfl
theorem kl_X5_264 : Cond.methodLink RX5 264 yX5_count ∈ WT := wt 637 (by decide +kernel) rfl
theorem kcl_L_10 : Cond.classLink RL 10 RX6 ∈ WT := wt 638 (by decide +kernel) rfl
theorem kn_X6 : Cond.instantiable RX6 39 ∈ WT := wt 639 (by decide +kernel) rfl
theorem kl_L_12 : Cond.methodLink RL 12 yX6_init ∈ WT := wt 640 (by decide +kernel) rfl
theorem km_X6_init : Cond.instanceMethod yX6_init ∈ WT := wt 641 (by decide +kernel) rfl
theorem kc_X6_init : Cond.code yX6_init cX6_init 1 none ∈ WT := wt 642 (by decide +kernel) rfl
theorem kl_X6_1 : Cond.methodLink RX6 1 objectInit ∈ WT := wt 643 (by decide +kernel) rfl
theorem kf_X6_162 : Cond.fieldLink RX6 162 "AsWasSaidModel" "world" "I" ∈ WT := wt 644 (by decide +kernel) rfl
theorem kf_X6_103 : Cond.fieldLink RX6 103 "AsWasSaidModel" "sayings" "I" ∈ WT := wt 645 (by decide +kernel) rfl
theorem kf_X6_7 : Cond.fieldLink RX6 7 "AsWasSaidModel" "senseOf" "[I" ∈ WT := wt 646 (by decide +kernel) rfl
theorem kf_X6_97 : Cond.fieldLink RX6 97 "AsWasSaidModel" "words" "I" ∈ WT := wt 647 (by decide +kernel) rfl
theorem kf_X6_13 : Cond.fieldLink RX6 13 "AsWasSaidModel" "wordOf" "[I" ∈ WT := wt 648 (by decide +kernel) rfl
theorem kf_X6_16 : Cond.fieldLink RX6 16 "AsWasSaidModel" "joinOf" "[I" ∈ WT := wt 649 (by decide +kernel) rfl
theorem kf_X6_100 : Cond.fieldLink RX6 100 "AsWasSaidModel" "otherWords" "I" ∈ WT := wt 650 (by decide +kernel) rfl
theorem kf_X6_19 : Cond.fieldLink RX6 19 "AsWasSaidModel" "otherWord" "[I" ∈ WT := wt 651 (by decide +kernel) rfl
theorem kf_X6_22 : Cond.fieldLink RX6 22 "AsWasSaidModel" "otherJoin" "[I" ∈ WT := wt 652 (by decide +kernel) rfl
theorem kf_X6_175 : Cond.fieldLink RX6 175 "AsWasSaidModel" "hearers" "I" ∈ WT := wt 653 (by decide +kernel) rfl
theorem kf_X6_25 : Cond.fieldLink RX6 25 "AsWasSaidModel" "kindOf" "[I" ∈ WT := wt 654 (by decide +kernel) rfl
theorem kf_X6_28 : Cond.fieldLink RX6 28 "AsWasSaidModel" "factOf" "[I" ∈ WT := wt 655 (by decide +kernel) rfl
theorem kf_X6_31 : Cond.fieldLink RX6 31 "AsWasSaidModel" "valueOf" "[I" ∈ WT := wt 656 (by decide +kernel) rfl
theorem kf_X6_34 : Cond.fieldLink RX6 34 "AsWasSaidModel" "changesOf" "[I" ∈ WT := wt 657 (by decide +kernel) rfl
theorem kf_X6_197 : Cond.fieldLink RX6 197 "AsWasSaidModel" "rounds" "I" ∈ WT := wt 658 (by decide +kernel) rfl
theorem kf_X6_226 : Cond.fieldLink RX6 226 "AsWasSaidModel" "told" "I" ∈ WT := wt 659 (by decide +kernel) rfl
theorem kf_X6_37 : Cond.fieldLink RX6 37 "AsWasSaidModel" "toldOf" "[I" ∈ WT := wt 660 (by decide +kernel) rfl
theorem kf_X6_220 : Cond.fieldLink RX6 220 "AsWasSaidModel" "asks" "I" ∈ WT := wt 661 (by decide +kernel) rfl
theorem kf_X6_73 : Cond.fieldLink RX6 73 "AsWasSaidModel" "pageLength" "I" ∈ WT := wt 662 (by decide +kernel) rfl
theorem kf_X6_40 : Cond.fieldLink RX6 40 "AsWasSaidModel" "page" "[B" ∈ WT := wt 663 (by decide +kernel) rfl
theorem kf_X6_84 : Cond.fieldLink RX6 84 "AsWasSaidModel" "faultAt" "I" ∈ WT := wt 664 (by decide +kernel) rfl
theorem kf_X6_87 : Cond.fieldLink RX6 87 "AsWasSaidModel" "isWhole" "Z" ∈ WT := wt 665 (by decide +kernel) rfl
theorem kf_X6_77 : Cond.fieldLink RX6 77 "AsWasSaidModel" "newWords" "I" ∈ WT := wt 666 (by decide +kernel) rfl
theorem kf_X6_44 : Cond.fieldLink RX6 44 "AsWasSaidModel" "newWord" "[I" ∈ WT := wt 667 (by decide +kernel) rfl
theorem kf_X6_47 : Cond.fieldLink RX6 47 "AsWasSaidModel" "newJoin" "[I" ∈ WT := wt 668 (by decide +kernel) rfl
theorem kf_X6_110 : Cond.fieldLink RX6 110 "AsWasSaidModel" "readings" "I" ∈ WT := wt 669 (by decide +kernel) rfl
theorem kf_X6_50 : Cond.fieldLink RX6 50 "AsWasSaidModel" "soOf" "[J" ∈ WT := wt 670 (by decide +kernel) rfl
theorem kf_X6_54 : Cond.fieldLink RX6 54 "AsWasSaidModel" "value" "[J" ∈ WT := wt 671 (by decide +kernel) rfl
theorem kf_X6_57 : Cond.fieldLink RX6 57 "AsWasSaidModel" "joining" "[I" ∈ WT := wt 672 (by decide +kernel) rfl
theorem kf_X6_60 : Cond.fieldLink RX6 60 "AsWasSaidModel" "takesOf" "[I" ∈ WT := wt 673 (by decide +kernel) rfl
theorem kf_X6_234 : Cond.fieldLink RX6 234 "AsWasSaidModel" "seedNow" "J" ∈ WT := wt 674 (by decide +kernel) rfl
theorem kf_X6_250 : Cond.fieldLink RX6 250 "AsWasSaidModel" "isKept" "Z" ∈ WT := wt 675 (by decide +kernel) rfl
theorem kf_X6_253 : Cond.fieldLink RX6 253 "AsWasSaidModel" "keptWorld" "I" ∈ WT := wt 676 (by decide +kernel) rfl
theorem kf_X6_256 : Cond.fieldLink RX6 256 "AsWasSaidModel" "keptHearers" "I" ∈ WT := wt 677 (by decide +kernel) rfl
theorem kf_X6_259 : Cond.fieldLink RX6 259 "AsWasSaidModel" "keptRounds" "I" ∈ WT := wt 678 (by decide +kernel) rfl
theorem kf_X6_262 : Cond.fieldLink RX6 262 "AsWasSaidModel" "keptTold" "I" ∈ WT := wt 679 (by decide +kernel) rfl
theorem kf_X6_63 : Cond.fieldLink RX6 63 "AsWasSaidModel" "keptChanges" "[I" ∈ WT := wt 680 (by decide +kernel) rfl
theorem kf_X6_66 : Cond.fieldLink RX6 66 "AsWasSaidModel" "keptToldOf" "[I" ∈ WT := wt 681 (by decide +kernel) rfl
theorem kf_X6_273 : Cond.fieldLink RX6 273 "AsWasSaidModel" "h" "J" ∈ WT := wt 682 (by decide +kernel) rfl
theorem ka_byte : Cond.arrayClass Jvm.ClassFile.FieldType.byte ∈ WT := wt 762 (by decide +kernel) rfl
theorem kl_L_17 : Cond.methodLink RL 17 yX6_letter ∈ WT := wt 763 (by decide +kernel) rfl
theorem km_X6_letter : Cond.instanceMethod yX6_letter ∈ WT := wt 764 (by decide +kernel) rfl
theorem kv_X6_letter : Cond.selects RX6 yX6_letter yX6_letter ∈ WT := wt 765 (by decide +kernel) rfl
theorem kc_X6_letter : Cond.code yX6_letter cX6_letter 2 (some .int) ∈ WT := wt 766 (by decide +kernel) rfl
theorem kl_X6_69 : Cond.methodLink RX6 69 yX6_within ∈ WT := wt 767 (by decide +kernel) rfl
theorem ks_X6_within : Cond.static yX6_within ∈ WT := wt 768 (by decide +kernel) rfl
theorem kc_X6_within : Cond.code yX6_within cX6_within 3 (some .boolean) ∈ WT := wt 769 (by decide +kernel) rfl
theorem kl_L_22 : Cond.methodLink RL 22 yX6_blank ∈ WT := wt 770 (by decide +kernel) rfl
theorem km_X6_blank : Cond.instanceMethod yX6_blank ∈ WT := wt 771 (by decide +kernel) rfl
theorem kv_X6_blank : Cond.selects RX6 yX6_blank yX6_blank ∈ WT := wt 772 (by decide +kernel) rfl
theorem kc_X6_blank : Cond.code yX6_blank cX6_blank 2 (some .int) ∈ WT := wt 773 (by decide +kernel) rfl
theorem kl_L_26 : Cond.methodLink RL 26 yX6_fault ∈ WT := wt 774 (by decide +kernel) rfl
theorem km_X6_fault : Cond.instanceMethod yX6_fault ∈ WT := wt 775 (by decide +kernel) rfl
theorem kv_X6_fault : Cond.selects RX6 yX6_fault yX6_fault ∈ WT := wt 776 (by decide +kernel) rfl
theorem kc_X6_fault : Cond.code yX6_fault cX6_fault 2 (some .int) ∈ WT := wt 777 (by decide +kernel) rfl
theorem kl_X6_91 : Cond.methodLink RX6 91 yX6_readSaying ∈ WT := wt 778 (by decide +kernel) rfl
theorem km_X6_readSaying : Cond.instanceMethod yX6_readSaying ∈ WT := wt 780 (by decide +kernel) rfl
theorem kc_X6_readSaying : Cond.code yX6_readSaying cX6_readSaying 5 none ∈ WT := wt 781 (by decide +kernel) rfl
theorem kl_X6_80 : Cond.methodLink RX6 80 yX6_nextState ∈ WT := wt 782 (by decide +kernel) rfl
theorem km_X6_nextState : Cond.instanceMethod yX6_nextState ∈ WT := wt 784 (by decide +kernel) rfl
theorem kc_X6_nextState : Cond.code yX6_nextState cX6_nextState 4 (some .int) ∈ WT := wt 785 (by decide +kernel) rfl
theorem kl_X6_94 : Cond.methodLink RX6 94 yX6_readSenses ∈ WT := wt 786 (by decide +kernel) rfl
theorem km_X6_readSenses : Cond.instanceMethod yX6_readSenses ∈ WT := wt 788 (by decide +kernel) rfl
theorem kc_X6_readSenses : Cond.code yX6_readSenses cX6_readSenses 2 none ∈ WT := wt 789 (by decide +kernel) rfl
theorem kl_L_30 : Cond.methodLink RL 30 yX6_say ∈ WT := wt 790 (by decide +kernel) rfl
theorem km_X6_say : Cond.instanceMethod yX6_say ∈ WT := wt 791 (by decide +kernel) rfl
theorem kv_X6_say : Cond.selects RX6 yX6_say yX6_say ∈ WT := wt 792 (by decide +kernel) rfl
theorem kc_X6_say : Cond.code yX6_say cX6_say 2 (some .int) ∈ WT := wt 793 (by decide +kernel) rfl
theorem kl_X6_106 : Cond.methodLink RX6 106 yX6_lay ∈ WT := wt 794 (by decide +kernel) rfl
theorem km_X6_lay : Cond.instanceMethod yX6_lay ∈ WT := wt 796 (by decide +kernel) rfl
theorem kc_X6_lay : Cond.code yX6_lay cX6_lay 12 none ∈ WT := wt 797 (by decide +kernel) rfl
theorem kl_X6_120 : Cond.methodLink RX6 120 yX6_bothMany ∈ WT := wt 798 (by decide +kernel) rfl
theorem km_X6_bothMany : Cond.instanceMethod yX6_bothMany ∈ WT := wt 800 (by decide +kernel) rfl
theorem kc_X6_bothMany : Cond.code yX6_bothMany cX6_bothMany 5 (some .int) ∈ WT := wt 801 (by decide +kernel) rfl
theorem kl_X6_117 : Cond.methodLink RX6 117 yX6_joinAt ∈ WT := wt 802 (by decide +kernel) rfl
theorem km_X6_joinAt : Cond.instanceMethod yX6_joinAt ∈ WT := wt 804 (by decide +kernel) rfl
theorem kc_X6_joinAt : Cond.code yX6_joinAt cX6_joinAt 3 (some .int) ∈ WT := wt 805 (by decide +kernel) rfl
theorem kl_X6_123 : Cond.methodLink RX6 123 yX6_brackets ∈ WT := wt 806 (by decide +kernel) rfl
theorem ks_X6_brackets : Cond.static yX6_brackets ∈ WT := wt 807 (by decide +kernel) rfl
theorem kc_X6_brackets : Cond.code yX6_brackets cX6_brackets 1 (some .int) ∈ WT := wt 808 (by decide +kernel) rfl
theorem kl_X6_127 : Cond.methodLink RX6 127 yX6_wordAt ∈ WT := wt 809 (by decide +kernel) rfl
theorem km_X6_wordAt : Cond.instanceMethod yX6_wordAt ∈ WT := wt 811 (by decide +kernel) rfl
theorem kc_X6_wordAt : Cond.code yX6_wordAt cX6_wordAt 3 (some .int) ∈ WT := wt 812 (by decide +kernel) rfl
theorem kl_X6_130 : Cond.methodLink RX6 130 yX6_worldsOf ∈ WT := wt 813 (by decide +kernel) rfl
theorem ks_X6_worldsOf : Cond.static yX6_worldsOf ∈ WT := wt 814 (by decide +kernel) rfl
theorem kc_X6_worldsOf : Cond.code yX6_worldsOf cX6_worldsOf 4 (some .long) ∈ WT := wt 815 (by decide +kernel) rfl
theorem kk_X6_134 : Cond.constantLong RX6 134 (-1) ∈ WT := wt 816 (by decide +kernel) rfl
theorem kl_X6_136 : Cond.methodLink RX6 136 yX6_bracketed ∈ WT := wt 817 (by decide +kernel) rfl
theorem km_X6_bracketed : Cond.instanceMethod yX6_bracketed ∈ WT := wt 819 (by decide +kernel) rfl
theorem kc_X6_bracketed : Cond.code yX6_bracketed cX6_bracketed 9 (some .long) ∈ WT := wt 820 (by decide +kernel) rfl
theorem kl_X6_140 : Cond.methodLink RX6 140 yX6_joined ∈ WT := wt 821 (by decide +kernel) rfl
theorem ks_X6_joined : Cond.static yX6_joined ∈ WT := wt 822 (by decide +kernel) rfl
theorem kc_X6_joined : Cond.code yX6_joined cX6_joined 5 (some .long) ∈ WT := wt 823 (by decide +kernel) rfl
theorem kl_X6_144 : Cond.methodLink RX6 144 yX6_ofFour ∈ WT := wt 824 (by decide +kernel) rfl
theorem km_X6_ofFour : Cond.instanceMethod yX6_ofFour ∈ WT := wt 826 (by decide +kernel) rfl
theorem kc_X6_ofFour : Cond.code yX6_ofFour cX6_ofFour 13 (some .long) ∈ WT := wt 827 (by decide +kernel) rfl
theorem kl_L_34 : Cond.methodLink RL 34 yX6_senses ∈ WT := wt 828 (by decide +kernel) rfl
theorem km_X6_senses : Cond.instanceMethod yX6_senses ∈ WT := wt 829 (by decide +kernel) rfl
theorem kv_X6_senses : Cond.selects RX6 yX6_senses yX6_senses ∈ WT := wt 830 (by decide +kernel) rfl
theorem kc_X6_senses : Cond.code yX6_senses cX6_senses 3 (some .int) ∈ WT := wt 831 (by decide +kernel) rfl
theorem kl_L_38 : Cond.methodLink RL 38 yX6_sense ∈ WT := wt 832 (by decide +kernel) rfl
theorem km_X6_sense : Cond.instanceMethod yX6_sense ∈ WT := wt 833 (by decide +kernel) rfl
theorem kv_X6_sense : Cond.selects RX6 yX6_sense yX6_sense ∈ WT := wt 834 (by decide +kernel) rfl
theorem kc_X6_sense : Cond.code yX6_sense cX6_sense 2 (some .int) ∈ WT := wt 835 (by decide +kernel) rfl
theorem kl_X6_113 : Cond.methodLink RX6 113 yX6_isLetter ∈ WT := wt 836 (by decide +kernel) rfl
theorem ks_X6_isLetter : Cond.static yX6_isLetter ∈ WT := wt 837 (by decide +kernel) rfl
theorem kc_X6_isLetter : Cond.code yX6_isLetter cX6_isLetter 1 (some .boolean) ∈ WT := wt 838 (by decide +kernel) rfl
theorem kl_L_42 : Cond.methodLink RL 42 yX6_reading ∈ WT := wt 839 (by decide +kernel) rfl
theorem km_X6_reading : Cond.instanceMethod yX6_reading ∈ WT := wt 840 (by decide +kernel) rfl
theorem kv_X6_reading : Cond.selects RX6 yX6_reading yX6_reading ∈ WT := wt 841 (by decide +kernel) rfl
theorem kc_X6_reading : Cond.code yX6_reading cX6_reading 2 (some .int) ∈ WT := wt 842 (by decide +kernel) rfl
theorem kl_X6_148 : Cond.methodLink RX6 148 yX6_isReading ∈ WT := wt 843 (by decide +kernel) rfl
theorem km_X6_isReading : Cond.instanceMethod yX6_isReading ∈ WT := wt 845 (by decide +kernel) rfl
theorem kc_X6_isReading : Cond.code yX6_isReading cX6_isReading 2 (some .boolean) ∈ WT := wt 846 (by decide +kernel) rfl
theorem kl_X6_151 : Cond.methodLink RX6 151 yX6_size ∈ WT := wt 847 (by decide +kernel) rfl
theorem ks_X6_size : Cond.static yX6_size ∈ WT := wt 848 (by decide +kernel) rfl
theorem kc_X6_size : Cond.code yX6_size cX6_size 4 (some .int) ∈ WT := wt 849 (by decide +kernel) rfl
theorem kl_L_47 : Cond.methodLink RL 47 yX6_isSo ∈ WT := wt 850 (by decide +kernel) rfl
theorem km_X6_isSo : Cond.instanceMethod yX6_isSo ∈ WT := wt 851 (by decide +kernel) rfl
theorem kv_X6_isSo : Cond.selects RX6 yX6_isSo yX6_isSo ∈ WT := wt 852 (by decide +kernel) rfl
theorem kc_X6_isSo : Cond.code yX6_isSo cX6_isSo 3 (some .int) ∈ WT := wt 853 (by decide +kernel) rfl
theorem kl_X6_155 : Cond.methodLink RX6 155 yX6_isWorld ∈ WT := wt 854 (by decide +kernel) rfl
theorem ks_X6_isWorld : Cond.static yX6_isWorld ∈ WT := wt 855 (by decide +kernel) rfl
theorem kc_X6_isWorld : Cond.code yX6_isWorld cX6_isWorld 1 (some .boolean) ∈ WT := wt 856 (by decide +kernel) rfl
theorem kl_X6_158 : Cond.methodLink RX6 158 yX6_isIn ∈ WT := wt 857 (by decide +kernel) rfl
theorem ks_X6_isIn : Cond.static yX6_isIn ∈ WT := wt 858 (by decide +kernel) rfl
theorem kc_X6_isIn : Cond.code yX6_isIn cX6_isIn 3 (some .boolean) ∈ WT := wt 859 (by decide +kernel) rfl
theorem kl_L_51 : Cond.methodLink RL 51 yX6_come ∈ WT := wt 860 (by decide +kernel) rfl
theorem km_X6_come : Cond.instanceMethod yX6_come ∈ WT := wt 861 (by decide +kernel) rfl
theorem kv_X6_come : Cond.selects RX6 yX6_come yX6_come ∈ WT := wt 862 (by decide +kernel) rfl
theorem kc_X6_come : Cond.code yX6_come cX6_come 2 (some .int) ∈ WT := wt 863 (by decide +kernel) rfl
theorem kl_X6_165 : Cond.methodLink RX6 165 yX6_comeNow ∈ WT := wt 864 (by decide +kernel) rfl
theorem km_X6_comeNow : Cond.instanceMethod yX6_comeNow ∈ WT := wt 866 (by decide +kernel) rfl
theorem kc_X6_comeNow : Cond.code yX6_comeNow cX6_comeNow 6 (some .int) ∈ WT := wt 867 (by decide +kernel) rfl
theorem kl_L_55 : Cond.methodLink RL 55 yX6_fact ∈ WT := wt 868 (by decide +kernel) rfl
theorem km_X6_fact : Cond.instanceMethod yX6_fact ∈ WT := wt 869 (by decide +kernel) rfl
theorem kv_X6_fact : Cond.selects RX6 yX6_fact yX6_fact ∈ WT := wt 870 (by decide +kernel) rfl
theorem kc_X6_fact : Cond.code yX6_fact cX6_fact 2 (some .int) ∈ WT := wt 871 (by decide +kernel) rfl
theorem kl_X6_168 : Cond.methodLink RX6 168 yX6_isFact ∈ WT := wt 872 (by decide +kernel) rfl
theorem ks_X6_isFact : Cond.static yX6_isFact ∈ WT := wt 873 (by decide +kernel) rfl
theorem kc_X6_isFact : Cond.code yX6_isFact cX6_isFact 1 (some .boolean) ∈ WT := wt 874 (by decide +kernel) rfl
theorem kl_L_59 : Cond.methodLink RL 59 yX6_set ∈ WT := wt 875 (by decide +kernel) rfl
theorem km_X6_set : Cond.instanceMethod yX6_set ∈ WT := wt 876 (by decide +kernel) rfl
theorem kv_X6_set : Cond.selects RX6 yX6_set yX6_set ∈ WT := wt 877 (by decide +kernel) rfl
theorem kc_X6_set : Cond.code yX6_set cX6_set 4 (some .int) ∈ WT := wt 878 (by decide +kernel) rfl
theorem kl_X6_171 : Cond.methodLink RX6 171 yX6_with ∈ WT := wt 879 (by decide +kernel) rfl
theorem ks_X6_with : Cond.static yX6_with ∈ WT := wt 880 (by decide +kernel) rfl
theorem kc_X6_with : Cond.code yX6_with cX6_with 3 (some .int) ∈ WT := wt 881 (by decide +kernel) rfl
theorem kl_L_64 : Cond.methodLink RL 64 yX6_hearer ∈ WT := wt 882 (by decide +kernel) rfl
theorem km_X6_hearer : Cond.instanceMethod yX6_hearer ∈ WT := wt 883 (by decide +kernel) rfl
theorem kv_X6_hearer : Cond.selects RX6 yX6_hearer yX6_hearer ∈ WT := wt 884 (by decide +kernel) rfl
theorem kc_X6_hearer : Cond.code yX6_hearer cX6_hearer 4 (some .int) ∈ WT := wt 885 (by decide +kernel) rfl
theorem kl_L_68 : Cond.methodLink RL 68 yX6_about ∈ WT := wt 886 (by decide +kernel) rfl
theorem km_X6_about : Cond.instanceMethod yX6_about ∈ WT := wt 887 (by decide +kernel) rfl
theorem kv_X6_about : Cond.selects RX6 yX6_about yX6_about ∈ WT := wt 888 (by decide +kernel) rfl
theorem kc_X6_about : Cond.code yX6_about cX6_about 3 (some .int) ∈ WT := wt 889 (by decide +kernel) rfl
theorem kl_X6_184 : Cond.methodLink RX6 184 yX6_isHearer ∈ WT := wt 890 (by decide +kernel) rfl
theorem km_X6_isHearer : Cond.instanceMethod yX6_isHearer ∈ WT := wt 892 (by decide +kernel) rfl
theorem kc_X6_isHearer : Cond.code yX6_isHearer cX6_isHearer 2 (some .boolean) ∈ WT := wt 893 (by decide +kernel) rfl
theorem kl_X6_187 : Cond.methodLink RX6 187 yX6_hearerNow ∈ WT := wt 894 (by decide +kernel) rfl
theorem km_X6_hearerNow : Cond.instanceMethod yX6_hearerNow ∈ WT := wt 896 (by decide +kernel) rfl
theorem kc_X6_hearerNow : Cond.code yX6_hearerNow cX6_hearerNow 4 (some .int) ∈ WT := wt 897 (by decide +kernel) rfl
theorem kl_X6_181 : Cond.methodLink RX6 181 yX6_takes ∈ WT := wt 898 (by decide +kernel) rfl
theorem km_X6_takes : Cond.instanceMethod yX6_takes ∈ WT := wt 900 (by decide +kernel) rfl
theorem kc_X6_takes : Cond.code yX6_takes cX6_takes 6 (some .int) ∈ WT := wt 901 (by decide +kernel) rfl
theorem kl_X6_178 : Cond.methodLink RX6 178 yX6_actsBy ∈ WT := wt 902 (by decide +kernel) rfl
theorem km_X6_actsBy : Cond.instanceMethod yX6_actsBy ∈ WT := wt 904 (by decide +kernel) rfl
theorem kc_X6_actsBy : Cond.code yX6_actsBy cX6_actsBy 4 (some .boolean) ∈ WT := wt 905 (by decide +kernel) rfl
theorem kl_L_72 : Cond.methodLink RL 72 yX6_as ∈ WT := wt 906 (by decide +kernel) rfl
theorem km_X6_as : Cond.instanceMethod yX6_as ∈ WT := wt 907 (by decide +kernel) rfl
theorem kv_X6_as : Cond.selects RX6 yX6_as yX6_as ∈ WT := wt 908 (by decide +kernel) rfl
theorem kc_X6_as : Cond.code yX6_as cX6_as 4 (some .int) ∈ WT := wt 909 (by decide +kernel) rfl
theorem kl_L_76 : Cond.methodLink RL 76 yX6_act ∈ WT := wt 910 (by decide +kernel) rfl
theorem km_X6_act : Cond.instanceMethod yX6_act ∈ WT := wt 911 (by decide +kernel) rfl
theorem kv_X6_act : Cond.selects RX6 yX6_act yX6_act ∈ WT := wt 912 (by decide +kernel) rfl
theorem kc_X6_act : Cond.code yX6_act cX6_act 2 (some .int) ∈ WT := wt 913 (by decide +kernel) rfl
theorem kl_X6_193 : Cond.methodLink RX6 193 yX6_doAct ∈ WT := wt 914 (by decide +kernel) rfl
theorem km_X6_doAct : Cond.instanceMethod yX6_doAct ∈ WT := wt 916 (by decide +kernel) rfl
theorem kc_X6_doAct : Cond.code yX6_doAct cX6_doAct 3 none ∈ WT := wt 917 (by decide +kernel) rfl
theorem kl_X6_190 : Cond.methodLink RX6 190 yX6_behind ∈ WT := wt 918 (by decide +kernel) rfl
theorem km_X6_behind : Cond.instanceMethod yX6_behind ∈ WT := wt 920 (by decide +kernel) rfl
theorem kc_X6_behind : Cond.code yX6_behind cX6_behind 4 (some .int) ∈ WT := wt 921 (by decide +kernel) rfl
theorem kl_L_80 : Cond.methodLink RL 80 yX6_round ∈ WT := wt 922 (by decide +kernel) rfl
theorem km_X6_round : Cond.instanceMethod yX6_round ∈ WT := wt 923 (by decide +kernel) rfl
theorem kv_X6_round : Cond.selects RX6 yX6_round yX6_round ∈ WT := wt 924 (by decide +kernel) rfl
theorem kc_X6_round : Cond.code yX6_round cX6_round 2 (some .int) ∈ WT := wt 925 (by decide +kernel) rfl
theorem kl_L_84 : Cond.methodLink RL 84 yX6_anyhow ∈ WT := wt 926 (by decide +kernel) rfl
theorem km_X6_anyhow : Cond.instanceMethod yX6_anyhow ∈ WT := wt 927 (by decide +kernel) rfl
theorem kv_X6_anyhow : Cond.selects RX6 yX6_anyhow yX6_anyhow ∈ WT := wt 928 (by decide +kernel) rfl
theorem kc_X6_anyhow : Cond.code yX6_anyhow cX6_anyhow 1 (some .int) ∈ WT := wt 929 (by decide +kernel) rfl
theorem kl_X6_210 : Cond.methodLink RX6 210 yX6_anyhowNow ∈ WT := wt 930 (by decide +kernel) rfl
theorem km_X6_anyhowNow : Cond.instanceMethod yX6_anyhowNow ∈ WT := wt 932 (by decide +kernel) rfl
theorem kc_X6_anyhowNow : Cond.code yX6_anyhowNow cX6_anyhowNow 5 (some .int) ∈ WT := wt 933 (by decide +kernel) rfl
theorem kl_X6_200 : Cond.methodLink RX6 200 yX6_layTakes ∈ WT := wt 934 (by decide +kernel) rfl
theorem km_X6_layTakes : Cond.instanceMethod yX6_layTakes ∈ WT := wt 936 (by decide +kernel) rfl
theorem kc_X6_layTakes : Cond.code yX6_layTakes cX6_layTakes 2 none ∈ WT := wt 937 (by decide +kernel) rfl
theorem kl_X6_203 : Cond.methodLink RX6 203 yX6_some ∈ WT := wt 938 (by decide +kernel) rfl
theorem km_X6_some : Cond.instanceMethod yX6_some ∈ WT := wt 940 (by decide +kernel) rfl
theorem kc_X6_some : Cond.code yX6_some cX6_some 4 (some .long) ∈ WT := wt 941 (by decide +kernel) rfl
theorem kl_X6_207 : Cond.methodLink RX6 207 yX6_roundFrom ∈ WT := wt 942 (by decide +kernel) rfl
theorem km_X6_roundFrom : Cond.instanceMethod yX6_roundFrom ∈ WT := wt 944 (by decide +kernel) rfl
theorem kc_X6_roundFrom : Cond.code yX6_roundFrom cX6_roundFrom 4 (some .int) ∈ WT := wt 945 (by decide +kernel) rfl
theorem kl_L_88 : Cond.methodLink RL 88 yX6_left ∈ WT := wt 946 (by decide +kernel) rfl
theorem km_X6_left : Cond.instanceMethod yX6_left ∈ WT := wt 947 (by decide +kernel) rfl
theorem kv_X6_left : Cond.selects RX6 yX6_left yX6_left ∈ WT := wt 948 (by decide +kernel) rfl
theorem kc_X6_left : Cond.code yX6_left cX6_left 2 (some .int) ∈ WT := wt 949 (by decide +kernel) rfl
theorem kl_X6_214 : Cond.methodLink RX6 214 yX6_leftNow ∈ WT := wt 950 (by decide +kernel) rfl
theorem km_X6_leftNow : Cond.instanceMethod yX6_leftNow ∈ WT := wt 952 (by decide +kernel) rfl
theorem kc_X6_leftNow : Cond.code yX6_leftNow cX6_leftNow 8 (some .int) ∈ WT := wt 953 (by decide +kernel) rfl
theorem kl_L_92 : Cond.methodLink RL 92 yX6_ask ∈ WT := wt 954 (by decide +kernel) rfl
theorem km_X6_ask : Cond.instanceMethod yX6_ask ∈ WT := wt 955 (by decide +kernel) rfl
theorem kv_X6_ask : Cond.selects RX6 yX6_ask yX6_ask ∈ WT := wt 956 (by decide +kernel) rfl
theorem kc_X6_ask : Cond.code yX6_ask cX6_ask 1 (some .int) ∈ WT := wt 957 (by decide +kernel) rfl
theorem kl_X6_217 : Cond.methodLink RX6 217 yX6_askNow ∈ WT := wt 958 (by decide +kernel) rfl
theorem km_X6_askNow : Cond.instanceMethod yX6_askNow ∈ WT := wt 960 (by decide +kernel) rfl
theorem kc_X6_askNow : Cond.code yX6_askNow cX6_askNow 9 (some .int) ∈ WT := wt 961 (by decide +kernel) rfl
theorem kl_L_96 : Cond.methodLink RL 96 yX6_add ∈ WT := wt 962 (by decide +kernel) rfl
theorem km_X6_add : Cond.instanceMethod yX6_add ∈ WT := wt 963 (by decide +kernel) rfl
theorem kv_X6_add : Cond.selects RX6 yX6_add yX6_add ∈ WT := wt 964 (by decide +kernel) rfl
theorem kc_X6_add : Cond.code yX6_add cX6_add 2 (some .int) ∈ WT := wt 965 (by decide +kernel) rfl
theorem kl_X6_223 : Cond.methodLink RX6 223 yX6_addNow ∈ WT := wt 966 (by decide +kernel) rfl
theorem km_X6_addNow : Cond.instanceMethod yX6_addNow ∈ WT := wt 968 (by decide +kernel) rfl
theorem kc_X6_addNow : Cond.code yX6_addNow cX6_addNow 6 (some .int) ∈ WT := wt 969 (by decide +kernel) rfl
theorem kl_L_100 : Cond.methodLink RL 100 yX6_tell ∈ WT := wt 970 (by decide +kernel) rfl
theorem km_X6_tell : Cond.instanceMethod yX6_tell ∈ WT := wt 971 (by decide +kernel) rfl
theorem kv_X6_tell : Cond.selects RX6 yX6_tell yX6_tell ∈ WT := wt 972 (by decide +kernel) rfl
theorem kc_X6_tell : Cond.code yX6_tell cX6_tell 3 (some .int) ∈ WT := wt 973 (by decide +kernel) rfl
theorem kl_L_104 : Cond.methodLink RL 104 yX6_then ∈ WT := wt 974 (by decide +kernel) rfl
theorem km_X6_then : Cond.instanceMethod yX6_then ∈ WT := wt 975 (by decide +kernel) rfl
theorem kv_X6_then : Cond.selects RX6 yX6_then yX6_then ∈ WT := wt 976 (by decide +kernel) rfl
theorem kc_X6_then : Cond.code yX6_then cX6_then 2 (some .int) ∈ WT := wt 977 (by decide +kernel) rfl
theorem kl_L_108 : Cond.methodLink RL 108 yX6_fits ∈ WT := wt 978 (by decide +kernel) rfl
theorem km_X6_fits : Cond.instanceMethod yX6_fits ∈ WT := wt 979 (by decide +kernel) rfl
theorem kv_X6_fits : Cond.selects RX6 yX6_fits yX6_fits ∈ WT := wt 980 (by decide +kernel) rfl
theorem kc_X6_fits : Cond.code yX6_fits cX6_fits 3 (some .int) ∈ WT := wt 981 (by decide +kernel) rfl
theorem kl_X6_229 : Cond.methodLink RX6 229 yX6_fitsNow ∈ WT := wt 982 (by decide +kernel) rfl
theorem km_X6_fitsNow : Cond.instanceMethod yX6_fitsNow ∈ WT := wt 984 (by decide +kernel) rfl
theorem kc_X6_fitsNow : Cond.code yX6_fitsNow cX6_fitsNow 8 (some .int) ∈ WT := wt 985 (by decide +kernel) rfl
theorem kl_L_112 : Cond.methodLink RL 112 yX6_times ∈ WT := wt 986 (by decide +kernel) rfl
theorem km_X6_times : Cond.instanceMethod yX6_times ∈ WT := wt 987 (by decide +kernel) rfl
theorem kv_X6_times : Cond.selects RX6 yX6_times yX6_times ∈ WT := wt 988 (by decide +kernel) rfl
theorem kc_X6_times : Cond.code yX6_times cX6_times 4 (some .int) ∈ WT := wt 989 (by decide +kernel) rfl
theorem kl_X6_247 : Cond.methodLink RX6 247 yX6_timesNow ∈ WT := wt 990 (by decide +kernel) rfl
theorem km_X6_timesNow : Cond.instanceMethod yX6_timesNow ∈ WT := wt 992 (by decide +kernel) rfl
theorem kc_X6_timesNow : Cond.code yX6_timesNow cX6_timesNow 9 (some .int) ∈ WT := wt 993 (by decide +kernel) rfl
theorem kl_X6_244 : Cond.methodLink RX6 244 yX6_draw ∈ WT := wt 994 (by decide +kernel) rfl
theorem km_X6_draw : Cond.instanceMethod yX6_draw ∈ WT := wt 996 (by decide +kernel) rfl
theorem kc_X6_draw : Cond.code yX6_draw cX6_draw 2 (some .int) ∈ WT := wt 997 (by decide +kernel) rfl
theorem kk_X6_232 : Cond.constantLong RX6 232 (1103515245) ∈ WT := wt 998 (by decide +kernel) rfl
theorem kk_X6_238 : Cond.constantLong RX6 238 (12345) ∈ WT := wt 999 (by decide +kernel) rfl
theorem kk_X6_240 : Cond.constantLong RX6 240 (2147483647) ∈ WT := wt 1000 (by decide +kernel) rfl
theorem kk_X6_242 : Cond.constantLong RX6 242 (65536) ∈ WT := wt 1001 (by decide +kernel) rfl
theorem kl_L_116 : Cond.methodLink RL 116 yX6_image ∈ WT := wt 1002 (by decide +kernel) rfl
theorem km_X6_image : Cond.instanceMethod yX6_image ∈ WT := wt 1003 (by decide +kernel) rfl
theorem kv_X6_image : Cond.selects RX6 yX6_image yX6_image ∈ WT := wt 1004 (by decide +kernel) rfl
theorem kc_X6_image : Cond.code yX6_image cX6_image 2 (some .int) ∈ WT := wt 1005 (by decide +kernel) rfl
theorem kl_L_120 : Cond.methodLink RL 120 yX6_restore ∈ WT := wt 1006 (by decide +kernel) rfl
theorem km_X6_restore : Cond.instanceMethod yX6_restore ∈ WT := wt 1007 (by decide +kernel) rfl
theorem kv_X6_restore : Cond.selects RX6 yX6_restore yX6_restore ∈ WT := wt 1008 (by decide +kernel) rfl
theorem kc_X6_restore : Cond.code yX6_restore cX6_restore 2 (some .int) ∈ WT := wt 1009 (by decide +kernel) rfl
theorem kl_L_124 : Cond.methodLink RL 124 yX6_count ∈ WT := wt 1010 (by decide +kernel) rfl
theorem km_X6_count : Cond.instanceMethod yX6_count ∈ WT := wt 1011 (by decide +kernel) rfl
theorem kv_X6_count : Cond.selects RX6 yX6_count yX6_count ∈ WT := wt 1012 (by decide +kernel) rfl
theorem kc_X6_count : Cond.code yX6_count cX6_count 2 (some .int) ∈ WT := wt 1013 (by decide +kernel) rfl
theorem kl_X6_268 : Cond.methodLink RX6 268 yX6_howMany ∈ WT := wt 1014 (by decide +kernel) rfl
theorem km_X6_howMany : Cond.instanceMethod yX6_howMany ∈ WT := wt 1016 (by decide +kernel) rfl
theorem kc_X6_howMany : Cond.code yX6_howMany cX6_howMany 2 (some .int) ∈ WT := wt 1017 (by decide +kernel) rfl
theorem kl_X6_265 : Cond.methodLink RX6 265 yX6_readingsOf ∈ WT := wt 1018 (by decide +kernel) rfl
theorem km_X6_readingsOf : Cond.instanceMethod yX6_readingsOf ∈ WT := wt 1020 (by decide +kernel) rfl
theorem kc_X6_readingsOf : Cond.code yX6_readingsOf cX6_readingsOf 3 (some .int) ∈ WT := wt 1021 (by decide +kernel) rfl
theorem kl_L_129 : Cond.methodLink RL 129 yX6_digest ∈ WT := wt 1022 (by decide +kernel) rfl
theorem km_X6_digest : Cond.instanceMethod yX6_digest ∈ WT := wt 1023 (by decide +kernel) rfl
theorem kv_X6_digest : Cond.selects RX6 yX6_digest yX6_digest ∈ WT := wt 1024 (by decide +kernel) rfl
theorem kc_X6_digest : Cond.code yX6_digest cX6_digest 3 (some .long) ∈ WT := wt 1025 (by decide +kernel) rfl
theorem kk_X6_276 : Cond.constantLong RX6 276 (739) ∈ WT := wt 1026 (by decide +kernel) rfl
theorem kl_X6_278 : Cond.methodLink RX6 278 yX6_mix ∈ WT := wt 1027 (by decide +kernel) rfl
theorem km_X6_mix : Cond.instanceMethod yX6_mix ∈ WT := wt 1029 (by decide +kernel) rfl
theorem kc_X6_mix : Cond.code yX6_mix cX6_mix 3 none ∈ WT := wt 1030 (by decide +kernel) rfl
theorem kk_X6_271 : Cond.constantLong RX6 271 (31) ∈ WT := wt 1031 (by decide +kernel) rfl
theorem inX0 : ∀ w ∈ wsX00, w ∈ WT := fun w h => List.mem_filter.mpr ⟨(by decide +kernel : ∀ w ∈ wsX00, w ∈ lw_tbl) w h, (by decide +kernel : ∀ w ∈ wsX00, goodWord w = true) w h⟩
theorem inX1 : ∀ w ∈ wsX10, w ∈ WT := fun w h => List.mem_filter.mpr ⟨(by decide +kernel : ∀ w ∈ wsX10, w ∈ lw_tbl) w h, (by decide +kernel : ∀ w ∈ wsX10, goodWord w = true) w h⟩
theorem inX2 : ∀ w ∈ wsX20, w ∈ WT := fun w h => List.mem_filter.mpr ⟨(by decide +kernel : ∀ w ∈ wsX20, w ∈ lw_tbl) w h, (by decide +kernel : ∀ w ∈ wsX20, goodWord w = true) w h⟩
theorem inX3 : ∀ w ∈ wsX30, w ∈ WT := fun w h => List.mem_filter.mpr ⟨(by decide +kernel : ∀ w ∈ wsX30, w ∈ lw_tbl) w h, (by decide +kernel : ∀ w ∈ wsX30, goodWord w = true) w h⟩
theorem inX4 : ∀ w ∈ wsX40, w ∈ WT := fun w h => List.mem_filter.mpr ⟨(by decide +kernel : ∀ w ∈ wsX40, w ∈ lw_tbl) w h, (by decide +kernel : ∀ w ∈ wsX40, goodWord w = true) w h⟩
theorem inX5 : ∀ w ∈ wsX50, w ∈ WT := fun w h => List.mem_filter.mpr ⟨(by decide +kernel : ∀ w ∈ wsX50, w ∈ lw_tbl) w h, (by decide +kernel : ∀ w ∈ wsX50, goodWord w = true) w h⟩
theorem inX6 : ∀ w ∈ wsX60, w ∈ WT := fun w h => List.mem_filter.mpr ⟨(by decide +kernel : ∀ w ∈ wsX60, w ∈ lw_tbl) w h, (by decide +kernel : ∀ w ∈ wsX60, goodWord w = true) w h⟩
end
section
/-! THE JUDGEMENT OF A METHOD'S BODY: G. A world is a list of cells read off a content σ : T; no call here makes a cell. -/
/-- the environment: the kit's classes and slots, the cells that are the world's, the array classes of int, boolean, long, byte, the static row of WORLDS_OF_FACT -/
abbrev Ev : Type := va_G × (Nat → Prop) × ClassId × ClassId × ClassId × ClassId × Nat
abbrev Ev.A (E : Ev) : Nat → Prop := E.2.1
abbrev Ev.cI (E : Ev) : ClassId := E.2.2.1
abbrev Ev.cZ (E : Ev) : ClassId := E.2.2.2.1
abbrev Ev.cJ (E : Ev) : ClassId := E.2.2.2.2.1
abbrev Ev.cB (E : Ev) : ClassId := E.2.2.2.2.2.1
abbrev Ev.t (E : Ev) : Nat := E.2.2.2.2.2.2
abbrev Ev.tys (E : Ev) : List (ClassId × FieldType) := [(E.cI, .int), (E.cZ, .boolean), (E.cJ, .long), (E.cB, .byte)]
/-- the worlds of a fact, as a row of bits -/
def Wf (f : Nat) : Int64 := match f with
  | 0 => -6148914691236517206
  | 1 => -3689348814741910324
  | 2 => -1085102592571150096
  | 3 => -71777214294589696
  | 4 => -281470681808896
  | _ => -4294967296
def NW (U : State) : Prop :=
  va_Nw (.fieldLinkNest RX5 58 RX2 "length" "I" RX5) U ∧ va_Nw (.fieldLinkNest RX3 39 RX2 "length" "I" RX5) U ∧
  va_Nw (.fieldLinkNest RX5 205 RX3 "words" "I" RX5) U ∧ va_Nw (.fieldLinkNest RX5 91 RX3 "readings" "I" RX5) U ∧
  va_Nw (.fieldLinkNest RX5 291 RX3 "widest" "I" RX5) U ∧ va_Nw (.fieldLinkNest RX5 294 RX3 "narrowest" "I" RX5) U ∧
  va_Nw (.fieldLinkNest RX5 185 RX3 "some" "J" RX5) U ∧ va_Nw (.fieldLinkNest RX5 150 RX0 "number" "I" RX5) U ∧
  va_Nw (.fieldLinkNest RX5 214 RX4 "number" "I" RX5) U ∧ va_Nw (.fieldLinkNest RX5 234 RX1 "hearers" "LAsWasSaid$Hearers;" RX5) U ∧
  va_Nw (.fieldLinkNest RX5 238 RX1 "told" "LAsWasSaid$Told;" RX5) U ∧ va_Nw (.fieldLinkNest RX5 228 RX1 "isKept" "Z" RX5) U ∧
  va_Nw (.fieldLinkNest RX5 232 RX1 "world" "I" RX5) U ∧ va_Nw (.fieldLinkNest RX5 233 RX1 "rounds" "I" RX5) U ∧
  va_Nw (.methodLinkNest RX3 86 yX5_worldsOfFact RX5) U ∧ va_Nw (.methodLinkNest RX3 90 yX5_bitOf RX5) U ∧
  va_Nw (.methodLinkNest RX3 48 yX2_isJoining RX5) U
theorem NW.warm {s U : State} (hW : s.WarmedH U.vm) (h : NW s) : NW U := by
  obtain ⟨h1, h2, h3, h4, h5, h6, h7, h8, h9, h10, h11, h12, h13, h14, h15, h16, h17⟩ := h
  exact ⟨h1.warmF hW, h2.warmF hW, h3.warmF hW, h4.warmF hW, h5.warmF hW, h6.warmF hW, h7.warmF hW, h8.warmF hW, h9.warmF hW, h10.warmF hW, h11.warmF hW, h12.warmF hW, h13.warmF hW, h14.warmF hW, h15.warmM hW, h16.warmM hW, h17.warmM hW⟩
theorem NW.same {s U : State} (e : s.vm = U.vm) (h : NW s) : NW U := by
  obtain ⟨h1, h2, h3, h4, h5, h6, h7, h8, h9, h10, h11, h12, h13, h14, h15, h16, h17⟩ := h
  exact ⟨h1.same rfl e, h2.same rfl e, h3.same rfl e, h4.same rfl e, h5.same rfl e, h6.same rfl e, h7.same rfl e, h8.same rfl e, h9.same rfl e, h10.same rfl e, h11.same rfl e, h12.same rfl e, h13.same rfl e, h14.same rfl e, h15.same rfl e, h16.same rfl e, h17.same rfl e⟩
/-- the static row, read off the start -/
def SR (E : Ev) (U : State) (H : Heap) : Prop := va_Z RX5 "WORLDS_OF_FACT" "[J" (.ref E.t) E.A U H ∧ va_T .long E.t 6 (fun j => .long (Wf j)) E.A U H
def Fx (E : Ev) (U : State) (H : Heap) : Prop := va_K E.1 vwCl E.tys U ∧ NW U ∧ SR E U H
theorem Fx.go {E : Ev} {s U : State} {H : Heap} {locs : List Loc} (h : Fx E s s.heap) (hS : va_S E.A s.heap H locs) (hU : U.heap = H) (hW : s.WarmedH U.vm) : Fx E U U.heap := by
  obtain ⟨hK, hN, hZ, hT⟩ := h
  have hk : ∀ a : Nat, a < s.heap.size → ¬ E.A a → U.heap[a]? = s.heap[a]? := fun a h1 h2 => by rw [hU]; exact hS.2.1 a h1 h2
  exact ⟨va_K.moved hW.alike hK, hN.warm hW, (hZ.moved hW.alike).kept hk, (hT.moved hW.alike).kept hk⟩
def Wo {T : Type} (E : Ev) (w : T → va_W) (σ : T) (H : Heap) : Prop := va_P E.1 vwCl (w σ) H ∧ va_D E.A (w σ)
/-- what a method leaves -/
def QG {T : Type} (E : Ev) (w : T → va_W) (P : Option Value → T → Prop) : Array Value → State → Outcome → State → Prop := fun _ st oc t => (∃ (v : Option Value) (σ : T), oc = .returned v ∧ P v σ ∧ Wo E w σ t.heap) ∧ va_F E.A st t
/-- a method's contract over a world -/
def Ctr {T : Type} (l : Launch) (y : MethodName) (b : ByteArray) (n : Nat) (ret : Option FieldType) (F L : Nat) (E : Ev) (w : T → va_W) (av : List Value) (σ : T) (P : Option Value → T → Prop) : Prop :=
  Met l y (Cond.code y b n ret :: WT) { frames := F, cells := 0, slots := 0, locals := L } (va_Pc av (fun U => Wo E w σ U.heap ∧ Fx E U U.heap)) (QG E w P) 0 0 E.A
theorem Ctr.mono {T : Type} {l : Launch} {y : MethodName} {b : ByteArray} {n : Nat} {ret : Option FieldType} {F L : Nat} {E : Ev} {w : T → va_W} {av : List Value} {σ : T} {P P' : Option Value → T → Prop} (h : Ctr l y b n ret F L E w av σ P) (hP : ∀ v s, P v s → P' v s) : Ctr l y b n ret F L E w av σ P' := by
  intro p e h1 h2 h3 s m args below h4 h5 h6 h7
  obtain ⟨k, o, g1, g2, g3, ⟨⟨⟨v, s', a1, a2, a3⟩, a4⟩, a5⟩⟩ := h p e h1 h2 h3 s m args below h4 h5 h6 h7
  exact ⟨k, o, g1, g2, g3, ⟨⟨⟨v, s', a1, hP _ _ a2, a3⟩, a4⟩, a5⟩⟩
abbrev Bx : Type := Program × Env × Room × State × MethodId × Array Value × List Frame × Method × Code
def G {T : Type} (l : Launch) (E : Ev) (w : T → va_W) (P : Option Value → T → Prop) (X : Bx) (n : Nat) (σ : T) (pc : Nat) (lv : List (Nat × Value)) (st : List Value) : Prop :=
  ∀ (H : Heap) (locs : List Loc) (ls : Array Slot), Wo E w σ H → va_S E.A X.2.2.2.1.heap H locs → lv_has ls n lv →
    W X.1 l X.2.1 X.2.2.1 X.2.2.2.1 X.2.2.2.2.1 X.2.2.2.2.2.1 X.2.2.2.2.2.2.1 X.2.2.2.2.2.2.2.1 X.2.2.2.2.2.2.2.2 H locs 0 0 (MQ X.2.2.2.2.2.2.1 (QG E w P) X.2.2.2.2.2.1 X.2.2.2.1 0 0 E.A) (F0 X.2.2.2.2.1 pc ls st)
/-- what holds of the frame's fixed parts -/
def Ok (E : Ev) (X : Bx) (cc : ByteArray) (n : Nat) (own : String) (ret : Option FieldType) (F L : Nat) : Prop :=
  X.1.tables.exec = Jvm.exec ∧ X.2.2.2.2.2.2.2.2.code = cc ∧ X.2.2.2.2.2.2.2.2.maxLocals = n ∧ X.2.2.2.1.vm.findClass own = some X.2.2.2.2.1.cls ∧
  (∀ w ∈ WT, w.before X.2.2.2.2.2.1 X.2.2.2.1 = true) ∧ Fx E X.2.2.2.1 X.2.2.2.1.heap ∧ X.2.2.2.2.2.2.2.1.sig.returnType = ret ∧ X.2.2.2.2.2.2.2.1.locks = false ∧ F ≤ X.2.2.1.frames ∧ L ≤ X.2.2.1.locals
theorem Ctr.of {T : Type} {l : Launch} {y : MethodName} {b : ByteArray} {n : Nat} {ret : Option FieldType} {F L : Nat} {E : Ev} {w : T → va_W} {av : List Value} {σ : T} {P : Option Value → T → Prop}
    (hy : plainName y.cls = true) (hn : (lg_sl av).length ≤ n) (body : ∀ X : Bx, Ok E X b n y.cls ret F L → G l E w P X n σ 0 (lv_args 0 av) []) : Ctr l y b n ret F L E w av σ P := by
  refine Met.ofW (cc := b) (maxL := n) (ret := ret) hy rfl ?_
  intro p e s m args below meth c s₁ B hml hv
  obtain ⟨rfl, hw, hfx⟩ := hv
  have hts := atoms_spec (ws := Cond.code y b n ret :: WT) B.pre
  rw [lg_entry_eq]
  exact body ⟨p, e, _, s, m, av.toArray, below, meth, c⟩ ⟨B.exec, B.bytes, hml, findClass_of_methodNamed B.named, fun w h => hts w (List.mem_cons_of_mem _ h), hfx, B.returns, B.notSynchronized, Nat.le_refl _, Nat.le_refl _⟩ s.heap [] _ hw va_S.rf (lv_entry av hn)
theorem Ctr.of' {T : Type} {l : Launch} {y : MethodName} {b : ByteArray} {n : Nat} {ret : Option FieldType} {F L : Nat} {E : Ev} {w : T → va_W} {av : List Value} {σ : T} {P : Option Value → T → Prop}
    (hy : plainName y.cls = true) (hn : (lg_sl av).length ≤ n) (body : ∀ (X : Bx) (P0 : Option Value → T → Prop), P0 = P → Ok E X b n y.cls ret F L → G l E w P0 X n σ 0 (lv_args 0 av) []) : Ctr l y b n ret F L E w av σ P := Ctr.of hy hn (fun X O => body X P rfl O)
theorem Ctr.ofF' {T : Type} {l : Launch} {y : MethodName} {b : ByteArray} {n : Nat} {ret : Option FieldType} {F L : Nat} {E : Ev} {w : T → va_W} {av : List Value} {σ : T} {P : Option Value → T → Prop}
    (hy : plainFor y = true) (hn : (lg_sl av).length ≤ n) (body : ∀ (X : Bx) (P0 : Option Value → T → Prop), P0 = P → Ok E X b n y.cls ret F L → G l E w P0 X n σ 0 (lv_args 0 av) []) : Ctr l y b n ret F L E w av σ P := by
  refine va_MetF (cc := b) (maxL := n) (ret := ret) hy rfl ?_
  intro p e s m args below meth c s₁ B hml hv
  obtain ⟨rfl, hw, hfx⟩ := hv
  have hts := atoms_spec (ws := Cond.code y b n ret :: WT) B.pre
  rw [lg_entry_eq]
  exact body ⟨p, e, _, s, m, av.toArray, below, meth, c⟩ P rfl ⟨B.exec, B.bytes, hml, findClass_of_methodNamed B.named, fun w h => hts w (List.mem_cons_of_mem _ h), hfx, B.returns, B.notSynchronized, Nat.le_refl _, Nat.le_refl _⟩ s.heap [] _ hw va_S.rf (lv_entry av hn)
end
section
/-! G rows -/
theorem g_iconst {T : Type} {l : Launch} {E : Ev} {w : T → va_W} {P : Option Value → T → Prop} {X : Bx} {n : Nat} {cc : ByteArray} {own : String} {ret : Option FieldType} {F L : Nat} {σ : T} {lv : List (Nat × Value)} {st : List Value} (pc : Nat) (O : Ok E X cc n own ret F L) {i : Int} {v : Int32} (hdg : decode cc pc = .ok (.iconst i, 1)) (hv : Int32.ofInt i = v) (k : G l E w P X n σ (pc + 1) lv (.int v :: st)) : G l E w P X n σ pc lv (st) := fun H locs ls hw hS hl => lv_iconst O.1 O.2.1 hdg hv (k H locs ls hw hS hl)
theorem g_lconst {T : Type} {l : Launch} {E : Ev} {w : T → va_W} {P : Option Value → T → Prop} {X : Bx} {n : Nat} {cc : ByteArray} {own : String} {ret : Option FieldType} {F L : Nat} {σ : T} {lv : List (Nat × Value)} {st : List Value} (pc : Nat) (O : Ok E X cc n own ret F L) {i : Fin 2} {v : Int64} (hdg : decode cc pc = .ok (.lconst i, 1)) (hv : Int64.ofNat (i : Nat) = v) (k : G l E w P X n σ (pc + 1) lv (.long v :: st)) : G l E w P X n σ pc lv (st) := fun H locs ls hw hS hl => lv_lconst O.1 O.2.1 hdg hv (k H locs ls hw hS hl)
theorem g_bipush {T : Type} {l : Launch} {E : Ev} {w : T → va_W} {P : Option Value → T → Prop} {X : Bx} {n : Nat} {cc : ByteArray} {own : String} {ret : Option FieldType} {F L : Nat} {σ : T} {lv : List (Nat × Value)} {st : List Value} (pc : Nat) (O : Ok E X cc n own ret F L) {i : Int} {v : Int32} (hdg : decode cc pc = .ok (.bipush i, 2)) (hv : (Int8.ofInt i).toInt32 = v) (k : G l E w P X n σ (pc + 2) lv (.int v :: st)) : G l E w P X n σ pc lv (st) := fun H locs ls hw hS hl => lv_bipush O.1 O.2.1 hdg hv (k H locs ls hw hS hl)
theorem g_sipush {T : Type} {l : Launch} {E : Ev} {w : T → va_W} {P : Option Value → T → Prop} {X : Bx} {n : Nat} {cc : ByteArray} {own : String} {ret : Option FieldType} {F L : Nat} {σ : T} {lv : List (Nat × Value)} {st : List Value} (pc : Nat) (O : Ok E X cc n own ret F L) {i : Int} {v : Int32} (hdg : decode cc pc = .ok (.sipush i, 3)) (hv : (Int16.ofInt i).toInt32 = v) (k : G l E w P X n σ (pc + 3) lv (.int v :: st)) : G l E w P X n σ pc lv (st) := fun H locs ls hw hS hl => lv_sipush O.1 O.2.1 hdg hv (k H locs ls hw hS hl)
theorem g_ldc2 {T : Type} {l : Launch} {E : Ev} {w : T → va_W} {P : Option Value → T → Prop} {X : Bx} {n : Nat} {cc : ByteArray} {own : String} {ret : Option FieldType} {F L : Nat} {σ : T} {lv : List (Nat × Value)} {st : List Value} (pc : Nat) (O : Ok E X cc n own ret F L) {idx : Nat} {v : Int64} (hdg : decode cc pc = .ok (.ldc2_w idx, 3)) (hc : Cond.constantLong own idx v ∈ WT) (k : G l E w P X n σ (pc + 3) lv (.long v :: st)) : G l E w P X n σ pc lv (st) := fun H locs ls hw hS hl => lv_ldc2 O.1 O.2.1 O.2.2.2.1 (O.2.2.2.2.1 _ hc) hdg (k H locs ls hw hS hl)
theorem g_ldcw {T : Type} {l : Launch} {E : Ev} {w : T → va_W} {P : Option Value → T → Prop} {X : Bx} {n : Nat} {cc : ByteArray} {own : String} {ret : Option FieldType} {F L : Nat} {σ : T} {lv : List (Nat × Value)} {st : List Value} (pc : Nat) (O : Ok E X cc n own ret F L) {idx : Nat} {v : Int32} (hdg : decode cc pc = .ok (.ldc_w idx, 3)) (hc : Cond.constant own idx v ∈ WT) (k : G l E w P X n σ (pc + 3) lv (.int v :: st)) : G l E w P X n σ pc lv (st) := fun H locs ls hw hS hl => lv_ldcw O.1 O.2.1 O.2.2.2.1 (O.2.2.2.2.1 _ hc) hdg (k H locs ls hw hS hl)
theorem g_iload_n {T : Type} {l : Launch} {E : Ev} {w : T → va_W} {P : Option Value → T → Prop} {X : Bx} {n : Nat} {cc : ByteArray} {own : String} {ret : Option FieldType} {F L : Nat} {σ : T} {lv : List (Nat × Value)} {st : List Value} (pc : Nat) (O : Ok E X cc n own ret F L) {k : Fin 4} {i : Nat} {x : Int32} (hdg : decode cc pc = .ok (.iload_n k, 1)) (hi : (k : Nat) = i) (q : Nat) (hq : lv[q]? = some (i, .int x)) (k0 : G l E w P X n σ (pc + 1) lv (.int x :: st)) : G l E w P X n σ pc lv (st) := fun H locs ls hw hS hl => lv_iload_n O.1 O.2.1 hdg hi (lv_at hl q hq) (k0 H locs ls hw hS hl)
theorem g_iload {T : Type} {l : Launch} {E : Ev} {w : T → va_W} {P : Option Value → T → Prop} {X : Bx} {n : Nat} {cc : ByteArray} {own : String} {ret : Option FieldType} {F L : Nat} {σ : T} {lv : List (Nat × Value)} {st : List Value} (pc : Nat) (O : Ok E X cc n own ret F L) {i : Nat} {x : Int32} (hdg : decode cc pc = .ok (.iload i, 2)) (q : Nat) (hq : lv[q]? = some (i, .int x)) (k : G l E w P X n σ (pc + 2) lv (.int x :: st)) : G l E w P X n σ pc lv (st) := fun H locs ls hw hS hl => lv_iload O.1 O.2.1 hdg (lv_at hl q hq) (k H locs ls hw hS hl)
theorem g_lload_n {T : Type} {l : Launch} {E : Ev} {w : T → va_W} {P : Option Value → T → Prop} {X : Bx} {n : Nat} {cc : ByteArray} {own : String} {ret : Option FieldType} {F L : Nat} {σ : T} {lv : List (Nat × Value)} {st : List Value} (pc : Nat) (O : Ok E X cc n own ret F L) {k : Fin 4} {i : Nat} {x : Int64} (hdg : decode cc pc = .ok (.lload_n k, 1)) (hi : (k : Nat) = i) (q : Nat) (hq : lv[q]? = some (i, .long x)) (k0 : G l E w P X n σ (pc + 1) lv (.long x :: st)) : G l E w P X n σ pc lv (st) := fun H locs ls hw hS hl => lv_lload_n O.1 O.2.1 hdg hi (lv_at hl q hq) (k0 H locs ls hw hS hl)
theorem g_lload {T : Type} {l : Launch} {E : Ev} {w : T → va_W} {P : Option Value → T → Prop} {X : Bx} {n : Nat} {cc : ByteArray} {own : String} {ret : Option FieldType} {F L : Nat} {σ : T} {lv : List (Nat × Value)} {st : List Value} (pc : Nat) (O : Ok E X cc n own ret F L) {i : Nat} {x : Int64} (hdg : decode cc pc = .ok (.lload i, 2)) (q : Nat) (hq : lv[q]? = some (i, .long x)) (k : G l E w P X n σ (pc + 2) lv (.long x :: st)) : G l E w P X n σ pc lv (st) := fun H locs ls hw hS hl => lv_lload O.1 O.2.1 hdg (lv_at hl q hq) (k H locs ls hw hS hl)
theorem g_aload_n {T : Type} {l : Launch} {E : Ev} {w : T → va_W} {P : Option Value → T → Prop} {X : Bx} {n : Nat} {cc : ByteArray} {own : String} {ret : Option FieldType} {F L : Nat} {σ : T} {lv : List (Nat × Value)} {st : List Value} (pc : Nat) (O : Ok E X cc n own ret F L) {k : Fin 4} {i : Nat} {x : Nat} (hdg : decode cc pc = .ok (.aload_n k, 1)) (hi : (k : Nat) = i) (q : Nat) (hq : lv[q]? = some (i, .ref x)) (k0 : G l E w P X n σ (pc + 1) lv (.ref x :: st)) : G l E w P X n σ pc lv (st) := fun H locs ls hw hS hl => lv_aload_n O.1 O.2.1 hdg hi (lv_at hl q hq) (k0 H locs ls hw hS hl)
theorem g_aload {T : Type} {l : Launch} {E : Ev} {w : T → va_W} {P : Option Value → T → Prop} {X : Bx} {n : Nat} {cc : ByteArray} {own : String} {ret : Option FieldType} {F L : Nat} {σ : T} {lv : List (Nat × Value)} {st : List Value} (pc : Nat) (O : Ok E X cc n own ret F L) {i : Nat} {x : Nat} (hdg : decode cc pc = .ok (.aload i, 2)) (q : Nat) (hq : lv[q]? = some (i, .ref x)) (k : G l E w P X n σ (pc + 2) lv (.ref x :: st)) : G l E w P X n σ pc lv (st) := fun H locs ls hw hS hl => lv_aload O.1 O.2.1 hdg (lv_at hl q hq) (k H locs ls hw hS hl)
theorem g_istore_n {T : Type} {l : Launch} {E : Ev} {w : T → va_W} {P : Option Value → T → Prop} {X : Bx} {n : Nat} {cc : ByteArray} {own : String} {ret : Option FieldType} {F L : Nat} {σ : T} {lv : List (Nat × Value)} {st : List Value} (pc : Nat) (O : Ok E X cc n own ret F L) {k : Fin 4} {i : Nat} {x : Int32} {lv' : List (Nat × Value)} (hdg : decode cc pc = .ok (.istore_n k, 1)) (hi : (k : Nat) = i) (hn : i < n) (hl' : (i, Value.int x) :: lv.filter (fun q => !(q.1 == i) && !(q.1 + 1 == i && q.2.category == 2)) = lv') (k0 : G l E w P X n σ (pc + 1) lv' st) : G l E w P X n σ pc lv (.int x :: st) := fun H locs ls hw hS hl => lv_istore_n O.1 O.2.1 hdg hi hl hn hl' (fun ls hl => k0 H locs ls hw hS hl)
theorem g_istore {T : Type} {l : Launch} {E : Ev} {w : T → va_W} {P : Option Value → T → Prop} {X : Bx} {n : Nat} {cc : ByteArray} {own : String} {ret : Option FieldType} {F L : Nat} {σ : T} {lv : List (Nat × Value)} {st : List Value} (pc : Nat) (O : Ok E X cc n own ret F L) {i : Nat} {x : Int32} {lv' : List (Nat × Value)} (hdg : decode cc pc = .ok (.istore i, 2)) (hn : i < n) (hl' : (i, Value.int x) :: lv.filter (fun q => !(q.1 == i) && !(q.1 + 1 == i && q.2.category == 2)) = lv') (k0 : G l E w P X n σ (pc + 2) lv' st) : G l E w P X n σ pc lv (.int x :: st) := fun H locs ls hw hS hl => lv_istore O.1 O.2.1 hdg hl hn hl' (fun ls hl => k0 H locs ls hw hS hl)
theorem g_lstore_n {T : Type} {l : Launch} {E : Ev} {w : T → va_W} {P : Option Value → T → Prop} {X : Bx} {n : Nat} {cc : ByteArray} {own : String} {ret : Option FieldType} {F L : Nat} {σ : T} {lv : List (Nat × Value)} {st : List Value} (pc : Nat) (O : Ok E X cc n own ret F L) {k : Fin 4} {i : Nat} {x : Int64} {lv' : List (Nat × Value)} (hdg : decode cc pc = .ok (.lstore_n k, 1)) (hi : (k : Nat) = i) (hn : i + 1 < n) (hl' : (i, Value.long x) :: lv.filter (fun q => !(q.1 == i) && (!(q.1 == i + 1) && !(q.1 + 1 == i && q.2.category == 2))) = lv') (k0 : G l E w P X n σ (pc + 1) lv' st) : G l E w P X n σ pc lv (.long x :: st) := fun H locs ls hw hS hl => lv_lstore_n O.1 O.2.1 hdg hi hl hn hl' (fun ls hl => k0 H locs ls hw hS hl)
theorem g_lstore {T : Type} {l : Launch} {E : Ev} {w : T → va_W} {P : Option Value → T → Prop} {X : Bx} {n : Nat} {cc : ByteArray} {own : String} {ret : Option FieldType} {F L : Nat} {σ : T} {lv : List (Nat × Value)} {st : List Value} (pc : Nat) (O : Ok E X cc n own ret F L) {i : Nat} {x : Int64} {lv' : List (Nat × Value)} (hdg : decode cc pc = .ok (.lstore i, 2)) (hn : i + 1 < n) (hl' : (i, Value.long x) :: lv.filter (fun q => !(q.1 == i) && (!(q.1 == i + 1) && !(q.1 + 1 == i && q.2.category == 2))) = lv') (k0 : G l E w P X n σ (pc + 2) lv' st) : G l E w P X n σ pc lv (.long x :: st) := fun H locs ls hw hS hl => lv_lstore O.1 O.2.1 hdg hl hn hl' (fun ls hl => k0 H locs ls hw hS hl)
theorem g_astore_n {T : Type} {l : Launch} {E : Ev} {w : T → va_W} {P : Option Value → T → Prop} {X : Bx} {n : Nat} {cc : ByteArray} {own : String} {ret : Option FieldType} {F L : Nat} {σ : T} {lv : List (Nat × Value)} {st : List Value} (pc : Nat) (O : Ok E X cc n own ret F L) {k : Fin 4} {i : Nat} {x : Nat} {lv' : List (Nat × Value)} (hdg : decode cc pc = .ok (.astore_n k, 1)) (hi : (k : Nat) = i) (hn : i < n) (hl' : (i, Value.ref x) :: lv.filter (fun q => !(q.1 == i) && !(q.1 + 1 == i && q.2.category == 2)) = lv') (k0 : G l E w P X n σ (pc + 1) lv' st) : G l E w P X n σ pc lv (.ref x :: st) := fun H locs ls hw hS hl => lv_astore_n O.1 O.2.1 hdg hi hl hn hl' (fun ls hl => k0 H locs ls hw hS hl)
theorem g_astore {T : Type} {l : Launch} {E : Ev} {w : T → va_W} {P : Option Value → T → Prop} {X : Bx} {n : Nat} {cc : ByteArray} {own : String} {ret : Option FieldType} {F L : Nat} {σ : T} {lv : List (Nat × Value)} {st : List Value} (pc : Nat) (O : Ok E X cc n own ret F L) {i : Nat} {x : Nat} {lv' : List (Nat × Value)} (hdg : decode cc pc = .ok (.astore i, 2)) (hn : i < n) (hl' : (i, Value.ref x) :: lv.filter (fun q => !(q.1 == i) && !(q.1 + 1 == i && q.2.category == 2)) = lv') (k0 : G l E w P X n σ (pc + 2) lv' st) : G l E w P X n σ pc lv (.ref x :: st) := fun H locs ls hw hS hl => lv_astore O.1 O.2.1 hdg hl hn hl' (fun ls hl => k0 H locs ls hw hS hl)
theorem g_iinc {T : Type} {l : Launch} {E : Ev} {w : T → va_W} {P : Option Value → T → Prop} {X : Bx} {n : Nat} {cc : ByteArray} {own : String} {ret : Option FieldType} {F L : Nat} {σ : T} {lv : List (Nat × Value)} {st : List Value} (pc : Nat) (O : Ok E X cc n own ret F L) {i q : Nat} {z : Int} {x v : Int32} {lv' : List (Nat × Value)} (hdg : decode cc pc = .ok (.iinc i z, 3)) (hq : lv[q]? = some (i, .int x)) (hv : x + Int32.ofInt z = v) (hn : i < n) (hl' : (i, Value.int v) :: lv.filter (fun q => !(q.1 == i) && !(q.1 + 1 == i && q.2.category == 2)) = lv') (k0 : G l E w P X n σ (pc + 3) lv' st) : G l E w P X n σ pc lv st := fun H locs ls hw hS hl => lv_iinc O.1 O.2.1 hdg hl (k := q) hq hv hn hl' (fun ls hl => k0 H locs ls hw hS hl)
theorem g_iadd {T : Type} {l : Launch} {E : Ev} {w : T → va_W} {P : Option Value → T → Prop} {X : Bx} {n : Nat} {cc : ByteArray} {own : String} {ret : Option FieldType} {F L : Nat} {σ : T} {lv : List (Nat × Value)} {st : List Value} (pc : Nat) (O : Ok E X cc n own ret F L) {x y : Int32} (hdg : decode cc pc = .ok (.iadd, 1)) (k : G l E w P X n σ (pc + 1) lv (.int (x + y) :: st)) : G l E w P X n σ pc lv (.int y :: .int x :: st) := fun H locs ls hw hS hl => lv_iadd O.1 O.2.1 hdg (k H locs ls hw hS hl)
theorem g_isub {T : Type} {l : Launch} {E : Ev} {w : T → va_W} {P : Option Value → T → Prop} {X : Bx} {n : Nat} {cc : ByteArray} {own : String} {ret : Option FieldType} {F L : Nat} {σ : T} {lv : List (Nat × Value)} {st : List Value} (pc : Nat) (O : Ok E X cc n own ret F L) {x y : Int32} (hdg : decode cc pc = .ok (.isub, 1)) (k : G l E w P X n σ (pc + 1) lv (.int (x - y) :: st)) : G l E w P X n σ pc lv (.int y :: .int x :: st) := fun H locs ls hw hS hl => lv_isub O.1 O.2.1 hdg (k H locs ls hw hS hl)
theorem g_imul {T : Type} {l : Launch} {E : Ev} {w : T → va_W} {P : Option Value → T → Prop} {X : Bx} {n : Nat} {cc : ByteArray} {own : String} {ret : Option FieldType} {F L : Nat} {σ : T} {lv : List (Nat × Value)} {st : List Value} (pc : Nat) (O : Ok E X cc n own ret F L) {x y : Int32} (hdg : decode cc pc = .ok (.imul, 1)) (k : G l E w P X n σ (pc + 1) lv (.int (x * y) :: st)) : G l E w P X n σ pc lv (.int y :: .int x :: st) := fun H locs ls hw hS hl => lv_imul O.1 O.2.1 hdg (k H locs ls hw hS hl)
theorem g_iand {T : Type} {l : Launch} {E : Ev} {w : T → va_W} {P : Option Value → T → Prop} {X : Bx} {n : Nat} {cc : ByteArray} {own : String} {ret : Option FieldType} {F L : Nat} {σ : T} {lv : List (Nat × Value)} {st : List Value} (pc : Nat) (O : Ok E X cc n own ret F L) {x y : Int32} (hdg : decode cc pc = .ok (.iand, 1)) (k : G l E w P X n σ (pc + 1) lv (.int (x &&& y) :: st)) : G l E w P X n σ pc lv (.int y :: .int x :: st) := fun H locs ls hw hS hl => lv_iand O.1 O.2.1 hdg (k H locs ls hw hS hl)
theorem g_ior {T : Type} {l : Launch} {E : Ev} {w : T → va_W} {P : Option Value → T → Prop} {X : Bx} {n : Nat} {cc : ByteArray} {own : String} {ret : Option FieldType} {F L : Nat} {σ : T} {lv : List (Nat × Value)} {st : List Value} (pc : Nat) (O : Ok E X cc n own ret F L) {x y : Int32} (hdg : decode cc pc = .ok (.ior, 1)) (k : G l E w P X n σ (pc + 1) lv (.int (x ||| y) :: st)) : G l E w P X n σ pc lv (.int y :: .int x :: st) := fun H locs ls hw hS hl => lv_ior O.1 O.2.1 hdg (k H locs ls hw hS hl)
theorem g_ixor {T : Type} {l : Launch} {E : Ev} {w : T → va_W} {P : Option Value → T → Prop} {X : Bx} {n : Nat} {cc : ByteArray} {own : String} {ret : Option FieldType} {F L : Nat} {σ : T} {lv : List (Nat × Value)} {st : List Value} (pc : Nat) (O : Ok E X cc n own ret F L) {x y : Int32} (hdg : decode cc pc = .ok (.ixor, 1)) (k : G l E w P X n σ (pc + 1) lv (.int (x ^^^ y) :: st)) : G l E w P X n σ pc lv (.int y :: .int x :: st) := fun H locs ls hw hS hl => lv_ixor O.1 O.2.1 hdg (k H locs ls hw hS hl)
theorem g_ishl {T : Type} {l : Launch} {E : Ev} {w : T → va_W} {P : Option Value → T → Prop} {X : Bx} {n : Nat} {cc : ByteArray} {own : String} {ret : Option FieldType} {F L : Nat} {σ : T} {lv : List (Nat × Value)} {st : List Value} (pc : Nat) (O : Ok E X cc n own ret F L) {x y : Int32} (hdg : decode cc pc = .ok (.ishl, 1)) (k : G l E w P X n σ (pc + 1) lv (.int (x <<< (y &&& 31)) :: st)) : G l E w P X n σ pc lv (.int y :: .int x :: st) := fun H locs ls hw hS hl => lv_ishl O.1 O.2.1 hdg (k H locs ls hw hS hl)
theorem g_ishr {T : Type} {l : Launch} {E : Ev} {w : T → va_W} {P : Option Value → T → Prop} {X : Bx} {n : Nat} {cc : ByteArray} {own : String} {ret : Option FieldType} {F L : Nat} {σ : T} {lv : List (Nat × Value)} {st : List Value} (pc : Nat) (O : Ok E X cc n own ret F L) {x y : Int32} (hdg : decode cc pc = .ok (.ishr, 1)) (k : G l E w P X n σ (pc + 1) lv (.int (x >>> (y &&& 31)) :: st)) : G l E w P X n σ pc lv (.int y :: .int x :: st) := fun H locs ls hw hS hl => lv_ishr O.1 O.2.1 hdg (k H locs ls hw hS hl)
theorem g_idiv {T : Type} {l : Launch} {E : Ev} {w : T → va_W} {P : Option Value → T → Prop} {X : Bx} {n : Nat} {cc : ByteArray} {own : String} {ret : Option FieldType} {F L : Nat} {σ : T} {lv : List (Nat × Value)} {st : List Value} (pc : Nat) (O : Ok E X cc n own ret F L) {x y : Int32} (hdg : decode cc pc = .ok (.idiv, 1)) (hne : ¬ y = 0) (k : G l E w P X n σ (pc + 1) lv (.int (x / y) :: st)) : G l E w P X n σ pc lv (.int y :: .int x :: st) := fun H locs ls hw hS hl => lv_idiv O.1 O.2.1 hdg hne (k H locs ls hw hS hl)
theorem g_irem {T : Type} {l : Launch} {E : Ev} {w : T → va_W} {P : Option Value → T → Prop} {X : Bx} {n : Nat} {cc : ByteArray} {own : String} {ret : Option FieldType} {F L : Nat} {σ : T} {lv : List (Nat × Value)} {st : List Value} (pc : Nat) (O : Ok E X cc n own ret F L) {x y : Int32} (hdg : decode cc pc = .ok (.irem, 1)) (hne : ¬ y = 0) (k : G l E w P X n σ (pc + 1) lv (.int (x - x / y * y) :: st)) : G l E w P X n σ pc lv (.int y :: .int x :: st) := fun H locs ls hw hS hl => lv_irem O.1 O.2.1 hdg hne (k H locs ls hw hS hl)
theorem g_ladd {T : Type} {l : Launch} {E : Ev} {w : T → va_W} {P : Option Value → T → Prop} {X : Bx} {n : Nat} {cc : ByteArray} {own : String} {ret : Option FieldType} {F L : Nat} {σ : T} {lv : List (Nat × Value)} {st : List Value} (pc : Nat) (O : Ok E X cc n own ret F L) {x y : Int64} (hdg : decode cc pc = .ok (.ladd, 1)) (k : G l E w P X n σ (pc + 1) lv (.long (x + y) :: st)) : G l E w P X n σ pc lv (.long y :: .long x :: st) := fun H locs ls hw hS hl => lv_ladd O.1 O.2.1 hdg (k H locs ls hw hS hl)
theorem g_lsub {T : Type} {l : Launch} {E : Ev} {w : T → va_W} {P : Option Value → T → Prop} {X : Bx} {n : Nat} {cc : ByteArray} {own : String} {ret : Option FieldType} {F L : Nat} {σ : T} {lv : List (Nat × Value)} {st : List Value} (pc : Nat) (O : Ok E X cc n own ret F L) {x y : Int64} (hdg : decode cc pc = .ok (.lsub, 1)) (k : G l E w P X n σ (pc + 1) lv (.long (x - y) :: st)) : G l E w P X n σ pc lv (.long y :: .long x :: st) := fun H locs ls hw hS hl => lv_lsub O.1 O.2.1 hdg (k H locs ls hw hS hl)
theorem g_lmul {T : Type} {l : Launch} {E : Ev} {w : T → va_W} {P : Option Value → T → Prop} {X : Bx} {n : Nat} {cc : ByteArray} {own : String} {ret : Option FieldType} {F L : Nat} {σ : T} {lv : List (Nat × Value)} {st : List Value} (pc : Nat) (O : Ok E X cc n own ret F L) {x y : Int64} (hdg : decode cc pc = .ok (.lmul, 1)) (k : G l E w P X n σ (pc + 1) lv (.long (x * y) :: st)) : G l E w P X n σ pc lv (.long y :: .long x :: st) := fun H locs ls hw hS hl => lv_lmul O.1 O.2.1 hdg (k H locs ls hw hS hl)
theorem g_land {T : Type} {l : Launch} {E : Ev} {w : T → va_W} {P : Option Value → T → Prop} {X : Bx} {n : Nat} {cc : ByteArray} {own : String} {ret : Option FieldType} {F L : Nat} {σ : T} {lv : List (Nat × Value)} {st : List Value} (pc : Nat) (O : Ok E X cc n own ret F L) {x y : Int64} (hdg : decode cc pc = .ok (.land, 1)) (k : G l E w P X n σ (pc + 1) lv (.long (x &&& y) :: st)) : G l E w P X n σ pc lv (.long y :: .long x :: st) := fun H locs ls hw hS hl => lv_land O.1 O.2.1 hdg (k H locs ls hw hS hl)
theorem g_lor {T : Type} {l : Launch} {E : Ev} {w : T → va_W} {P : Option Value → T → Prop} {X : Bx} {n : Nat} {cc : ByteArray} {own : String} {ret : Option FieldType} {F L : Nat} {σ : T} {lv : List (Nat × Value)} {st : List Value} (pc : Nat) (O : Ok E X cc n own ret F L) {x y : Int64} (hdg : decode cc pc = .ok (.lor, 1)) (k : G l E w P X n σ (pc + 1) lv (.long (x ||| y) :: st)) : G l E w P X n σ pc lv (.long y :: .long x :: st) := fun H locs ls hw hS hl => lv_lor O.1 O.2.1 hdg (k H locs ls hw hS hl)
theorem g_lxor {T : Type} {l : Launch} {E : Ev} {w : T → va_W} {P : Option Value → T → Prop} {X : Bx} {n : Nat} {cc : ByteArray} {own : String} {ret : Option FieldType} {F L : Nat} {σ : T} {lv : List (Nat × Value)} {st : List Value} (pc : Nat) (O : Ok E X cc n own ret F L) {x y : Int64} (hdg : decode cc pc = .ok (.lxor, 1)) (k : G l E w P X n σ (pc + 1) lv (.long (x ^^^ y) :: st)) : G l E w P X n σ pc lv (.long y :: .long x :: st) := fun H locs ls hw hS hl => lv_lxor O.1 O.2.1 hdg (k H locs ls hw hS hl)
theorem g_ldiv {T : Type} {l : Launch} {E : Ev} {w : T → va_W} {P : Option Value → T → Prop} {X : Bx} {n : Nat} {cc : ByteArray} {own : String} {ret : Option FieldType} {F L : Nat} {σ : T} {lv : List (Nat × Value)} {st : List Value} (pc : Nat) (O : Ok E X cc n own ret F L) {x y : Int64} (hdg : decode cc pc = .ok (.ldiv, 1)) (hne : ¬ y = 0) (k : G l E w P X n σ (pc + 1) lv (.long (x / y) :: st)) : G l E w P X n σ pc lv (.long y :: .long x :: st) := fun H locs ls hw hS hl => lv_ldiv O.1 O.2.1 hdg hne (k H locs ls hw hS hl)
theorem g_lrem {T : Type} {l : Launch} {E : Ev} {w : T → va_W} {P : Option Value → T → Prop} {X : Bx} {n : Nat} {cc : ByteArray} {own : String} {ret : Option FieldType} {F L : Nat} {σ : T} {lv : List (Nat × Value)} {st : List Value} (pc : Nat) (O : Ok E X cc n own ret F L) {x y : Int64} (hdg : decode cc pc = .ok (.lrem, 1)) (hne : ¬ y = 0) (k : G l E w P X n σ (pc + 1) lv (.long (x - x / y * y) :: st)) : G l E w P X n σ pc lv (.long y :: .long x :: st) := fun H locs ls hw hS hl => lv_lrem O.1 O.2.1 hdg hne (k H locs ls hw hS hl)
theorem g_lushr {T : Type} {l : Launch} {E : Ev} {w : T → va_W} {P : Option Value → T → Prop} {X : Bx} {n : Nat} {cc : ByteArray} {own : String} {ret : Option FieldType} {F L : Nat} {σ : T} {lv : List (Nat × Value)} {st : List Value} (pc : Nat) (O : Ok E X cc n own ret F L) {x : Int64} {y : Int32} (hdg : decode cc pc = .ok (.lushr, 1)) (k : G l E w P X n σ (pc + 1) lv (.long ((x.toUInt64 >>> (y.toInt64.toUInt64 &&& Int64.toUInt64 63)).toInt64) :: st)) : G l E w P X n σ pc lv (.int y :: .long x :: st) := fun H locs ls hw hS hl => lv_lushr O.1 O.2.1 hdg rfl (k H locs ls hw hS hl)
theorem g_lshr {T : Type} {l : Launch} {E : Ev} {w : T → va_W} {P : Option Value → T → Prop} {X : Bx} {n : Nat} {cc : ByteArray} {own : String} {ret : Option FieldType} {F L : Nat} {σ : T} {lv : List (Nat × Value)} {st : List Value} (pc : Nat) (O : Ok E X cc n own ret F L) {x : Int64} {y : Int32} (hdg : decode cc pc = .ok (.lshr, 1)) (k : G l E w P X n σ (pc + 1) lv (.long (x >>> (y.toInt64 &&& 63)) :: st)) : G l E w P X n σ pc lv (.int y :: .long x :: st) := fun H locs ls hw hS hl => lv_lshr O.1 O.2.1 hdg rfl (k H locs ls hw hS hl)
theorem g_lshl {T : Type} {l : Launch} {E : Ev} {w : T → va_W} {P : Option Value → T → Prop} {X : Bx} {n : Nat} {cc : ByteArray} {own : String} {ret : Option FieldType} {F L : Nat} {σ : T} {lv : List (Nat × Value)} {st : List Value} (pc : Nat) (O : Ok E X cc n own ret F L) {x : Int64} {y : Int32} (hdg : decode cc pc = .ok (.lshl, 1)) (k : G l E w P X n σ (pc + 1) lv (.long (x <<< (y.toInt64 &&& 63)) :: st)) : G l E w P X n σ pc lv (.int y :: .long x :: st) := fun H locs ls hw hS hl => lv_lshl O.1 O.2.1 hdg rfl (k H locs ls hw hS hl)
theorem g_i2l {T : Type} {l : Launch} {E : Ev} {w : T → va_W} {P : Option Value → T → Prop} {X : Bx} {n : Nat} {cc : ByteArray} {own : String} {ret : Option FieldType} {F L : Nat} {σ : T} {lv : List (Nat × Value)} {st : List Value} (pc : Nat) (O : Ok E X cc n own ret F L) {x : Int32} (hdg : decode cc pc = .ok (.i2l, 1)) (k : G l E w P X n σ (pc + 1) lv (.long x.toInt64 :: st)) : G l E w P X n σ pc lv (.int x :: st) := fun H locs ls hw hS hl => lv_i2l O.1 O.2.1 hdg rfl (k H locs ls hw hS hl)
theorem g_l2i {T : Type} {l : Launch} {E : Ev} {w : T → va_W} {P : Option Value → T → Prop} {X : Bx} {n : Nat} {cc : ByteArray} {own : String} {ret : Option FieldType} {F L : Nat} {σ : T} {lv : List (Nat × Value)} {st : List Value} (pc : Nat) (O : Ok E X cc n own ret F L) {x : Int64} (hdg : decode cc pc = .ok (.l2i, 1)) (k : G l E w P X n σ (pc + 1) lv (.int x.toInt32 :: st)) : G l E w P X n σ pc lv (.long x :: st) := fun H locs ls hw hS hl => lv_l2i O.1 O.2.1 hdg rfl (k H locs ls hw hS hl)
theorem g_i2b {T : Type} {l : Launch} {E : Ev} {w : T → va_W} {P : Option Value → T → Prop} {X : Bx} {n : Nat} {cc : ByteArray} {own : String} {ret : Option FieldType} {F L : Nat} {σ : T} {lv : List (Nat × Value)} {st : List Value} (pc : Nat) (O : Ok E X cc n own ret F L) {x : Int32} (hdg : decode cc pc = .ok (.i2b, 1)) (k : G l E w P X n σ (pc + 1) lv (.int x.toInt8.toInt32 :: st)) : G l E w P X n σ pc lv (.int x :: st) := fun H locs ls hw hS hl => lv_i2b O.1 O.2.1 hdg rfl (k H locs ls hw hS hl)
theorem g_dup {T : Type} {l : Launch} {E : Ev} {w : T → va_W} {P : Option Value → T → Prop} {X : Bx} {n : Nat} {cc : ByteArray} {own : String} {ret : Option FieldType} {F L : Nat} {σ : T} {lv : List (Nat × Value)} {st : List Value} (pc : Nat) (O : Ok E X cc n own ret F L) {v : Value} (hdg : decode cc pc = .ok (.dup, 1)) (hv : v.category = 1) (k : G l E w P X n σ (pc + 1) lv (v :: v :: st)) : G l E w P X n σ pc lv (v :: st) := fun H locs ls hw hS hl => lv_dup O.1 O.2.1 hdg hv (k H locs ls hw hS hl)
theorem g_dup2 {T : Type} {l : Launch} {E : Ev} {w : T → va_W} {P : Option Value → T → Prop} {X : Bx} {n : Nat} {cc : ByteArray} {own : String} {ret : Option FieldType} {F L : Nat} {σ : T} {lv : List (Nat × Value)} {st : List Value} (pc : Nat) (O : Ok E X cc n own ret F L) {v u : Value} (hdg : decode cc pc = .ok (.dup2, 1)) (hv : v.category = 1) (hu : u.category = 1) (k : G l E w P X n σ (pc + 1) lv (v :: u :: v :: u :: st)) : G l E w P X n σ pc lv (v :: u :: st) := fun H locs ls hw hS hl => lv_dup2_11 O.1 O.2.1 hdg hv hu (k H locs ls hw hS hl)
theorem g_pop {T : Type} {l : Launch} {E : Ev} {w : T → va_W} {P : Option Value → T → Prop} {X : Bx} {n : Nat} {cc : ByteArray} {own : String} {ret : Option FieldType} {F L : Nat} {σ : T} {lv : List (Nat × Value)} {st : List Value} (pc : Nat) (O : Ok E X cc n own ret F L) {v : Value} (hdg : decode cc pc = .ok (.pop, 1)) (hv : v.category = 1) (k : G l E w P X n σ (pc + 1) lv (st)) : G l E w P X n σ pc lv (v :: st) := fun H locs ls hw hS hl => lv_pop O.1 O.2.1 hdg hv (k H locs ls hw hS hl)
theorem g_if_eq {T : Type} {l : Launch} {E : Ev} {w : T → va_W} {P : Option Value → T → Prop} {X : Bx} {n : Nat} {cc : ByteArray} {own : String} {ret : Option FieldType} {F L : Nat} {σ : T} {lv : List (Nat × Value)} {st : List Value} (pc : Nat) (O : Ok E X cc n own ret F L) {x : Int32} {off : Int} (tgt : Nat) (hdg : decode cc pc = .ok (.ifCond .eq off, 3)) (ht : (pc : Int) + off = (tgt : Int)) (kt : x = 0 → G l E w P X n σ tgt lv st) (kf : ¬ (x = 0) → G l E w P X n σ (pc + 3) lv st) : G l E w P X n σ pc lv (.int x :: st) := fun H locs ls hw hS hl => lv_if_eq O.1 O.2.1 hdg ht (fun h => kt h H locs ls hw hS hl) (fun h => kf h H locs ls hw hS hl)
theorem g_icmp_eq {T : Type} {l : Launch} {E : Ev} {w : T → va_W} {P : Option Value → T → Prop} {X : Bx} {n : Nat} {cc : ByteArray} {own : String} {ret : Option FieldType} {F L : Nat} {σ : T} {lv : List (Nat × Value)} {st : List Value} (pc : Nat) (O : Ok E X cc n own ret F L) {x y : Int32} {off : Int} (tgt : Nat) (hdg : decode cc pc = .ok (.if_icmp .eq off, 3)) (ht : (pc : Int) + off = (tgt : Int)) (kt : x = y → G l E w P X n σ tgt lv st) (kf : ¬ (x = y) → G l E w P X n σ (pc + 3) lv st) : G l E w P X n σ pc lv (.int y :: .int x :: st) := fun H locs ls hw hS hl => lv_icmp_eq O.1 O.2.1 hdg ht (fun h => kt h H locs ls hw hS hl) (fun h => kf h H locs ls hw hS hl)
theorem g_if_ne {T : Type} {l : Launch} {E : Ev} {w : T → va_W} {P : Option Value → T → Prop} {X : Bx} {n : Nat} {cc : ByteArray} {own : String} {ret : Option FieldType} {F L : Nat} {σ : T} {lv : List (Nat × Value)} {st : List Value} (pc : Nat) (O : Ok E X cc n own ret F L) {x : Int32} {off : Int} (tgt : Nat) (hdg : decode cc pc = .ok (.ifCond .ne off, 3)) (ht : (pc : Int) + off = (tgt : Int)) (kt : ¬ x = 0 → G l E w P X n σ tgt lv st) (kf : x = 0 → G l E w P X n σ (pc + 3) lv st) : G l E w P X n σ pc lv (.int x :: st) := fun H locs ls hw hS hl => lv_if_ne O.1 O.2.1 hdg ht (fun h => kt h H locs ls hw hS hl) (fun h => kf h H locs ls hw hS hl)
theorem g_icmp_ne {T : Type} {l : Launch} {E : Ev} {w : T → va_W} {P : Option Value → T → Prop} {X : Bx} {n : Nat} {cc : ByteArray} {own : String} {ret : Option FieldType} {F L : Nat} {σ : T} {lv : List (Nat × Value)} {st : List Value} (pc : Nat) (O : Ok E X cc n own ret F L) {x y : Int32} {off : Int} (tgt : Nat) (hdg : decode cc pc = .ok (.if_icmp .ne off, 3)) (ht : (pc : Int) + off = (tgt : Int)) (kt : ¬ x = y → G l E w P X n σ tgt lv st) (kf : x = y → G l E w P X n σ (pc + 3) lv st) : G l E w P X n σ pc lv (.int y :: .int x :: st) := fun H locs ls hw hS hl => lv_icmp_ne O.1 O.2.1 hdg ht (fun h => kt h H locs ls hw hS hl) (fun h => kf h H locs ls hw hS hl)
theorem g_if_lt {T : Type} {l : Launch} {E : Ev} {w : T → va_W} {P : Option Value → T → Prop} {X : Bx} {n : Nat} {cc : ByteArray} {own : String} {ret : Option FieldType} {F L : Nat} {σ : T} {lv : List (Nat × Value)} {st : List Value} (pc : Nat) (O : Ok E X cc n own ret F L) {x : Int32} {off : Int} (tgt : Nat) (hdg : decode cc pc = .ok (.ifCond .lt off, 3)) (ht : (pc : Int) + off = (tgt : Int)) (kt : x < 0 → G l E w P X n σ tgt lv st) (kf : ¬ (x < 0) → G l E w P X n σ (pc + 3) lv st) : G l E w P X n σ pc lv (.int x :: st) := fun H locs ls hw hS hl => lv_if_lt O.1 O.2.1 hdg ht (fun h => kt h H locs ls hw hS hl) (fun h => kf h H locs ls hw hS hl)
theorem g_icmp_lt {T : Type} {l : Launch} {E : Ev} {w : T → va_W} {P : Option Value → T → Prop} {X : Bx} {n : Nat} {cc : ByteArray} {own : String} {ret : Option FieldType} {F L : Nat} {σ : T} {lv : List (Nat × Value)} {st : List Value} (pc : Nat) (O : Ok E X cc n own ret F L) {x y : Int32} {off : Int} (tgt : Nat) (hdg : decode cc pc = .ok (.if_icmp .lt off, 3)) (ht : (pc : Int) + off = (tgt : Int)) (kt : x < y → G l E w P X n σ tgt lv st) (kf : ¬ (x < y) → G l E w P X n σ (pc + 3) lv st) : G l E w P X n σ pc lv (.int y :: .int x :: st) := fun H locs ls hw hS hl => lv_icmp_lt O.1 O.2.1 hdg ht (fun h => kt h H locs ls hw hS hl) (fun h => kf h H locs ls hw hS hl)
theorem g_if_ge {T : Type} {l : Launch} {E : Ev} {w : T → va_W} {P : Option Value → T → Prop} {X : Bx} {n : Nat} {cc : ByteArray} {own : String} {ret : Option FieldType} {F L : Nat} {σ : T} {lv : List (Nat × Value)} {st : List Value} (pc : Nat) (O : Ok E X cc n own ret F L) {x : Int32} {off : Int} (tgt : Nat) (hdg : decode cc pc = .ok (.ifCond .ge off, 3)) (ht : (pc : Int) + off = (tgt : Int)) (kt : 0 ≤ x → G l E w P X n σ tgt lv st) (kf : ¬ (0 ≤ x) → G l E w P X n σ (pc + 3) lv st) : G l E w P X n σ pc lv (.int x :: st) := fun H locs ls hw hS hl => lv_if_ge O.1 O.2.1 hdg ht (fun h => kt h H locs ls hw hS hl) (fun h => kf h H locs ls hw hS hl)
theorem g_icmp_ge {T : Type} {l : Launch} {E : Ev} {w : T → va_W} {P : Option Value → T → Prop} {X : Bx} {n : Nat} {cc : ByteArray} {own : String} {ret : Option FieldType} {F L : Nat} {σ : T} {lv : List (Nat × Value)} {st : List Value} (pc : Nat) (O : Ok E X cc n own ret F L) {x y : Int32} {off : Int} (tgt : Nat) (hdg : decode cc pc = .ok (.if_icmp .ge off, 3)) (ht : (pc : Int) + off = (tgt : Int)) (kt : y ≤ x → G l E w P X n σ tgt lv st) (kf : ¬ (y ≤ x) → G l E w P X n σ (pc + 3) lv st) : G l E w P X n σ pc lv (.int y :: .int x :: st) := fun H locs ls hw hS hl => lv_icmp_ge O.1 O.2.1 hdg ht (fun h => kt h H locs ls hw hS hl) (fun h => kf h H locs ls hw hS hl)
theorem g_if_gt {T : Type} {l : Launch} {E : Ev} {w : T → va_W} {P : Option Value → T → Prop} {X : Bx} {n : Nat} {cc : ByteArray} {own : String} {ret : Option FieldType} {F L : Nat} {σ : T} {lv : List (Nat × Value)} {st : List Value} (pc : Nat) (O : Ok E X cc n own ret F L) {x : Int32} {off : Int} (tgt : Nat) (hdg : decode cc pc = .ok (.ifCond .gt off, 3)) (ht : (pc : Int) + off = (tgt : Int)) (kt : 0 < x → G l E w P X n σ tgt lv st) (kf : ¬ (0 < x) → G l E w P X n σ (pc + 3) lv st) : G l E w P X n σ pc lv (.int x :: st) := fun H locs ls hw hS hl => lv_if_gt O.1 O.2.1 hdg ht (fun h => kt h H locs ls hw hS hl) (fun h => kf h H locs ls hw hS hl)
theorem g_icmp_gt {T : Type} {l : Launch} {E : Ev} {w : T → va_W} {P : Option Value → T → Prop} {X : Bx} {n : Nat} {cc : ByteArray} {own : String} {ret : Option FieldType} {F L : Nat} {σ : T} {lv : List (Nat × Value)} {st : List Value} (pc : Nat) (O : Ok E X cc n own ret F L) {x y : Int32} {off : Int} (tgt : Nat) (hdg : decode cc pc = .ok (.if_icmp .gt off, 3)) (ht : (pc : Int) + off = (tgt : Int)) (kt : y < x → G l E w P X n σ tgt lv st) (kf : ¬ (y < x) → G l E w P X n σ (pc + 3) lv st) : G l E w P X n σ pc lv (.int y :: .int x :: st) := fun H locs ls hw hS hl => lv_icmp_gt O.1 O.2.1 hdg ht (fun h => kt h H locs ls hw hS hl) (fun h => kf h H locs ls hw hS hl)
theorem g_if_le {T : Type} {l : Launch} {E : Ev} {w : T → va_W} {P : Option Value → T → Prop} {X : Bx} {n : Nat} {cc : ByteArray} {own : String} {ret : Option FieldType} {F L : Nat} {σ : T} {lv : List (Nat × Value)} {st : List Value} (pc : Nat) (O : Ok E X cc n own ret F L) {x : Int32} {off : Int} (tgt : Nat) (hdg : decode cc pc = .ok (.ifCond .le off, 3)) (ht : (pc : Int) + off = (tgt : Int)) (kt : x ≤ 0 → G l E w P X n σ tgt lv st) (kf : ¬ (x ≤ 0) → G l E w P X n σ (pc + 3) lv st) : G l E w P X n σ pc lv (.int x :: st) := fun H locs ls hw hS hl => lv_if_le O.1 O.2.1 hdg ht (fun h => kt h H locs ls hw hS hl) (fun h => kf h H locs ls hw hS hl)
theorem g_icmp_le {T : Type} {l : Launch} {E : Ev} {w : T → va_W} {P : Option Value → T → Prop} {X : Bx} {n : Nat} {cc : ByteArray} {own : String} {ret : Option FieldType} {F L : Nat} {σ : T} {lv : List (Nat × Value)} {st : List Value} (pc : Nat) (O : Ok E X cc n own ret F L) {x y : Int32} {off : Int} (tgt : Nat) (hdg : decode cc pc = .ok (.if_icmp .le off, 3)) (ht : (pc : Int) + off = (tgt : Int)) (kt : x ≤ y → G l E w P X n σ tgt lv st) (kf : ¬ (x ≤ y) → G l E w P X n σ (pc + 3) lv st) : G l E w P X n σ pc lv (.int y :: .int x :: st) := fun H locs ls hw hS hl => lv_icmp_le O.1 O.2.1 hdg ht (fun h => kt h H locs ls hw hS hl) (fun h => kf h H locs ls hw hS hl)
theorem g_goto {T : Type} {l : Launch} {E : Ev} {w : T → va_W} {P : Option Value → T → Prop} {X : Bx} {n : Nat} {cc : ByteArray} {own : String} {ret : Option FieldType} {F L : Nat} {σ : T} {lv : List (Nat × Value)} {st : List Value} (pc : Nat) (O : Ok E X cc n own ret F L) {off : Int} (tgt : Nat) (hdg : decode cc pc = .ok (.goto off, 3)) (ht : (pc : Int) + off = (tgt : Int)) (k : G l E w P X n σ tgt lv st) : G l E w P X n σ pc lv st := fun H locs ls hw hS hl => lv_goto O.1 O.2.1 hdg ht (k H locs ls hw hS hl)
theorem g_tabIn {T : Type} {l : Launch} {E : Ev} {w : T → va_W} {P : Option Value → T → Prop} {X : Bx} {n : Nat} {cc : ByteArray} {own : String} {ret : Option FieldType} {F L : Nat} {σ : T} {lv : List (Nat × Value)} {st : List Value} (pc : Nat) (O : Ok E X cc n own ret F L) {dflt lo hi : Int} {offs : Array Int} {len : Nat} {x : Int32} {off : Int} (tgt : Nat) (hdg : decode cc pc = .ok (.tableswitch dflt lo hi offs, len)) (h1 : ¬ x.toInt < lo) (h2 : ¬ hi < x.toInt) (ho : offs[(x.toInt - lo).toNat]? = some off) (ht : (pc : Int) + off = (tgt : Int)) (k : G l E w P X n σ tgt lv st) : G l E w P X n σ pc lv (.int x :: st) := fun H locs ls hw hS hl => lv_tableIn O.1 O.2.1 hdg h1 h2 ho ht (k H locs ls hw hS hl)
theorem g_tabOut {T : Type} {l : Launch} {E : Ev} {w : T → va_W} {P : Option Value → T → Prop} {X : Bx} {n : Nat} {cc : ByteArray} {own : String} {ret : Option FieldType} {F L : Nat} {σ : T} {lv : List (Nat × Value)} {st : List Value} (pc : Nat) (O : Ok E X cc n own ret F L) {dflt lo hi : Int} {offs : Array Int} {len : Nat} {x : Int32} (tgt : Nat) (hdg : decode cc pc = .ok (.tableswitch dflt lo hi offs, len)) (h : x.toInt < lo ∨ hi < x.toInt) (ht : (pc : Int) + dflt = (tgt : Int)) (k : G l E w P X n σ tgt lv st) : G l E w P X n σ pc lv (.int x :: st) := fun H locs ls hw hS hl => lv_tableOut O.1 O.2.1 hdg h ht (k H locs ls hw hS hl)
theorem g_look {T : Type} {l : Launch} {E : Ev} {w : T → va_W} {P : Option Value → T → Prop} {X : Bx} {n : Nat} {cc : ByteArray} {own : String} {ret : Option FieldType} {F L : Nat} {σ : T} {lv : List (Nat × Value)} {st : List Value} (pc : Nat) (O : Ok E X cc n own ret F L) {dflt : Int} {ps : Array (Int × Int)} {len : Nat} {x : Int32} {off : Int} (tgt : Nat) (hdg : decode cc pc = .ok (.lookupswitch dflt ps, len)) (hp : (ps.toList.zip (ps.toList.drop 1)).all (fun (a, next) => a.1 < next.1) = true) (ho : Op.lookupswitch.offset ps.toList dflt x.toInt = off) (ht : (pc : Int) + off = (tgt : Int)) (k : G l E w P X n σ tgt lv st) : G l E w P X n σ pc lv (.int x :: st) := fun H locs ls hw hS hl => lv_lookup O.1 O.2.1 hdg hp ho ht (k H locs ls hw hS hl)
theorem g_lcmp {T : Type} {l : Launch} {E : Ev} {w : T → va_W} {P : Option Value → T → Prop} {X : Bx} {n : Nat} {cc : ByteArray} {own : String} {ret : Option FieldType} {F L : Nat} {σ : T} {lv : List (Nat × Value)} {st : List Value} (pc : Nat) (O : Ok E X cc n own ret F L) {x y : Int64} (hdg : decode cc pc = .ok (.lcmp, 1)) (k : G l E w P X n σ (pc + 1) lv (.int (lg_cmp x y) :: st)) : G l E w P X n σ pc lv (.long y :: .long x :: st) := fun H locs ls hw hS hl => W.lcmp O.1 O.2.1 hdg (k H locs ls hw hS hl)
theorem g_topi {T : Type} {l : Launch} {E : Ev} {w : T → va_W} {P : Option Value → T → Prop} {X : Bx} {n : Nat} {σ : T} {lv : List (Nat × Value)} {st : List Value} {pc : Nat} {x : Int32} (k : ∀ y : Int32, y = x → G l E w P X n σ pc lv (.int y :: st)) : G l E w P X n σ pc lv (.int x :: st) := k x rfl
theorem g_topl {T : Type} {l : Launch} {E : Ev} {w : T → va_W} {P : Option Value → T → Prop} {X : Bx} {n : Nat} {σ : T} {lv : List (Nat × Value)} {st : List Value} {pc : Nat} {x : Int64} (k : ∀ y : Int64, y = x → G l E w P X n σ pc lv (.long y :: st)) : G l E w P X n σ pc lv (.long x :: st) := k x rfl
theorem g_si {T : Type} {l : Launch} {E : Ev} {w : T → va_W} {P : Option Value → T → Prop} {X : Bx} {n : Nat} {σ : T} {lv : List (Nat × Value)} {st : List Value} {pc : Nat} {x : Int32} (y : Int32) (h : x = y) (k : G l E w P X n σ pc lv (.int y :: st)) : G l E w P X n σ pc lv (.int x :: st) := h ▸ k
theorem g_sl {T : Type} {l : Launch} {E : Ev} {w : T → va_W} {P : Option Value → T → Prop} {X : Bx} {n : Nat} {σ : T} {lv : List (Nat × Value)} {st : List Value} {pc : Nat} {x : Int64} (y : Int64) (h : x = y) (k : G l E w P X n σ pc lv (.long y :: st)) : G l E w P X n σ pc lv (.long x :: st) := h ▸ k
theorem g_sub {T : Type} {l : Launch} {E : Ev} {w : T → va_W} {P : Option Value → T → Prop} {X : Bx} {n : Nat} {σ : T} {lv : List (Nat × Value)} {st : List Value} {pc : Nat} {lv' : List (Nat × Value)} (ks : List Nat) (h : lv_pick lv ks = lv') (k : G l E w P X n σ pc lv' st) : G l E w P X n σ pc lv st := fun H locs ls hw hS hl => k H locs ls hw hS (lv_sub hl ks h)
theorem g_iret {T : Type} {l : Launch} {E : Ev} {w : T → va_W} {P : Option Value → T → Prop} {X : Bx} {n : Nat} {cc : ByteArray} {own : String} {F L : Nat} {σ : T} {lv : List (Nat × Value)} {r : Int32} (pc : Nat) (O : Ok E X cc n own (some .int) F L) (hdg : decode cc pc = .ok (.ireturn, 1)) (hp : P (some (.int r)) σ) : G l E w P X n σ pc lv ([.int r]) := fun H locs ls hw hS hl => W.iret O.1 O.2.1 O.2.2.2.2.2.2.1 (fun t ht _ => ⟨⟨_, σ, rfl, hp, by rw [ht]; exact hw⟩, hS.F ht⟩) hS.2.2 hdg O.2.2.2.2.2.2.2.1
theorem g_zret {T : Type} {l : Launch} {E : Ev} {w : T → va_W} {P : Option Value → T → Prop} {X : Bx} {n : Nat} {cc : ByteArray} {own : String} {F L : Nat} {σ : T} {lv : List (Nat × Value)} {r : Int32} (hn0 : narrow .boolean (.int r) = .int r) (pc : Nat) (O : Ok E X cc n own (some .boolean) F L) (hdg : decode cc pc = .ok (.ireturn, 1)) (hp : P (some (.int r)) σ) : G l E w P X n σ pc lv ([.int r]) := fun H locs ls hw hS hl => W.zret O.1 O.2.1 O.2.2.2.2.2.2.1 hn0 (fun t ht _ => ⟨⟨_, σ, rfl, hp, by rw [ht]; exact hw⟩, hS.F ht⟩) hS.2.2 hdg O.2.2.2.2.2.2.2.1
theorem g_lret {T : Type} {l : Launch} {E : Ev} {w : T → va_W} {P : Option Value → T → Prop} {X : Bx} {n : Nat} {cc : ByteArray} {own : String} {F L : Nat} {σ : T} {lv : List (Nat × Value)} {r : Int64} (pc : Nat) (O : Ok E X cc n own (some .long) F L) (hdg : decode cc pc = .ok (.lreturn, 1)) (hp : P (some (.long r)) σ) : G l E w P X n σ pc lv ([.long r]) := fun H locs ls hw hS hl => W.lret O.1 O.2.1 O.2.2.2.2.2.2.1 (fun t ht _ => ⟨⟨_, σ, rfl, hp, by rw [ht]; exact hw⟩, hS.F ht⟩) hS.2.2 hdg O.2.2.2.2.2.2.2.1
theorem g_vret {T : Type} {l : Launch} {E : Ev} {w : T → va_W} {P : Option Value → T → Prop} {X : Bx} {n : Nat} {cc : ByteArray} {own : String} {F L : Nat} {σ : T} {lv : List (Nat × Value)} (pc : Nat) (O : Ok E X cc n own none F L) (hdg : decode cc pc = .ok (.return_, 1)) (hp : P (none) σ) : G l E w P X n σ pc lv ([]) := fun H locs ls hw hS hl => W.vret O.1 O.2.1 O.2.2.2.2.2.2.1 (fun t ht _ => ⟨⟨_, σ, rfl, hp, by rw [ht]; exact hw⟩, hS.F ht⟩) hS.2.2 hdg O.2.2.2.2.2.2.2.1
end
section
/-! G rows over the heap, and calls -/
theorem Fx.call {E : Ev} {U : State} {g : JFrame} {mk : MethodId} {a : Array Value} (h : Fx E U U.heap) : Fx E (U.calling g mk a) (U.calling g mk a).heap :=
  ⟨va_K.moved (u := U) (U := U.calling g mk a) (Vm.Alike.refl U.vm) h.1, h.2.1.same rfl, va_Z.moved (u := U) (U := U.calling g mk a) (Vm.Alike.refl U.vm) h.2.2.1, va_T.moved (u := U) (U := U.calling g mk a) (Vm.Alike.refl U.vm) h.2.2.2⟩
theorem blindG {T : Type} {E : Ev} {w : T → va_W} {σ : T} {av : List Value} : FrameBlind (va_Pc av (fun U => Wo E w σ U.heap ∧ Fx E U U.heap)) := fun _ _ _ _ q => ⟨q.1, q.2.1, Fx.call q.2.2⟩
section GH
variable {T : Type} {l : Launch} {E : Ev} {w : T → va_W} {P : Option Value → T → Prop} {X : Bx} {n : Nat} {cc : ByteArray} {own : String} {ret : Option FieldType} {F L : Nat} {σ : T} {lv : List (Nat × Value)} {st : List Value}
theorem g_get (pc : Nat) (O : Ok E X cc n own ret F L) {C : String} {Tt : u_T} {N ci idx a : Nat} {fs : List Value} {v : Value} (hin : ∀ w ∈ u_ws C Tt N, w ∈ WT) (q0 : Nat) (he : (w σ)[q0]? = some (a, .inr (ci, fs))) (hc : vwCl[ci]? = some (C, Tt, N)) (k : Nat) (hk : k < N)
    (hlink : Cond.fieldLink own idx (Tt k).1 (Tt k).2.1 (Tt k).2.2.1 ∈ WT) (hv : fs[k]? = some v) (hdg : decode cc pc = .ok (.getfield idx, 3)) (kk : G l E w P X n σ (pc + 3) lv (v :: st)) : G l E w P X n σ pc lv (.ref a :: st) :=
  fun H locs ls hw hS hl => va_get O.1 O.2.1 O.2.2.2.2.1 hin O.2.2.2.1 O.2.2.2.2.2.1.1 hw.1 q0 he hc k hk (O.2.2.2.2.1 _ hlink) (fun _ h9 => h9) hv hdg (kk H locs ls hw hS hl)
theorem g_getN (pc : Nat) (O : Ok E X cc n own ret F L) {C host : String} {Tt : u_T} {N ci idx a : Nat} {fs : List Value} {v : Value} (hin : ∀ w ∈ u_ws C Tt N, w ∈ WT) (q0 : Nat) (he : (w σ)[q0]? = some (a, .inr (ci, fs))) (hc : vwCl[ci]? = some (C, Tt, N)) (k : Nat) (hk : k < N)
    (hlink : ∀ U, NW U → va_Nw (.fieldLinkNest own idx (Tt k).1 (Tt k).2.1 (Tt k).2.2.1 host) U) (hv : fs[k]? = some v) (hdg : decode cc pc = .ok (.getfield idx, 3)) (kk : G l E w P X n σ (pc + 3) lv (v :: st)) : G l E w P X n σ pc lv (.ref a :: st) :=
  fun H locs ls hw hS hl => va_getN O.1 O.2.1 O.2.2.2.2.1 hin O.2.2.2.1 O.2.2.2.2.2.1.1 hw.1 q0 he hc k hk (va_Nw.use rfl (hlink _ O.2.2.2.2.2.1.2.1)) (fun _ h9 => h9) hv hdg (kk H locs ls hw hS hl)
theorem g_put (pc : Nat) (O : Ok E X cc n own ret F L) {C : String} {Tt : u_T} {N ci idx a : Nat} {fs : List Value} {v : Value} (hin : ∀ w ∈ u_ws C Tt N, w ∈ WT) {ty0 : Nat → FieldType} (hty : ∀ k, k < N → parseFieldDescriptor (Tt k).2.2.1 = some (ty0 k)) (hnm : ∀ a, a < N → ∀ b, b < N → a ≠ b → (Tt a).2.1 ≠ (Tt b).2.1)
    (σ' : T) (q0 : Nat) (he : (w σ)[q0]? = some (a, .inr (ci, fs))) (hc : vwCl[ci]? = some (C, Tt, N)) (k : Nat) (hk : k < N)
    (hlink : Cond.fieldLink own idx (Tt k).1 (Tt k).2.1 (Tt k).2.2.1 ∈ WT) (hfin : (Tt k).2.2.2 = false) (hn : narrow (ty0 k) v = v) (hfit : fits (ty0 k) v = true) (hlen : k < fs.length) (hs : (w σ).set q0 (a, .inr (ci, fs.set k v)) = w σ')
    (hdg : decode cc pc = .ok (.putfield idx, 3)) (kk : G l E w P X n σ' (pc + 3) lv st) : G l E w P X n σ pc lv (v :: .ref a :: st) :=
  fun H locs ls hw hS hl => va_put O.1 O.2.1 O.2.2.2.2.1 hin ty0 hty hnm O.2.2.2.1 O.2.2.2.2.2.1.1 hw.1 hw.2 hS q0 he hc k hk (O.2.2.2.2.1 _ hlink) (fun _ h9 => h9) hfin (hty k hk) hn hfit hlen hdg (fun H1 locs1 hP hD hS1 => kk H1 locs1 ls ⟨by rw [← hs]; exact hP, by rw [← hs]; exact hD⟩ hS1 hl)
theorem g_putN (pc : Nat) (O : Ok E X cc n own ret F L) {C host : String} {Tt : u_T} {N ci idx a : Nat} {fs : List Value} {v : Value} (hin : ∀ w ∈ u_ws C Tt N, w ∈ WT) {ty0 : Nat → FieldType} (hty : ∀ k, k < N → parseFieldDescriptor (Tt k).2.2.1 = some (ty0 k)) (hnm : ∀ a, a < N → ∀ b, b < N → a ≠ b → (Tt a).2.1 ≠ (Tt b).2.1)
    (σ' : T) (q0 : Nat) (he : (w σ)[q0]? = some (a, .inr (ci, fs))) (hc : vwCl[ci]? = some (C, Tt, N)) (k : Nat) (hk : k < N)
    (hlink : ∀ U, NW U → va_Nw (.fieldLinkNest own idx (Tt k).1 (Tt k).2.1 (Tt k).2.2.1 host) U) (hfin : (Tt k).2.2.2 = false) (hn : narrow (ty0 k) v = v) (hfit : fits (ty0 k) v = true) (hlen : k < fs.length) (hs : (w σ).set q0 (a, .inr (ci, fs.set k v)) = w σ')
    (hdg : decode cc pc = .ok (.putfield idx, 3)) (kk : G l E w P X n σ' (pc + 3) lv st) : G l E w P X n σ pc lv (v :: .ref a :: st) :=
  fun H locs ls hw hS hl => va_putN O.1 O.2.1 O.2.2.2.2.1 hin ty0 hty hnm O.2.2.2.1 O.2.2.2.2.2.1.1 hw.1 hw.2 hS q0 he hc k hk (va_Nw.use rfl (hlink _ O.2.2.2.2.2.1.2.1)) (fun _ h9 => h9) hfin (hty k hk) hn hfit hlen hdg (fun H1 locs1 hP hD hS1 => kk H1 locs1 ls ⟨by rw [← hs]; exact hP, by rw [← hs]; exact hD⟩ hS1 hl)
/-- an index -/
theorem ix_in {i : Int32} {j N : Nat} (hi : i = nI j) (hj : j < N) (hN : N < 2 ^ 31) : vp_in i N ∧ i.toNatClampNeg = j := by
  subst hi
  exact ⟨vp_in_nI hj hN, nI_clamp (Nat.lt_trans hj hN)⟩
theorem g_iald (pc : Nat) (O : Ok E X cc n own ret F L) {a N : Nat} {f : Nat → Int32} {i : Int32} (q0 j : Nat) (ha : (w σ)[q0]? = some (a, .inl (E.cI, N, .inl f))) (hi : i = nI j) (hj : j < N) (hN : N < 2 ^ 31) (hdg : decode cc pc = .ok (.iaload, 1)) (kk : G l E w P X n σ (pc + 1) lv (.int (f j) :: st)) : G l E w P X n σ pc lv (.int i :: .ref a :: st) :=
  fun H locs ls hw hS hl => va_iald O.1 O.2.1 O.2.2.2.2.2.1.1 hw.1 q0 0 ha rfl (ix_in hi hj hN).1 hdg (by rw [(ix_in hi hj hN).2]; exact kk H locs ls hw hS hl)
theorem g_zald (pc : Nat) (O : Ok E X cc n own ret F L) {a N : Nat} {f : Nat → Int32} {i : Int32} (q0 j : Nat) (ha : (w σ)[q0]? = some (a, .inl (E.cZ, N, .inl f))) (hi : i = nI j) (hj : j < N) (hN : N < 2 ^ 31) (hdg : decode cc pc = .ok (.baload, 1)) (kk : G l E w P X n σ (pc + 1) lv (.int (f j) :: st)) : G l E w P X n σ pc lv (.int i :: .ref a :: st) :=
  fun H locs ls hw hS hl => va_zald O.1 O.2.1 O.2.2.2.2.2.1.1 hw.1 q0 1 ha rfl (ix_in hi hj hN).1 hdg (by rw [(ix_in hi hj hN).2]; exact kk H locs ls hw hS hl)
theorem g_bald (pc : Nat) (O : Ok E X cc n own ret F L) {a N : Nat} {f : Nat → Int32} {i : Int32} (q0 j : Nat) (ha : (w σ)[q0]? = some (a, .inl (E.cB, N, .inl f))) (hi : i = nI j) (hj : j < N) (hN : N < 2 ^ 31) (hdg : decode cc pc = .ok (.baload, 1)) (kk : G l E w P X n σ (pc + 1) lv (.int (f j) :: st)) : G l E w P X n σ pc lv (.int i :: .ref a :: st) :=
  fun H locs ls hw hS hl => va_bald O.1 O.2.1 O.2.2.2.2.2.1.1 hw.1 q0 3 ha rfl (ix_in hi hj hN).1 hdg (by rw [(ix_in hi hj hN).2]; exact kk H locs ls hw hS hl)
theorem g_lald (pc : Nat) (O : Ok E X cc n own ret F L) {a N : Nat} {f : Nat → Int64} {i : Int32} (q0 j : Nat) (ha : (w σ)[q0]? = some (a, .inl (E.cJ, N, .inr (.inl f)))) (hi : i = nI j) (hj : j < N) (hN : N < 2 ^ 31) (hdg : decode cc pc = .ok (.laload, 1)) (kk : G l E w P X n σ (pc + 1) lv (.long (f j) :: st)) : G l E w P X n σ pc lv (.int i :: .ref a :: st) :=
  fun H locs ls hw hS hl => va_lald O.1 O.2.1 O.2.2.2.2.2.1.1 hw.1 q0 2 ha rfl (ix_in hi hj hN).1 hdg (by rw [(ix_in hi hj hN).2]; exact kk H locs ls hw hS hl)
theorem g_alen (pc : Nat) (O : Ok E X cc n own ret F L) {a : Nat} {cA : ClassId} {x : vp_A} {ty : FieldType} {v : Int32} (q0 t0 : Nat) (ha : (w σ)[q0]? = some (a, .inl (cA, x))) (ht : E.tys[t0]? = some (cA, ty)) (hv : Int32.ofNat x.1 = v) (hdg : decode cc pc = .ok (.arraylength, 1)) (kk : G l E w P X n σ (pc + 1) lv (.int v :: st)) : G l E w P X n σ pc lv (.ref a :: st) :=
  fun H locs ls hw hS hl => va_alen O.1 O.2.1 O.2.2.2.2.2.1.1 hw.1 q0 t0 ha ht hv hdg (kk H locs ls hw hS hl)
theorem g_iast (pc : Nat) (O : Ok E X cc n own ret F L) {a N : Nat} {f : Nat → Int32} {i x : Int32} (σ' : T) (q0 j : Nat) (ha : (w σ)[q0]? = some (a, .inl (E.cI, N, .inl f))) (hi : i = nI j) (hj : j < N) (hN : N < 2 ^ 31) (hs : (w σ).set q0 (a, .inl (E.cI, N, .inl (upd f j x))) = w σ') (hdg : decode cc pc = .ok (.iastore, 1)) (kk : G l E w P X n σ' (pc + 1) lv st) : G l E w P X n σ pc lv (.int x :: .int i :: .ref a :: st) :=
  fun H locs ls hw hS hl => va_iast O.1 O.2.1 O.2.2.2.2.2.1.1 hw.1 hw.2 hS q0 0 ha rfl (ix_in hi hj hN).1 hdg (fun H1 locs1 hP hD hS1 => by rw [(ix_in hi hj hN).2, hs] at hP hD; exact kk H1 locs1 ls ⟨hP, hD⟩ hS1 hl)
theorem g_zast (pc : Nat) (O : Ok E X cc n own ret F L) {a N : Nat} {f : Nat → Int32} {i x : Int32} (σ' : T) (q0 j : Nat) (ha : (w σ)[q0]? = some (a, .inl (E.cZ, N, .inl f))) (hi : i = nI j) (hj : j < N) (hN : N < 2 ^ 31) (hx : vp_nar .boolean x = x) (hs : (w σ).set q0 (a, .inl (E.cZ, N, .inl (upd f j x))) = w σ') (hdg : decode cc pc = .ok (.bastore, 1)) (kk : G l E w P X n σ' (pc + 1) lv st) : G l E w P X n σ pc lv (.int x :: .int i :: .ref a :: st) :=
  fun H locs ls hw hS hl => va_zast O.1 O.2.1 O.2.2.2.2.2.1.1 hw.1 hw.2 hS q0 1 ha rfl (ix_in hi hj hN).1 hdg (fun H1 locs1 hP hD hS1 => by rw [(ix_in hi hj hN).2, hx, hs] at hP hD; exact kk H1 locs1 ls ⟨hP, hD⟩ hS1 hl)
theorem g_bast (pc : Nat) (O : Ok E X cc n own ret F L) {a N : Nat} {f : Nat → Int32} {i x : Int32} (σ' : T) (q0 j : Nat) (ha : (w σ)[q0]? = some (a, .inl (E.cB, N, .inl f))) (hi : i = nI j) (hj : j < N) (hN : N < 2 ^ 31) (hx : vp_nar .byte x = x) (hs : (w σ).set q0 (a, .inl (E.cB, N, .inl (upd f j x))) = w σ') (hdg : decode cc pc = .ok (.bastore, 1)) (kk : G l E w P X n σ' (pc + 1) lv st) : G l E w P X n σ pc lv (.int x :: .int i :: .ref a :: st) :=
  fun H locs ls hw hS hl => va_bast O.1 O.2.1 O.2.2.2.2.2.1.1 hw.1 hw.2 hS q0 3 ha rfl (ix_in hi hj hN).1 hdg (fun H1 locs1 hP hD hS1 => by rw [(ix_in hi hj hN).2, hx, hs] at hP hD; exact kk H1 locs1 ls ⟨hP, hD⟩ hS1 hl)
theorem g_last (pc : Nat) (O : Ok E X cc n own ret F L) {a N : Nat} {f : Nat → Int64} {i : Int32} {x : Int64} (σ' : T) (q0 j : Nat) (ha : (w σ)[q0]? = some (a, .inl (E.cJ, N, .inr (.inl f)))) (hi : i = nI j) (hj : j < N) (hN : N < 2 ^ 31) (hs : (w σ).set q0 (a, .inl (E.cJ, N, .inr (.inl (vp_updL f j x)))) = w σ') (hdg : decode cc pc = .ok (.lastore, 1)) (kk : G l E w P X n σ' (pc + 1) lv st) : G l E w P X n σ pc lv (.long x :: .int i :: .ref a :: st) :=
  fun H locs ls hw hS hl => va_last O.1 O.2.1 O.2.2.2.2.2.1.1 hw.1 hw.2 hS q0 2 ha rfl (ix_in hi hj hN).1 hdg (fun H1 locs1 hP hD hS1 => by rw [(ix_in hi hj hN).2, hs] at hP hD; exact kk H1 locs1 ls ⟨hP, hD⟩ hS1 hl)
/-- the static row WORLDS_OF_FACT -/
theorem g_gets (pc : Nat) (O : Ok E X cc n RX5 ret F L) (hdg : decode cc pc = .ok (.getstatic 287, 3)) (kk : G l E w P X n σ (pc + 3) lv (.ref E.t :: st)) : G l E w P X n σ pc lv st :=
  fun H locs ls hw hS hl => va_gets O.1 O.2.1 O.2.2.2.2.2.1.2.2.1 hS O.2.2.2.1 (O.2.2.2.2.1 _ kf_X5_287) (fun _ h9 => h9) hdg (kk H locs ls hw hS hl)
theorem g_tl (pc : Nat) (O : Ok E X cc n own ret F L) {i : Int32} (j : Nat) (hi : i = nI j) (hj : j < 6) (hdg : decode cc pc = .ok (.laload, 1)) (kk : G l E w P X n σ (pc + 1) lv (.long (Wf j) :: st)) : G l E w P X n σ pc lv (.int i :: .ref E.t :: st) :=
  fun H locs ls hw hS hl => va_tl O.1 O.2.1 O.2.2.2.2.2.1.2.2.2 hS (ix_in hi hj (by decide)).1 (v := .long (Wf j)) (by rw [(ix_in hi hj (by decide)).2]) hdg (kk H locs ls hw hS hl)
theorem g_tlen (pc : Nat) (O : Ok E X cc n own ret F L) (hdg : decode cc pc = .ok (.arraylength, 1)) (kk : G l E w P X n σ (pc + 1) lv (.int 6 :: st)) : G l E w P X n σ pc lv (.ref E.t :: st) :=
  fun H locs ls hw hS hl => va_tlen O.1 O.2.1 O.2.2.2.2.2.1.2.2.2 hS (v := 6) rfl hdg (kk H locs ls hw hS hl)
end GH
section GC
variable {T T' : Type} {l : Launch} {E : Ev} {w : T → va_W} {w' : T' → va_W} {P : Option Value → T → Prop} {P' : Option Value → T' → Prop} {X : Bx} {n : Nat} {cc : ByteArray} {own : String} {ret : Option FieldType} {F L : Nat} {σ : T} {σ' : T'} {lv : List (Nat × Value)} {st stk av : List Value}
  {y : MethodName} {b : ByteArray} {nb Fb Lb idx a na : Nat} {rb : Option FieldType}
theorem g_run (pc : Nat) (back : T' → T) (hb : ∀ v s H, P' v s → Wo E w' s H → Wo E w (back s) H) (kk : ∀ v s, P' v s → G l E w P X n (back s) (pc + 3) lv (v.toList ++ st)) {H : Heap} {locs : List Loc} {ls : Array Slot} (hS : va_S E.A X.2.2.2.1.heap H locs) (hl : lv_has ls n lv)
    (hr : va_Run X.1 l X.2.1 X.2.2.1 X.2.2.2.1 X.2.2.2.2.1 X.2.2.2.2.2.1 X.2.2.2.2.2.2.1 X.2.2.2.2.2.2.2.1 X.2.2.2.2.2.2.2.2 H locs 0 0 0 0 (F0 X.2.2.2.2.1 pc ls stk) st (QG E w' P' #[]) E.A) :
    W X.1 l X.2.1 X.2.2.1 X.2.2.2.1 X.2.2.2.2.1 X.2.2.2.2.2.1 X.2.2.2.2.2.2.1 X.2.2.2.2.2.2.2.1 X.2.2.2.2.2.2.2.2 H locs 0 0 (MQ X.2.2.2.2.2.2.1 (QG E w P) X.2.2.2.2.2.1 X.2.2.2.1 0 0 E.A) (F0 X.2.2.2.2.1 pc ls stk) := by
  intro T0 hT X0
  obtain ⟨v, st₀, t, T', Lq, h0, X', hL, e1, e2, ⟨⟨v', s', hv, hp, hwo⟩, hz, hk⟩, hst⟩ := hr T0 hT X0
  cases hv
  rw [h0] at hz hk
  obtain ⟨t2, a1, b1⟩ := kk _ s' hp T'.heap (locs ++ Lq) ls (by rw [e1]; exact hb _ _ _ hp hwo)
    ⟨Nat.le_trans hS.1 (by rw [e1]; exact hz), fun q h1 h2 => by rw [e1, hk q (Nat.lt_of_lt_of_le h1 hS.1) h2]; exact hS.2.1 q h1 h2, fun q hq => by
      rcases List.mem_append.mp hq with h | h
      · exact hS.2.2 q h
      · exact hL q h⟩ hl T' rfl X'
  exact ⟨t2, hst t2 a1, b1⟩
theorem g_callV (pc : Nat) (O : Ok E X cc n own ret F L) (hM : Ctr l y b nb rb Fb Lb E w' (.ref a :: av) σ' P') {C : String} {Tt : u_T} {N ci : Nat} {fs : List Value}
    (h1 : Cond.methodLink own idx y ∈ WT) (h2 : Cond.instanceMethod y ∈ WT) (h3 : Cond.selects C y y ∈ WT) (h4 : Cond.initialized C ∈ WT) (h5 : Cond.code y b nb rb ∈ WT)
    (hd : y.cls = C ∧ y.cls ≠ "java/lang/invoke/MethodHandle" ∧ y.cls ≠ "java/lang/invoke/VarHandle" ∧ (parseMethodDescriptor y.desc).map (fun d => d.parameters.length) = some na) (hna : av.length = na) (hF : Fb + 1 ≤ F) (hL : 8 + (nb + 11) + Lb ≤ L)
    (lens : ∀ H, Wo E w σ H → Wo E w' σ' H) (q0 : Nat) (he : (w' σ')[q0]? = some (a, .inr (ci, fs))) (hc : vwCl[ci]? = some (C, Tt, N)) (back : T' → T) (hb : ∀ v s H, P' v s → Wo E w' s H → Wo E w (back s) H) (hs : stk = av.reverse ++ .ref a :: st) (hst : (st.map fun v => v.category).sum ≤ 8)
    (hdg : decode cc pc = .ok (.invokevirtual idx, 3)) (kk : ∀ v s, P' v s → G l E w P X n (back s) (pc + 3) lv (v.toList ++ st)) : G l E w P X n σ pc lv stk := by
  intro H locs ls hw hS hl
  have hw' := lens H hw
  exact g_run pc back hb kk hS hl (va_runV (As := av) (rest := st) (C := C) (b := a) ⟨O.1, O.2.1, O.2.2.1, O.2.2.2.1, O.2.2.2.2.1⟩ hM (cwV na O.2.2.2.2.1 (goodV h1 h2 h3 h4 h5) rfl rfl rfl hd ⟨Nat.le_trans hF O.2.2.2.2.2.2.2.2.1, Nat.le_trans hL O.2.2.2.2.2.2.2.2.2⟩) ⟨blindG, va_recv O.2.2.2.2.2.1.1 hw'.1 hc he, fun U hU hW => ⟨rfl, by rw [hU]; exact hw', Fx.go O.2.2.2.2.2.1 hS hU hW⟩⟩ rfl hna hl.1 hs (lv_room hst) hdg ⟨Nat.zero_le _, Nat.zero_le _⟩)
theorem g_callS (pc : Nat) (O : Ok E X cc n own ret F L) (hM : Ctr l y b nb rb Fb Lb E w' av σ' P')
    (h1 : Cond.methodLink own idx y ∈ WT) (h2 : Cond.static y ∈ WT) (h4 : Cond.initialized own ∈ WT) (h5 : Cond.code y b nb rb ∈ WT)
    (hd : y.cls = own ∧ y.cls ≠ "java/lang/invoke/MethodHandle" ∧ y.cls ≠ "java/lang/invoke/VarHandle" ∧ (parseMethodDescriptor y.desc).map (fun d => d.parameters.length) = some na) (hna : av.length = na) (hF : Fb + 1 ≤ F) (hL : 8 + (nb + 11) + Lb ≤ L)
    (lens : ∀ H, Wo E w σ H → Wo E w' σ' H) (back : T' → T) (hb : ∀ v s H, P' v s → Wo E w' s H → Wo E w (back s) H) (hs : stk = av.reverse ++ st) (hst : (st.map fun v => v.category).sum ≤ 8)
    (hdg : decode cc pc = .ok (.invokestatic idx, 3)) (kk : ∀ v s, P' v s → G l E w P X n (back s) (pc + 3) lv (v.toList ++ st)) : G l E w P X n σ pc lv stk := by
  intro H locs ls hw hS hl
  have hw' := lens H hw
  exact g_run pc back hb kk hS hl (va_runS (As := av) (rest := st) ⟨O.1, O.2.1, O.2.2.1, O.2.2.2.1, O.2.2.2.2.1⟩ hM (cwS na O.2.2.2.2.1 (goodS h1 h2 h4 h5) rfl rfl rfl hd ⟨Nat.le_trans hF O.2.2.2.2.2.2.2.2.1, Nat.le_trans hL O.2.2.2.2.2.2.2.2.2⟩) ⟨blindG, fun U hU hW => ⟨rfl, by rw [hU]; exact hw', Fx.go O.2.2.2.2.2.1 hS hU hW⟩⟩ rfl hna hl.1 hs (lv_room hst) hdg ⟨Nat.zero_le _, Nat.zero_le _⟩)
/-- a static method of another class of the nest -/
theorem g_callX (pc : Nat) (O : Ok E X cc n own ret F L) (hM : Ctr l y b nb rb Fb Lb E w' av σ' P')
    (h1 : Cond.methodLink own idx y ∈ WT) (h2 : Cond.static y ∈ WT) (h4 : Cond.initialized y.cls ∈ WT) (h5 : Cond.code y b nb rb ∈ WT)
    (hd : y.cls ≠ "java/lang/invoke/MethodHandle" ∧ y.cls ≠ "java/lang/invoke/VarHandle" ∧ (parseMethodDescriptor y.desc).map (fun d => d.parameters.length) = some na) (hna : av.length = na) (hF : Fb + 1 ≤ F) (hL : 8 + (nb + 11) + Lb ≤ L)
    (lens : ∀ H, Wo E w σ H → Wo E w' σ' H) (back : T' → T) (hb : ∀ v s H, P' v s → Wo E w' s H → Wo E w (back s) H) (hs : stk = av.reverse ++ st) (hst : (st.map fun v => v.category).sum ≤ 8)
    (hdg : decode cc pc = .ok (.invokestatic idx, 3)) (kk : ∀ v s, P' v s → G l E w P X n (back s) (pc + 3) lv (v.toList ++ st)) : G l E w P X n σ pc lv stk := by
  intro H locs ls hw hS hl
  have hw' := lens H hw
  exact g_run pc back hb kk hS hl (va_runS (As := av) (rest := st) ⟨O.1, O.2.1, O.2.2.1, O.2.2.2.1, O.2.2.2.2.1⟩ hM ⟨callB_of na O.2.2.2.2.1 (goodC h5) rfl rfl rfl (O.2.2.2.2.1 _ h4) (O.2.2.2.2.1 _ h1) hd ⟨Nat.le_trans hF O.2.2.2.2.2.2.2.2.1, Nat.le_trans hL O.2.2.2.2.2.2.2.2.2⟩, O.2.2.2.2.1 _ h2⟩ ⟨blindG, fun U hU hW => ⟨rfl, by rw [hU]; exact hw', Fx.go O.2.2.2.2.2.1 hS hU hW⟩⟩ rfl hna hl.1 hs (lv_room hst) hdg ⟨Nat.zero_le _, Nat.zero_le _⟩)
theorem g_callN (pc : Nat) (O : Ok E X cc n own ret F L) {host : String} (hM : Ctr l y b nb rb Fb Lb E w' av σ' P')
    (h1 : ∀ U, NW U → va_Nw (.methodLinkNest own idx y host) U) (h2 : Cond.static y ∈ WT) (h4 : Cond.initialized y.cls ∈ WT) (h5 : Cond.code y b nb rb ∈ WT)
    (hd : y.cls ≠ "java/lang/invoke/MethodHandle" ∧ y.cls ≠ "java/lang/invoke/VarHandle" ∧ (parseMethodDescriptor y.desc).map (fun d => d.parameters.length) = some na) (hna : av.length = na) (hF : Fb + 1 ≤ F) (hL : 8 + (nb + 11) + Lb ≤ L)
    (lens : ∀ H, Wo E w σ H → Wo E w' σ' H) (back : T' → T) (hb : ∀ v s H, P' v s → Wo E w' s H → Wo E w (back s) H) (hs : stk = av.reverse ++ st) (hst : (st.map fun v => v.category).sum ≤ 8)
    (hdg : decode cc pc = .ok (.invokestatic idx, 3)) (kk : ∀ v s, P' v s → G l E w P X n (back s) (pc + 3) lv (v.toList ++ st)) : G l E w P X n σ pc lv stk := by
  intro H locs ls hw hS hl
  have hw' := lens H hw
  exact g_run pc back hb kk hS hl (va_runSN (As := av) (rest := st) ⟨O.1, O.2.1, O.2.2.1, O.2.2.2.1, O.2.2.2.2.1⟩ hM ⟨va_cnB na O.2.2.2.2.1 (goodC h5) rfl rfl rfl (h1 _ O.2.2.2.2.2.1.2.1) (O.2.2.2.2.1 _ h4) hd ⟨Nat.le_trans hF O.2.2.2.2.2.2.2.2.1, Nat.le_trans hL O.2.2.2.2.2.2.2.2.2⟩, O.2.2.2.2.1 _ h2, trivial⟩ ⟨blindG, fun U hU hW => ⟨rfl, by rw [hU]; exact hw', Fx.go O.2.2.2.2.2.1 hS hU hW⟩⟩ rfl hna hl.1 hs (lv_room hst) hdg ⟨Nat.zero_le _, Nat.zero_le _⟩)
end GC
end
section
/-! CONTENTS AND WORLDS: what the cells hold; the cells, read off a content -/
/-- a Saying: (words, readings, widest, narrowest, some), letters, negations, pluses, firstTruths, secondTruths, truths -/
abbrev Sc : Type := (Int32 × Int32 × Int32 × Int32 × Int64) × (Nat → Int32) × (Nat → Int32) × (Nat → Int32) × (Nat → Int64) × (Nat → Int64) × (Nat → Int64)
def wS (E : Ev) (a : Nat → Nat) (s : Sc) : va_W := [(a 0, .inr (3, [.ref (a 1), .ref (a 2), .ref (a 3), .ref (a 4), .ref (a 5), .ref (a 6), .int s.1.1, .int s.1.2.1, .int s.1.2.2.1, .int s.1.2.2.2.1, .long s.1.2.2.2.2])),
  (a 1, .inl (E.cI, 4, .inl s.2.1)), (a 2, .inl (E.cZ, 4, .inl s.2.2.1)), (a 3, .inl (E.cZ, 4, .inl s.2.2.2.1)), (a 4, .inl (E.cJ, 4, .inr (.inl s.2.2.2.2.1))), (a 5, .inl (E.cJ, 4, .inr (.inl s.2.2.2.2.2.1))), (a 6, .inl (E.cJ, 640, .inr (.inl s.2.2.2.2.2.2)))]
/-- Hearers: number, kinds, facts, values, changes -/
abbrev Hc : Type := Int32 × (Nat → Int32) × (Nat → Int32) × (Nat → Int32) × (Nat → Int32)
def wH (E : Ev) (a : Nat → Nat) (h : Hc) : va_W := [(a 0, .inr (0, [.ref (a 1), .ref (a 2), .ref (a 3), .ref (a 4), .int h.1])), (a 1, .inl (E.cI, 4, .inl h.2.1)), (a 2, .inl (E.cI, 4, .inl h.2.2.1)), (a 3, .inl (E.cI, 4, .inl h.2.2.2.1)), (a 4, .inl (E.cI, 4, .inl h.2.2.2.2))]
/-- Told: number, worlds -/
abbrev Tc : Type := Int32 × (Nat → Int32)
def wT (E : Ev) (a : Nat → Nat) (t : Tc) : va_W := [(a 0, .inr (4, [.ref (a 1), .int t.1])), (a 1, .inl (E.cI, 6, .inl t.2))]
/-- Page: length, codes -/
abbrev Pc : Type := Int32 × (Nat → Int32)
def wP (E : Ev) (a : Nat → Nat) (p : Pc) : va_W := [(a 0, .inr (2, [.ref (a 1), .int p.1])), (a 1, .inl (E.cI, 14, .inl p.2))]
/-- AsWasSaid: (world, rounds, timesSaid, timesAdded), page, secondSenses, saying, other, longer, hearers, told, the image's (isKept, world, rounds), hearers, told -/
abbrev Xc : Type := (Int32 × Int32 × Int32 × Int32) × Pc × (Nat → Int32) × Sc × Sc × Sc × Hc × Tc × (Int32 × Int32 × Int32) × Hc × Tc
def wXm (a : Nat → Nat) (m : Int32 × Int32 × Int32 × Int32) : Nat × va_E := (a 0, .inr (5, [.ref (a 1), .ref (a 3), .ref (a 4), .ref (a 11), .ref (a 18), .ref (a 25), .ref (a 30), .ref (a 32), .int m.1, .int m.2.1, .int m.2.2.1, .int m.2.2.2]))
def wXi (a : Nat → Nat) (m : Int32 × Int32 × Int32) : Nat × va_E := (a 32, .inr (1, [.ref (a 33), .ref (a 38), .int m.1, .int m.2.1, .int m.2.2]))
def wXn (E : Ev) (a : Nat → Nat) (f : Nat → Int32) : Nat × va_E := (a 3, .inl (E.cI, 6, .inl f))
/-- the addresses from k on -/
abbrev sh (a : Nat → Nat) (k : Nat) : Nat → Nat := fun i => a (k + i)
def wX (E : Ev) (a : Nat → Nat) (x : Xc) : va_W := wXm a x.1 :: (wP E (sh a 1) x.2.1 ++ (wXn E a x.2.2.1 :: (wS E (sh a 4) x.2.2.2.1 ++ (wS E (sh a 11) x.2.2.2.2.1 ++ (wS E (sh a 18) x.2.2.2.2.2.1 ++ (wH E (sh a 25) x.2.2.2.2.2.2.1 ++ (wT E (sh a 30) x.2.2.2.2.2.2.2.1 ++ (wXi a x.2.2.2.2.2.2.2.2.1 :: (wH E (sh a 33) x.2.2.2.2.2.2.2.2.2.1 ++ wT E (sh a 38) x.2.2.2.2.2.2.2.2.2.2)))))))))
/-- the reference: persistent ints (world, sayings, words, otherWords, hearers, rounds, told, asks, pageLength), persistent rows (senseOf, wordOf, joinOf, otherWord, otherJoin, kindOf, factOf, valueOf, changesOf, toldOf, page),
    reading a text (faultAt, isWhole, newWords, newWord, newJoin), laying (readings, soOf, value, joining), takesOf, (seedNow, h), image (isKept, keptWorld, keptHearers, keptRounds, keptTold, keptChanges, keptToldOf) -/
abbrev Mc : Type := (Int32 × Int32 × Int32 × Int32 × Int32 × Int32 × Int32 × Int32 × Int32) × ((Nat → Int32) × (Nat → Int32) × (Nat → Int32) × (Nat → Int32) × (Nat → Int32) × (Nat → Int32) × (Nat → Int32) × (Nat → Int32) × (Nat → Int32) × (Nat → Int32) × (Nat → Int32)) ×
  (Int32 × Int32 × Int32 × (Nat → Int32) × (Nat → Int32)) × (Int32 × (Nat → Int64) × (Nat → Int64) × (Nat → Int32)) × (Nat → Int32) × (Int64 × Int64) × (Int32 × Int32 × Int32 × Int32 × Int32 × (Nat → Int32) × (Nat → Int32))
def wM (E : Ev) (a : Nat → Nat) (x : Mc) : va_W := [(a 0, .inr (6, [.int x.1.1, .int x.1.2.1, .ref (a 1), .int x.1.2.2.1, .ref (a 2), .ref (a 3), .int x.1.2.2.2.1, .ref (a 4), .ref (a 5), .int x.1.2.2.2.2.1, .ref (a 6), .ref (a 7), .ref (a 8), .ref (a 9), .int x.1.2.2.2.2.2.1, .int x.1.2.2.2.2.2.2.1, .ref (a 10), .int x.1.2.2.2.2.2.2.2.1, .int x.1.2.2.2.2.2.2.2.2, .ref (a 11),
    .int x.2.2.1.1, .int x.2.2.1.2.1, .int x.2.2.1.2.2.1, .ref (a 12), .ref (a 13), .int x.2.2.2.1.1, .ref (a 14), .ref (a 15), .ref (a 16), .ref (a 17), .long x.2.2.2.2.2.1.1, .int x.2.2.2.2.2.2.1, .int x.2.2.2.2.2.2.2.1, .int x.2.2.2.2.2.2.2.2.1, .int x.2.2.2.2.2.2.2.2.2.1, .int x.2.2.2.2.2.2.2.2.2.2.1, .ref (a 18), .ref (a 19), .long x.2.2.2.2.2.1.2])),
  (a 1, .inl (E.cI, 6, .inl x.2.1.1)), (a 2, .inl (E.cI, 5, .inl x.2.1.2.1)), (a 3, .inl (E.cI, 4, .inl x.2.1.2.2.1)), (a 4, .inl (E.cI, 5, .inl x.2.1.2.2.2.1)), (a 5, .inl (E.cI, 4, .inl x.2.1.2.2.2.2.1)), (a 6, .inl (E.cI, 4, .inl x.2.1.2.2.2.2.2.1)), (a 7, .inl (E.cI, 4, .inl x.2.1.2.2.2.2.2.2.1)), (a 8, .inl (E.cI, 4, .inl x.2.1.2.2.2.2.2.2.2.1)), (a 9, .inl (E.cI, 4, .inl x.2.1.2.2.2.2.2.2.2.2.1)), (a 10, .inl (E.cI, 6, .inl x.2.1.2.2.2.2.2.2.2.2.2.1)), (a 11, .inl (E.cB, 14, .inl x.2.1.2.2.2.2.2.2.2.2.2.2)),
  (a 12, .inl (E.cI, 5, .inl x.2.2.1.2.2.2.1)), (a 13, .inl (E.cI, 5, .inl x.2.2.1.2.2.2.2)), (a 14, .inl (E.cJ, 640, .inr (.inl x.2.2.2.1.2.1))), (a 15, .inl (E.cJ, 4, .inr (.inl x.2.2.2.1.2.2.1))), (a 16, .inl (E.cI, 4, .inl x.2.2.2.1.2.2.2)), (a 17, .inl (E.cI, 4, .inl x.2.2.2.2.1)), (a 18, .inl (E.cI, 4, .inl x.2.2.2.2.2.2.2.2.2.2.2.1)), (a 19, .inl (E.cI, 6, .inl x.2.2.2.2.2.2.2.2.2.2.2.2))]
/-! posts -/
abbrev pI {T : Type} (q : Int32 → T → Prop) : Option Value → T → Prop := fun v s => ∃ r, v = some (.int r) ∧ q r s
abbrev pL {T : Type} (q : Int64 → T → Prop) : Option Value → T → Prop := fun v s => ∃ r, v = some (.long r) ∧ q r s
abbrev pV {T : Type} (q : T → Prop) : Option Value → T → Prop := fun v s => v = none ∧ q s
/-- the world anew, by places -/
theorem Wo.re {T T' : Type} {E : Ev} {w : T → va_W} {w' : T' → va_W} {σ : T} {σ' : T'} (is : List Nat) (hn : va_nd is = true) (hs : is.map (fun i => (w σ)[i]?) = (w' σ').map some) (H : Heap) (h : Wo E w σ H) : Wo E w' σ' H := by
  refine ⟨h.1.sub is ?_, h.2.sub is hn hs⟩
  have e : ∀ (l : List Nat) (m : va_W), l.map (fun i => (w σ)[i]?) = m.map some → l.filterMap (fun i => (w σ)[i]?) = m := by
    intro l
    induction l with
    | nil => intro m hm; cases m with
      | nil => rfl
      | cons a m => simp at hm
    | cons i l ih => intro m hm; cases m with
      | nil => simp at hm
      | cons a m =>
        simp only [List.map_cons, List.cons.injEq] at hm
        rw [List.filterMap_cons, hm.1]
        exact congrArg (a :: ·) (ih m hm.2)
  exact e is _ hs

theorem va_D_nd {A : Nat → Prop} {ws : va_W} : va_D A ws ↔ (ws.map (fun q => q.1)).Nodup ∧ ∀ q ∈ ws, A q.1 := by
  constructor
  · intro h
    refine ⟨?_, fun q hq => ?_⟩
    · refine List.pairwise_iff_getElem.mpr (fun i j hi hj hij e => ?_)
      rw [List.length_map] at hi hj
      rw [List.getElem_map, List.getElem_map] at e
      have := h.1 i j _ _ (List.getElem?_eq_getElem hi) (List.getElem?_eq_getElem hj) e
      omega
    · obtain ⟨i, hi⟩ := List.getElem?_of_mem hq
      exact h.2 i q hi
  · intro h
    refine ⟨fun i j p q hi hj e => ?_, fun k q hk => h.2 q (List.mem_of_getElem? hk)⟩
    obtain ⟨hi1, hi2⟩ := List.getElem?_eq_some_iff.mp hi
    obtain ⟨hj1, hj2⟩ := List.getElem?_eq_some_iff.mp hj
    have hp := List.pairwise_iff_getElem.mp h.1
    rcases Nat.lt_trichotomy i j with q1 | q1 | q1
    · exact absurd (by rw [List.getElem_map, List.getElem_map, hi2, hj2]; exact e) (hp i j (by rw [List.length_map]; exact hi1) (by rw [List.length_map]; exact hj1) q1)
    · exact q1
    · exact absurd (by rw [List.getElem_map, List.getElem_map, hi2, hj2]; exact e.symm) (hp j i (by rw [List.length_map]; exact hj1) (by rw [List.length_map]; exact hi1) q1)
theorem Wo.perm {T T' : Type} {E : Ev} {w : T → va_W} {w' : T' → va_W} {σ : T} {σ' : T'} (p : (w σ).Perm (w' σ')) {H : Heap} (h : Wo E w σ H) : Wo E w' σ' H := by
  refine ⟨fun k q hk => ?_, ?_⟩
  · obtain ⟨i, hi⟩ := List.getElem?_of_mem (p.mem_iff.mpr (List.mem_of_getElem? hk))
    exact h.1 i q hi
  · have h2 := va_D_nd.mp h.2
    exact va_D_nd.mpr ⟨(p.map (fun q => q.1)).nodup_iff.mp h2.1, fun q hq => h2.2 q (p.mem_iff.mpr hq)⟩
/-- two parts of a world change places -/
theorem Wo.swap {T T' : Type} {E : Ev} {w : T → va_W} {w' : T' → va_W} {σ : T} {σ' : T'} (u v R : va_W) (e : w σ = u ++ (v ++ R)) (e' : w' σ' = v ++ (u ++ R)) {H : Heap} (h : Wo E w σ H) : Wo E w' σ' H :=
  Wo.perm (by rw [e, e']; exact List.perm_append_comm_assoc u v R) h
end
section
set_option maxRecDepth 100000 in
set_option maxHeartbeats 4000000 in
theorem c_X5_isFact (l : Launch) (E : Ev) {T : Type} (w : T → va_W) (σ : T) (p0 : Int32)  : Ctr l yX5_isFact cX5_isFact 1 (some .boolean) 0 0 E (w) [.int p0] σ (fun v s => v = some (.int (if 0 ≤ p0 ∧ p0 < 6 then 1 else 0)) ∧ s = σ) := by
  refine Ctr.of' (by decide +kernel) (Nat.le_of_ble_eq_true rfl) (fun X P0 hP0 O => ?_)
  refine g_sub [0] (lv' := [(0, .int p0)]) rfl ?_
  refine g_iload_n 0 O dX5_isFact_0 rfl 0 rfl ?_
  refine g_if_lt 1 O 14 dX5_isFact_1 (by decide) (fun h1 => ?_) (fun h1 => ?_)
  · -- taken
    refine g_iconst 14 O (v := 0) dX5_isFact_14 (by decide) ?_
    exact g_zret (by first | rfl | decide) 15 O dX5_isFact_15 (by rw [hP0]; exact ⟨by rw [if_neg (fun q => Int32.not_le.mpr h1 q.1)], rfl⟩)
  · -- not taken
    refine g_iload_n 4 O dX5_isFact_4 rfl 0 rfl ?_
    refine g_bipush 5 O (v := 6) dX5_isFact_5 (by decide) ?_
    refine g_icmp_ge 7 O 14 dX5_isFact_7 (by decide) (fun h7 => ?_) (fun h7 => ?_)
    · -- taken
      refine g_iconst 14 O (v := 0) dX5_isFact_14 (by decide) ?_
      exact g_zret (by first | rfl | decide) 15 O dX5_isFact_15 (by rw [hP0]; exact ⟨by rw [if_neg (fun q => Int32.not_lt.mpr h7 q.2)], rfl⟩)
    · -- not taken
      refine g_iconst 10 O (v := 1) dX5_isFact_10 (by decide) ?_
      refine g_goto 11 O 15 dX5_isFact_11 (by decide) ?_
      exact g_zret (by first | rfl | decide) 15 O dX5_isFact_15 (by rw [hP0]; exact ⟨by rw [if_pos (⟨Int32.not_lt.mp h1, Int32.not_le.mp h7⟩)], rfl⟩)

set_option maxRecDepth 100000 in
set_option maxHeartbeats 4000000 in
theorem c_X5_isWorld (l : Launch) (E : Ev) {T : Type} (w : T → va_W) (σ : T) (p0 : Int32)  : Ctr l yX5_isWorld cX5_isWorld 1 (some .boolean) 0 0 E (w) [.int p0] σ (fun v s => v = some (.int (if 0 ≤ p0 ∧ p0 < 64 then 1 else 0)) ∧ s = σ) := by
  refine Ctr.of' (by decide +kernel) (Nat.le_of_ble_eq_true rfl) (fun X P0 hP0 O => ?_)
  refine g_sub [0] (lv' := [(0, .int p0)]) rfl ?_
  refine g_iload_n 0 O dX5_isWorld_0 rfl 0 rfl ?_
  refine g_if_lt 1 O 14 dX5_isWorld_1 (by decide) (fun h1 => ?_) (fun h1 => ?_)
  · -- taken
    refine g_iconst 14 O (v := 0) dX5_isWorld_14 (by decide) ?_
    exact g_zret (by first | rfl | decide) 15 O dX5_isWorld_15 (by rw [hP0]; exact ⟨by rw [if_neg (fun q => Int32.not_le.mpr h1 q.1)], rfl⟩)
  · -- not taken
    refine g_iload_n 4 O dX5_isWorld_4 rfl 0 rfl ?_
    refine g_bipush 5 O (v := 64) dX5_isWorld_5 (by decide) ?_
    refine g_icmp_ge 7 O 14 dX5_isWorld_7 (by decide) (fun h7 => ?_) (fun h7 => ?_)
    · -- taken
      refine g_iconst 14 O (v := 0) dX5_isWorld_14 (by decide) ?_
      exact g_zret (by first | rfl | decide) 15 O dX5_isWorld_15 (by rw [hP0]; exact ⟨by rw [if_neg (fun q => Int32.not_lt.mpr h7 q.2)], rfl⟩)
    · -- not taken
      refine g_iconst 10 O (v := 1) dX5_isWorld_10 (by decide) ?_
      refine g_goto 11 O 15 dX5_isWorld_11 (by decide) ?_
      exact g_zret (by first | rfl | decide) 15 O dX5_isWorld_15 (by rw [hP0]; exact ⟨by rw [if_pos (⟨Int32.not_lt.mp h1, Int32.not_le.mp h7⟩)], rfl⟩)

set_option maxRecDepth 100000 in
set_option maxHeartbeats 4000000 in
theorem c_X5_isKind (l : Launch) (E : Ev) {T : Type} (w : T → va_W) (σ : T) (p0 : Int32)  : Ctr l yX5_isKind cX5_isKind 1 (some .boolean) 0 0 E (w) [.int p0] σ (fun v s => v = some (.int (if 0 ≤ p0 ∧ p0 ≤ 4 then 1 else 0)) ∧ s = σ) := by
  refine Ctr.of' (by decide +kernel) (Nat.le_of_ble_eq_true rfl) (fun X P0 hP0 O => ?_)
  refine g_sub [0] (lv' := [(0, .int p0)]) rfl ?_
  refine g_iload_n 0 O dX5_isKind_0 rfl 0 rfl ?_
  refine g_if_lt 1 O 13 dX5_isKind_1 (by decide) (fun h1 => ?_) (fun h1 => ?_)
  · -- taken
    refine g_iconst 13 O (v := 0) dX5_isKind_13 (by decide) ?_
    exact g_zret (by first | rfl | decide) 14 O dX5_isKind_14 (by rw [hP0]; exact ⟨by rw [if_neg (fun q => Int32.not_le.mpr h1 q.1)], rfl⟩)
  · -- not taken
    refine g_iload_n 4 O dX5_isKind_4 rfl 0 rfl ?_
    refine g_iconst 5 O (v := 4) dX5_isKind_5 (by decide) ?_
    refine g_icmp_gt 6 O 13 dX5_isKind_6 (by decide) (fun h6 => ?_) (fun h6 => ?_)
    · -- taken
      refine g_iconst 13 O (v := 0) dX5_isKind_13 (by decide) ?_
      exact g_zret (by first | rfl | decide) 14 O dX5_isKind_14 (by rw [hP0]; exact ⟨by rw [if_neg (fun q => Int32.not_le.mpr h6 q.2)], rfl⟩)
    · -- not taken
      refine g_iconst 9 O (v := 1) dX5_isKind_9 (by decide) ?_
      refine g_goto 10 O 14 dX5_isKind_10 (by decide) ?_
      exact g_zret (by first | rfl | decide) 14 O dX5_isKind_14 (by rw [hP0]; exact ⟨by rw [if_pos (⟨Int32.not_lt.mp h1, Int32.not_lt.mp h6⟩)], rfl⟩)

set_option maxRecDepth 100000 in
set_option maxHeartbeats 4000000 in
theorem c_X2_isWordLetter (l : Launch) (E : Ev) {T : Type} (w : T → va_W) (σ : T) (p0 : Int32)  : Ctr l yX2_isWordLetter cX2_isWordLetter 1 (some .boolean) 0 0 E (w) [.int p0] σ (fun v s => v = some (.int (if 97 ≤ p0 ∧ p0 ≤ 102 then 1 else 0)) ∧ s = σ) := by
  refine Ctr.of' (by decide +kernel) (Nat.le_of_ble_eq_true rfl) (fun X P0 hP0 O => ?_)
  refine g_sub [0] (lv' := [(0, .int p0)]) rfl ?_
  refine g_iload_n 0 O dX2_isWordLetter_0 rfl 0 rfl ?_
  refine g_bipush 1 O (v := 97) dX2_isWordLetter_1 (by decide) ?_
  refine g_icmp_lt 3 O 16 dX2_isWordLetter_3 (by decide) (fun h3 => ?_) (fun h3 => ?_)
  · -- taken
    refine g_iconst 16 O (v := 0) dX2_isWordLetter_16 (by decide) ?_
    exact g_zret (by first | rfl | decide) 17 O dX2_isWordLetter_17 (by rw [hP0]; exact ⟨by rw [if_neg (fun q => Int32.not_le.mpr h3 q.1)], rfl⟩)
  · -- not taken
    refine g_iload_n 6 O dX2_isWordLetter_6 rfl 0 rfl ?_
    refine g_bipush 7 O (v := 102) dX2_isWordLetter_7 (by decide) ?_
    refine g_icmp_gt 9 O 16 dX2_isWordLetter_9 (by decide) (fun h9 => ?_) (fun h9 => ?_)
    · -- taken
      refine g_iconst 16 O (v := 0) dX2_isWordLetter_16 (by decide) ?_
      exact g_zret (by first | rfl | decide) 17 O dX2_isWordLetter_17 (by rw [hP0]; exact ⟨by rw [if_neg (fun q => Int32.not_le.mpr h9 q.2)], rfl⟩)
    · -- not taken
      refine g_iconst 12 O (v := 1) dX2_isWordLetter_12 (by decide) ?_
      refine g_goto 13 O 17 dX2_isWordLetter_13 (by decide) ?_
      exact g_zret (by first | rfl | decide) 17 O dX2_isWordLetter_17 (by rw [hP0]; exact ⟨by rw [if_pos (⟨Int32.not_lt.mp h3, Int32.not_lt.mp h9⟩)], rfl⟩)

set_option maxRecDepth 100000 in
set_option maxHeartbeats 4000000 in
theorem c_X6_within (l : Launch) (E : Ev) {T : Type} (w : T → va_W) (σ : T) (p0 p1 p2 : Int32)  : Ctr l yX6_within cX6_within 3 (some .boolean) 0 0 E (w) [.int p0, .int p1, .int p2] σ (fun v s => v = some (.int (if p1 ≤ p0 ∧ p0 ≤ p2 then 1 else 0)) ∧ s = σ) := by
  refine Ctr.of' (by decide +kernel) (Nat.le_of_ble_eq_true rfl) (fun X P0 hP0 O => ?_)
  refine g_sub [0, 1, 2] (lv' := [(0, .int p0), (1, .int p1), (2, .int p2)]) rfl ?_
  refine g_iload_n 0 O dX6_within_0 rfl 0 rfl ?_
  refine g_iload_n 1 O dX6_within_1 rfl 1 rfl ?_
  refine g_icmp_lt 2 O 14 dX6_within_2 (by decide) (fun h2 => ?_) (fun h2 => ?_)
  · -- taken
    refine g_iconst 14 O (v := 0) dX6_within_14 (by decide) ?_
    exact g_zret (by first | rfl | decide) 15 O dX6_within_15 (by rw [hP0]; exact ⟨by rw [if_neg (fun q => Int32.not_le.mpr h2 q.1)], rfl⟩)
  · -- not taken
    refine g_iload_n 5 O dX6_within_5 rfl 0 rfl ?_
    refine g_iload_n 6 O dX6_within_6 rfl 2 rfl ?_
    refine g_icmp_gt 7 O 14 dX6_within_7 (by decide) (fun h7 => ?_) (fun h7 => ?_)
    · -- taken
      refine g_iconst 14 O (v := 0) dX6_within_14 (by decide) ?_
      exact g_zret (by first | rfl | decide) 15 O dX6_within_15 (by rw [hP0]; exact ⟨by rw [if_neg (fun q => Int32.not_le.mpr h7 q.2)], rfl⟩)
    · -- not taken
      refine g_iconst 10 O (v := 1) dX6_within_10 (by decide) ?_
      refine g_goto 11 O 15 dX6_within_11 (by decide) ?_
      exact g_zret (by first | rfl | decide) 15 O dX6_within_15 (by rw [hP0]; exact ⟨by rw [if_pos (⟨Int32.not_lt.mp h2, Int32.not_lt.mp h7⟩)], rfl⟩)

set_option maxRecDepth 100000 in
set_option maxHeartbeats 4000000 in
theorem c_X5_isValue (l : Launch) (E : Ev) {T : Type} (w : T → va_W) (σ : T) (p0 : Int32)  : Ctr l yX5_isValue cX5_isValue 1 (some .boolean) 0 0 E (w) [.int p0] σ (fun v s => v = some (.int (if p0 = 0 ∨ p0 = 1 then 1 else 0)) ∧ s = σ) := by
  refine Ctr.of' (by decide +kernel) (Nat.le_of_ble_eq_true rfl) (fun X P0 hP0 O => ?_)
  refine g_sub [0] (lv' := [(0, .int p0)]) rfl ?_
  refine g_iload_n 0 O dX5_isValue_0 rfl 0 rfl ?_
  refine g_if_eq 1 O 9 dX5_isValue_1 (by decide) (fun h1 => ?_) (fun h1 => ?_)
  · -- taken
    refine g_iconst 9 O (v := 1) dX5_isValue_9 (by decide) ?_
    refine g_goto 10 O 14 dX5_isValue_10 (by decide) ?_
    exact g_zret (by first | rfl | decide) 14 O dX5_isValue_14 (by rw [hP0]; exact ⟨by rw [if_pos (Or.inl h1)], rfl⟩)
  · -- not taken
    refine g_iload_n 4 O dX5_isValue_4 rfl 0 rfl ?_
    refine g_iconst 5 O (v := 1) dX5_isValue_5 (by decide) ?_
    refine g_icmp_ne 6 O 13 dX5_isValue_6 (by decide) (fun h6 => ?_) (fun h6 => ?_)
    · -- taken
      refine g_iconst 13 O (v := 0) dX5_isValue_13 (by decide) ?_
      exact g_zret (by first | rfl | decide) 14 O dX5_isValue_14 (by rw [hP0]; exact ⟨by rw [if_neg (fun q => q.elim h1 h6)], rfl⟩)
    · -- not taken
      refine g_iconst 9 O (v := 1) dX5_isValue_9 (by decide) ?_
      refine g_goto 10 O 14 dX5_isValue_10 (by decide) ?_
      exact g_zret (by first | rfl | decide) 14 O dX5_isValue_14 (by rw [hP0]; exact ⟨by rw [if_pos (Or.inr h6)], rfl⟩)

set_option maxRecDepth 100000 in
set_option maxHeartbeats 4000000 in
theorem c_X2_isJoining (l : Launch) (E : Ev) {T : Type} (w : T → va_W) (σ : T) (p0 : Int32)  : Ctr l yX2_isJoining cX2_isJoining 1 (some .boolean) 0 0 E (w) [.int p0] σ (fun v s => v = some (.int (if p0 = 38 ∨ p0 = 43 then 1 else 0)) ∧ s = σ) := by
  refine Ctr.of' (by decide +kernel) (Nat.le_of_ble_eq_true rfl) (fun X P0 hP0 O => ?_)
  refine g_sub [0] (lv' := [(0, .int p0)]) rfl ?_
  refine g_iload_n 0 O dX2_isJoining_0 rfl 0 rfl ?_
  refine g_bipush 1 O (v := 38) dX2_isJoining_1 (by decide) ?_
  refine g_icmp_eq 3 O 12 dX2_isJoining_3 (by decide) (fun h3 => ?_) (fun h3 => ?_)
  · -- taken
    refine g_iconst 12 O (v := 1) dX2_isJoining_12 (by decide) ?_
    refine g_goto 13 O 17 dX2_isJoining_13 (by decide) ?_
    exact g_zret (by first | rfl | decide) 17 O dX2_isJoining_17 (by rw [hP0]; exact ⟨by rw [if_pos (Or.inl h3)], rfl⟩)
  · -- not taken
    refine g_iload_n 6 O dX2_isJoining_6 rfl 0 rfl ?_
    refine g_bipush 7 O (v := 43) dX2_isJoining_7 (by decide) ?_
    refine g_icmp_ne 9 O 16 dX2_isJoining_9 (by decide) (fun h9 => ?_) (fun h9 => ?_)
    · -- taken
      refine g_iconst 16 O (v := 0) dX2_isJoining_16 (by decide) ?_
      exact g_zret (by first | rfl | decide) 17 O dX2_isJoining_17 (by rw [hP0]; exact ⟨by rw [if_neg (fun q => q.elim h3 h9)], rfl⟩)
    · -- not taken
      refine g_iconst 12 O (v := 1) dX2_isJoining_12 (by decide) ?_
      refine g_goto 13 O 17 dX2_isJoining_13 (by decide) ?_
      exact g_zret (by first | rfl | decide) 17 O dX2_isJoining_17 (by rw [hP0]; exact ⟨by rw [if_pos (Or.inr h9)], rfl⟩)

set_option maxRecDepth 100000 in
set_option maxHeartbeats 4000000 in
theorem c_X5_isOfKind (l : Launch) (E : Ev) {T : Type} (w : T → va_W) (σ : T) (p0 p1 : Int32)  : Ctr l yX5_isOfKind cX5_isOfKind 2 (some .boolean) 0 0 E (w) [.int p0, .int p1] σ (fun v s => v = some (.int (if p1 = 0 ∨ p1 = p0 ∨ (p1 = 3 ∧ p0 = 4) then 1 else 0)) ∧ s = σ) := by
  refine Ctr.of' (by decide +kernel) (Nat.le_of_ble_eq_true rfl) (fun X P0 hP0 O => ?_)
  refine g_sub [0, 1] (lv' := [(0, .int p0), (1, .int p1)]) rfl ?_
  refine g_iload_n 0 O dX5_isOfKind_0 rfl 1 rfl ?_
  refine g_if_eq 1 O 19 dX5_isOfKind_1 (by decide) (fun h1 => ?_) (fun h1 => ?_)
  · -- taken
    refine g_iconst 19 O (v := 1) dX5_isOfKind_19 (by decide) ?_
    refine g_goto 20 O 24 dX5_isOfKind_20 (by decide) ?_
    exact g_zret (by first | rfl | decide) 24 O dX5_isOfKind_24 (by rw [hP0]; exact ⟨by rw [if_pos (Or.inl h1)], rfl⟩)
  · -- not taken
    refine g_iload_n 4 O dX5_isOfKind_4 rfl 1 rfl ?_
    refine g_iload_n 5 O dX5_isOfKind_5 rfl 0 rfl ?_
    refine g_icmp_eq 6 O 19 dX5_isOfKind_6 (by decide) (fun h6 => ?_) (fun h6 => ?_)
    · -- taken
      refine g_iconst 19 O (v := 1) dX5_isOfKind_19 (by decide) ?_
      refine g_goto 20 O 24 dX5_isOfKind_20 (by decide) ?_
      exact g_zret (by first | rfl | decide) 24 O dX5_isOfKind_24 (by rw [hP0]; exact ⟨by rw [if_pos (Or.inr (Or.inl h6))], rfl⟩)
    · -- not taken
      refine g_iload_n 9 O dX5_isOfKind_9 rfl 1 rfl ?_
      refine g_iconst 10 O (v := 3) dX5_isOfKind_10 (by decide) ?_
      refine g_icmp_ne 11 O 23 dX5_isOfKind_11 (by decide) (fun h11 => ?_) (fun h11 => ?_)
      · -- taken
        refine g_iconst 23 O (v := 0) dX5_isOfKind_23 (by decide) ?_
        exact g_zret (by first | rfl | decide) 24 O dX5_isOfKind_24 (by rw [hP0]; exact ⟨by rw [if_neg (fun q => q.elim h1 (fun q => q.elim h6 (fun q => h11 q.1)))], rfl⟩)
      · -- not taken
        refine g_iload_n 14 O dX5_isOfKind_14 rfl 0 rfl ?_
        refine g_iconst 15 O (v := 4) dX5_isOfKind_15 (by decide) ?_
        refine g_icmp_ne 16 O 23 dX5_isOfKind_16 (by decide) (fun h16 => ?_) (fun h16 => ?_)
        · -- taken
          refine g_iconst 23 O (v := 0) dX5_isOfKind_23 (by decide) ?_
          exact g_zret (by first | rfl | decide) 24 O dX5_isOfKind_24 (by rw [hP0]; exact ⟨by rw [if_neg (fun q => q.elim h1 (fun q => q.elim h6 (fun q => h16 q.2)))], rfl⟩)
        · -- not taken
          refine g_iconst 19 O (v := 1) dX5_isOfKind_19 (by decide) ?_
          refine g_goto 20 O 24 dX5_isOfKind_20 (by decide) ?_
          exact g_zret (by first | rfl | decide) 24 O dX5_isOfKind_24 (by rw [hP0]; exact ⟨by rw [if_pos (Or.inr (Or.inr ⟨h11, h16⟩))], rfl⟩)

set_option maxRecDepth 100000 in
set_option maxHeartbeats 4000000 in
theorem c_X5_bitOf (l : Launch) (E : Ev) {T : Type} (w : T → va_W) (σ : T) (p0 : Int64) (p1 : Int32)  : Ctr l yX5_bitOf cX5_bitOf 3 (some .int) 0 0 E (w) [.long p0, .int p1] σ (fun v s => v = some (.int (((p0.toUInt64 >>> (p1.toInt64.toUInt64 &&& Int64.toUInt64 63)).toInt64 &&& 1).toInt32)) ∧ s = σ) := by
  refine Ctr.of' (by decide +kernel) (Nat.le_of_ble_eq_true rfl) (fun X P0 hP0 O => ?_)
  refine g_sub [0, 1] (lv' := [(0, .long p0), (2, .int p1)]) rfl ?_
  refine g_lload_n 0 O dX5_bitOf_0 rfl 0 rfl ?_
  refine g_iload_n 1 O dX5_bitOf_1 rfl 1 rfl ?_
  refine g_lushr 2 O dX5_bitOf_2 ?_
  refine g_lconst 3 O (v := 1) dX5_bitOf_3 (by decide) ?_
  refine g_land 4 O dX5_bitOf_4 ?_
  refine g_l2i 5 O dX5_bitOf_5 ?_
  exact g_iret 6 O dX5_bitOf_6 (by rw [hP0]; exact ⟨rfl, rfl⟩)

set_option maxRecDepth 100000 in
set_option maxHeartbeats 4000000 in
theorem c_X5_withFact (l : Launch) (E : Ev) {T : Type} (w : T → va_W) (σ : T) (p0 p1 p2 : Int32)  : Ctr l yX5_withFact cX5_withFact 3 (some .int) 0 0 E (w) [.int p0, .int p1, .int p2] σ (fun v s => v = some (.int (p0 &&& ((1 <<< (p1 &&& 31)) ^^^ (-1)) ||| p2 <<< (p1 &&& 31))) ∧ s = σ) := by
  refine Ctr.of' (by decide +kernel) (Nat.le_of_ble_eq_true rfl) (fun X P0 hP0 O => ?_)
  refine g_sub [0, 1, 2] (lv' := [(0, .int p0), (1, .int p1), (2, .int p2)]) rfl ?_
  refine g_iload_n 0 O dX5_withFact_0 rfl 0 rfl ?_
  refine g_iconst 1 O (v := 1) dX5_withFact_1 (by decide) ?_
  refine g_iload_n 2 O dX5_withFact_2 rfl 1 rfl ?_
  refine g_ishl 3 O dX5_withFact_3 ?_
  refine g_iconst 4 O (v := (-1)) dX5_withFact_4 (by decide) ?_
  refine g_ixor 5 O dX5_withFact_5 ?_
  refine g_iand 6 O dX5_withFact_6 ?_
  refine g_iload_n 7 O dX5_withFact_7 rfl 2 rfl ?_
  refine g_iload_n 8 O dX5_withFact_8 rfl 1 rfl ?_
  refine g_ishl 9 O dX5_withFact_9 ?_
  refine g_ior 10 O dX5_withFact_10 ?_
  exact g_iret 11 O dX5_withFact_11 (by rw [hP0]; exact ⟨rfl, rfl⟩)

set_option maxRecDepth 100000 in
set_option maxHeartbeats 4000000 in
theorem c_X5_worldsOfFact (l : Launch) (E : Ev) {T : Type} (w : T → va_W) (σ : T) (p0 : Int32) (j : Nat) (hp : p0 = nI j) (hj : j < 6) : Ctr l yX5_worldsOfFact cX5_worldsOfFact 1 (some .long) 0 0 E (w) [.int p0] σ (fun v s => v = some (.long (Wf j)) ∧ s = σ) := by
  refine Ctr.of' (by decide +kernel) (Nat.le_of_ble_eq_true rfl) (fun X P0 hP0 O => ?_)
  refine g_sub [0] (lv' := [(0, .int p0)]) rfl ?_
  refine g_iload_n 0 O dX5_worldsOfFact_0 rfl 0 rfl ?_
  refine g_if_lt 1 O 20 dX5_worldsOfFact_1 (by decide) (fun h1 => False.elim (absurd h1 (by rw [hp]; exact nI_pos (by omega)))) (fun h1 => ?_)
  refine g_iload_n 4 O dX5_worldsOfFact_4 rfl 0 rfl ?_
  refine g_gets 5 O dX5_worldsOfFact_5 ?_
  refine g_tlen 8 O dX5_worldsOfFact_8 ?_
  refine g_icmp_ge 9 O 20 dX5_worldsOfFact_9 (by decide) (fun h9 => False.elim (absurd h9 (by rw [hp]; exact nI_ge hj (by decide)))) (fun h9 => ?_)
  refine g_gets 12 O dX5_worldsOfFact_12 ?_
  refine g_iload_n 15 O dX5_worldsOfFact_15 rfl 0 rfl ?_
  refine g_tl 16 O j (hp) (hj) dX5_worldsOfFact_16 ?_
  refine g_goto 17 O 21 dX5_worldsOfFact_17 (by decide) ?_
  exact g_lret 21 O dX5_worldsOfFact_21 (by rw [hP0]; exact ⟨rfl, rfl⟩)

set_option maxRecDepth 100000 in
set_option maxHeartbeats 4000000 in
theorem c_X5_nextSeed (l : Launch) (E : Ev) {T : Type} (w : T → va_W) (σ : T) (p0 : Int32)  : Ctr l yX5_nextSeed cX5_nextSeed 1 (some .int) 0 0 E (w) [.int p0] σ (fun v s => v = some (.int (((1103515245 * p0.toInt64 + 12345) &&& 2147483647).toInt32)) ∧ s = σ) := by
  refine Ctr.of' (by decide +kernel) (Nat.le_of_ble_eq_true rfl) (fun X P0 hP0 O => ?_)
  refine g_sub [0] (lv' := [(0, .int p0)]) rfl ?_
  refine g_ldc2 0 O (v := 1103515245) dX5_nextSeed_0 kk_X5_325 ?_
  refine g_iload_n 3 O dX5_nextSeed_3 rfl 0 rfl ?_
  refine g_i2l 4 O dX5_nextSeed_4 ?_
  refine g_lmul 5 O dX5_nextSeed_5 ?_
  refine g_ldc2 6 O (v := 12345) dX5_nextSeed_6 kk_X5_327 ?_
  refine g_ladd 9 O dX5_nextSeed_9 ?_
  refine g_ldc2 10 O (v := 2147483647) dX5_nextSeed_10 kk_X5_329 ?_
  refine g_land 13 O dX5_nextSeed_13 ?_
  refine g_l2i 14 O dX5_nextSeed_14 ?_
  exact g_iret 15 O dX5_nextSeed_15 (by rw [hP0]; exact ⟨rfl, rfl⟩)

set_option maxRecDepth 100000 in
set_option maxHeartbeats 4000000 in
theorem c_X5_drawOf (l : Launch) (E : Ev) {T : Type} (w : T → va_W) (σ : T) (p0 p1 : Int32) (h0 : ¬ p1 ≤ 0) : Ctr l yX5_drawOf cX5_drawOf 2 (some .int) 0 0 E (w) [.int p0, .int p1] σ (fun v s => v = some (.int (p0 / 65536 - p0 / 65536 / p1 * p1)) ∧ s = σ) := by
  refine Ctr.of' (by decide +kernel) (Nat.le_of_ble_eq_true rfl) (fun X P0 hP0 O => ?_)
  refine g_sub [0, 1] (lv' := [(0, .int p0), (1, .int p1)]) rfl ?_
  refine g_iload_n 0 O dX5_drawOf_0 rfl 1 rfl ?_
  refine g_if_le 1 O 14 dX5_drawOf_1 (by decide) (fun h1 => False.elim (h0 h1)) (fun h1 => ?_)
  refine g_iload_n 4 O dX5_drawOf_4 rfl 0 rfl ?_
  refine g_ldcw 5 O (v := 65536) dX5_drawOf_5 kk_X5_331 ?_
  refine g_idiv 8 O dX5_drawOf_8 (by decide) ?_
  refine g_iload_n 9 O dX5_drawOf_9 rfl 1 rfl ?_
  refine g_irem 10 O dX5_drawOf_10 (fun e => h0 (by rw [e]; decide)) ?_
  refine g_goto 11 O 15 dX5_drawOf_11 (by decide) ?_
  exact g_iret 15 O dX5_drawOf_15 (by rw [hP0]; exact ⟨rfl, rfl⟩)

set_option maxRecDepth 100000 in
set_option maxHeartbeats 4000000 in
theorem c_X5_mixed (l : Launch) (E : Ev) {T : Type} (w : T → va_W) (σ : T) (p0 p1 : Int64)  : Ctr l yX5_mixed cX5_mixed 4 (some .long) 0 0 E (w) [.long p0, .long p1] σ (fun v s => v = some (.long (31 * p0 + p1)) ∧ s = σ) := by
  refine Ctr.of' (by decide +kernel) (Nat.le_of_ble_eq_true rfl) (fun X P0 hP0 O => ?_)
  refine g_sub [0, 1] (lv' := [(0, .long p0), (2, .long p1)]) rfl ?_
  refine g_ldc2 0 O (v := 31) dX5_mixed_0 kk_X5_267 ?_
  refine g_lload_n 3 O dX5_mixed_3 rfl 0 rfl ?_
  refine g_lmul 4 O dX5_mixed_4 ?_
  refine g_lload_n 5 O dX5_mixed_5 rfl 1 rfl ?_
  refine g_ladd 6 O dX5_mixed_6 ?_
  exact g_lret 7 O dX5_mixed_7 (by rw [hP0]; exact ⟨rfl, rfl⟩)

set_option maxRecDepth 100000 in
set_option maxHeartbeats 4000000 in
theorem c_X3_joined (l : Launch) (E : Ev) {T : Type} (w : T → va_W) (σ : T) (p0 p1 : Int32) (p2 p3 : Int64)  : Ctr l yX3_joined cX3_joined 6 (some .long) 0 0 E (w) [.int p0, .int p1, .long p2, .long p3] σ (fun v s => v = some (.long (if p0 &&& (1 <<< (p1 &&& 31)) = 0 then p2 &&& p3 else p2 ||| p3)) ∧ s = σ) := by
  refine Ctr.of' (by decide +kernel) (Nat.le_of_ble_eq_true rfl) (fun X P0 hP0 O => ?_)
  refine g_sub [0, 1, 2, 3] (lv' := [(0, .int p0), (1, .int p1), (2, .long p2), (4, .long p3)]) rfl ?_
  refine g_iload_n 0 O dX3_joined_0 rfl 0 rfl ?_
  refine g_iconst 1 O (v := 1) dX3_joined_1 (by decide) ?_
  refine g_iload_n 2 O dX3_joined_2 rfl 1 rfl ?_
  refine g_ishl 3 O dX3_joined_3 ?_
  refine g_iand 4 O dX3_joined_4 ?_
  refine g_if_eq 5 O 15 dX3_joined_5 (by decide) (fun h5 => ?_) (fun h5 => ?_)
  · -- taken
    refine g_lload_n 15 O dX3_joined_15 rfl 2 rfl ?_
    refine g_lload 16 O dX3_joined_16 3 rfl ?_
    refine g_land 18 O dX3_joined_18 ?_
    exact g_lret 19 O dX3_joined_19 (by rw [hP0]; exact ⟨by rw [if_pos h5], rfl⟩)
  · -- not taken
    refine g_lload_n 8 O dX3_joined_8 rfl 2 rfl ?_
    refine g_lload 9 O dX3_joined_9 3 rfl ?_
    refine g_lor 11 O dX3_joined_11 ?_
    refine g_goto 12 O 19 dX3_joined_12 (by decide) ?_
    exact g_lret 19 O dX3_joined_19 (by rw [hP0]; exact ⟨by rw [if_neg h5], rfl⟩)

set_option maxRecDepth 100000 in
set_option maxHeartbeats 4000000 in
theorem c_X3_truth (l : Launch) (E : Ev) (a : Nat → Nat) (R : va_W) (wd rd wi na : Int32) (so : Int64) (lt ng pl : Nat → Int32) (t1 t2 tr : Nat → Int64) (p0 : Int32) (N k : Nat) (hrd : rd = nI N) (hN : N ≤ 640) (hp : p0 = nI k) (hk : k < N) : Ctr l yX3_truth cX3_truth 2 (some .long) 0 0 E (fun s => wS E a s ++ R) [.ref (a 0), .int p0] (((wd, rd, wi, na, so), lt, ng, pl, t1, t2, tr)) (fun v s => v = some (.long (tr k)) ∧ s = ((wd, rd, wi, na, so), lt, ng, pl, t1, t2, tr)) := by
  refine Ctr.of' (by decide +kernel) (Nat.le_of_ble_eq_true rfl) (fun X P0 hP0 O => ?_)
  refine g_sub [0, 1] (lv' := [(0, .ref (a 0)), (1, .int p0)]) rfl ?_
  refine g_iload_n 0 O dX3_truth_0 rfl 1 rfl ?_
  refine g_if_lt 1 O 30 dX3_truth_1 (by decide) (fun h1 => False.elim (absurd h1 (by rw [hp]; exact nI_pos (by omega)))) (fun h1 => ?_)
  refine g_iload_n 4 O dX3_truth_4 rfl 1 rfl ?_
  refine g_aload_n 5 O dX3_truth_5 rfl 0 rfl ?_
  refine g_get 6 O (v := .int rd) inX3 0 rfl rfl 7 (by decide) kf_X3_36 rfl dX3_truth_6 ?_
  refine g_icmp_ge 9 O 30 dX3_truth_9 (by decide) (fun h9 => False.elim (absurd h9 (by rw [hp, hrd]; exact nI_ge hk (by omega)))) (fun h9 => ?_)
  refine g_iload_n 12 O dX3_truth_12 rfl 1 rfl ?_
  refine g_aload_n 13 O dX3_truth_13 rfl 0 rfl ?_
  refine g_get 14 O (v := .ref (a 6)) inX3 0 rfl rfl 5 (by decide) kf_X3_29 rfl dX3_truth_14 ?_
  refine g_alen 17 O (v := 640) 6 2 rfl rfl rfl dX3_truth_17 ?_
  refine g_icmp_ge 18 O 30 dX3_truth_18 (by decide) (fun h18 => False.elim (absurd h18 (by rw [hp]; exact nI_ge (b := 640) (by omega) (by decide)))) (fun h18 => ?_)
  refine g_aload_n 21 O dX3_truth_21 rfl 0 rfl ?_
  refine g_get 22 O (v := .ref (a 6)) inX3 0 rfl rfl 5 (by decide) kf_X3_29 rfl dX3_truth_22 ?_
  refine g_iload_n 25 O dX3_truth_25 rfl 1 rfl ?_
  refine g_lald 26 O 6 k rfl (hp) (by omega) (by decide) dX3_truth_26 ?_
  refine g_goto 27 O 31 dX3_truth_27 (by decide) ?_
  exact g_lret 31 O dX3_truth_31 (by rw [hP0]; exact ⟨rfl, rfl⟩)
end
section
/-! THE SPEC: what class and reference both say -/
def bi (b : Bool) : Int32 := if b = true then 1 else 0
def tb (x : Int64) (k : Nat) : Bool := x.toBitVec.getLsbD k
/-- how many below n -/
def cn (p : Nat → Bool) : Nat → Nat
  | 0 => 0
  | n + 1 => cn p n + (if p n = true then 1 else 0)
/-- the first place at which p fails, n if there is none below n -/
def fp (p : Nat → Bool) : Nat → Nat
  | 0 => 0
  | n + 1 => if fp p n = n ∧ p n = true then n + 1 else fp p n
/-- the first below n with p as an int, -1 if there is none -/
def fi (p : Nat → Bool) (n : Nat) : Int32 := if fp (fun k => !p k) n < n then nI (fp (fun k => !p k) n) else -1
def orN (f : Nat → Int64) : Nat → Int64
  | 0 => 0
  | n + 1 => orN f n ||| f n
def mx (f : Nat → Nat) : Nat → Nat
  | 0 => 0
  | n + 1 => if f (mx f n) < f n then n else mx f n
def mn (f : Nat → Nat) : Nat → Nat
  | 0 => 0
  | n + 1 => if f n < f (mn f n) then n else mn f n
def pcn (x : Int64) : Nat := cn (tb x) 64
/-- a saying: words, letters, negated, a plus ahead -/
abbrev Sy : Type := Nat × (Nat → Nat) × (Nat → Bool) × (Nat → Bool)
def npl (pl : Nat → Bool) (n : Nat) : Nat := cn (fun k => pl (k + 1)) (n - 1)
def nbr (n : Nat) : Nat := if n = 4 then 5 else if n = 3 then 2 else 1
/-- is joining k (behind word k) OR -/
def jo (pl : Nat → Bool) (way k : Nat) : Bool := pl (k + 1) && way.testBit (cn (fun j => pl (j + 1)) k)
def wt1 (lt : Nat → Nat) (ng : Nat → Bool) (k : Nat) : Int64 := Wf (lt k) ^^^ (if ng k = true then -1 else 0)
def wt2 (sn lt : Nat → Nat) (ng : Nat → Bool) (k : Nat) : Int64 := Wf (sn (lt k)) ^^^ (if ng k = true then -1 else 0)
def wv (sn lt : Nat → Nat) (ng : Nat → Bool) (sec k : Nat) : Int64 := if sec.testBit k = true then wt2 sn lt ng k else wt1 lt ng k
def jn (b : Bool) (x y : Int64) : Int64 := if b = true then x ||| y else x &&& y
def br3 (br : Nat) (o : Nat → Bool) (v : Nat → Int64) : Int64 := if br = 0 then jn (o 1) (jn (o 0) (v 0) (v 1)) (v 2) else jn (o 0) (v 0) (jn (o 1) (v 1) (v 2))
def br4 (br : Nat) (o : Nat → Bool) (v : Nat → Int64) : Int64 := if br = 0 then jn (o 2) (jn (o 1) (jn (o 0) (v 0) (v 1)) (v 2)) (v 3) else if br = 1 then jn (o 2) (jn (o 0) (v 0) (jn (o 1) (v 1) (v 2))) (v 3) else if br = 2 then jn (o 1) (jn (o 0) (v 0) (v 1)) (jn (o 2) (v 2) (v 3)) else if br = 3 then jn (o 0) (v 0) (jn (o 2) (jn (o 1) (v 1) (v 2)) (v 3)) else jn (o 0) (v 0) (jn (o 1) (v 1) (jn (o 2) (v 2) (v 3)))
def brk (n br : Nat) (o : Nat → Bool) (v : Nat → Int64) : Int64 := if n = 1 then v 0 else if n = 2 then jn (o 0) (v 0) (v 1) else if n = 3 then br3 br o v else br4 br o v
def NR (y : Sy) : Nat := if y.1 = 0 then 0 else nbr y.1 * 2 ^ npl y.2.2.2 y.1 * 2 ^ y.1
def TR (sn : Nat → Nat) (y : Sy) (r : Nat) : Int64 := brk y.1 (r / 2 ^ y.1 / 2 ^ npl y.2.2.2 y.1) (jo y.2.2.2 (r / 2 ^ y.1 % 2 ^ npl y.2.2.2 y.1)) (wv sn y.2.1 y.2.2.1 (r % 2 ^ y.1))
/-! reading a text: state 0 (a word is due), 1 (its letter is due), 2 (behind a letter), and how many letters -/
def sp (s : Nat × Nat) (c : Int32) : Option (Nat × Nat) := if s.1 = 2 then (if (c = 38 ∨ c = 43) ∧ s.2 < 4 then some (0, s.2) else none) else if s.1 = 0 ∧ c = 110 then some (1, s.2) else if 97 ≤ c ∧ c ≤ 102 then some (2, s.2 + 1) else none
def rs (cs : Nat → Int32) : Nat → Option (Nat × Nat)
  | 0 => some (0, 0)
  | k + 1 => (rs cs k).bind (fun s => sp s (cs k))
def fsay (cs : Nat → Int32) (n : Nat) : Nat := fp (fun k => (rs cs (k + 1)).isSome) n
def isSay (cs : Nat → Int32) (n : Nat) : Bool := match rs cs n with
  | some s => s.1 == 2
  | none => false
def gse (cs : Nat → Int32) (k : Nat) : Bool := decide (k < 6) && decide (48 ≤ cs k ∧ cs k ≤ 53)
def fsen (cs : Nat → Int32) (n : Nat) : Nat := fp (gse cs) n
def isSen (cs : Nat → Int32) (n : Nat) : Bool := decide (n = 6) && decide (fsen cs n = n)
/-! small facts -/
theorem lt_of_nge {i n : Nat} (hi : i < 2 ^ 31) (h : ¬ nI n ≤ nI i) : i < n := by
  rcases Nat.lt_or_ge i n with q | q
  · exact q
  · exact absurd (nI_le q hi) h
theorem ge_of_le {i n : Nat} (hi : i < 2 ^ 31) (hn : n < 2 ^ 31) (h : nI n ≤ nI i) : n ≤ i := (nI_leI hn hi).mp h
theorem ite_t {c : Prop} [Decidable c] (h : ¬ (if c then (1 : Int32) else 0) = 0) : c := by
  by_cases q : c
  · exact q
  · rw [if_neg q] at h; exact absurd rfl h
theorem ite_f {c : Prop} [Decidable c] (h : (if c then (1 : Int32) else 0) = 0) : ¬ c := by
  intro q
  rw [if_pos q] at h
  exact absurd h (by decide)
theorem bi_t {b : Bool} (h : ¬ bi b = 0) : b = true := ite_t h
theorem bi_f {b : Bool} (h : bi b = 0) : b = false := by
  have := ite_f h
  cases b with
  | true => exact absurd rfl this
  | false => rfl
theorem upd_s (f : Nat → Int32) (k : Nat) (x : Int32) : upd f k x k = x := by simp [upd]
theorem upd_n (f : Nat → Int32) {k j : Nat} (x : Int32) (h : j ≠ k) : upd f k x j = f j := by simp [upd, h]
theorem updL_s (f : Nat → Int64) (k : Nat) (x : Int64) : vp_updL f k x k = x := by simp [vp_updL]
theorem updL_n (f : Nat → Int64) {k j : Nat} (x : Int64) (h : j ≠ k) : vp_updL f k x j = f j := by simp [vp_updL, h]
theorem fp_le (p : Nat → Bool) : ∀ n, fp p n ≤ n
  | 0 => Nat.le_refl _
  | n + 1 => by
    have := fp_le p n
    rw [fp]
    split <;> omega
theorem fp_all {p : Nat → Bool} : ∀ {n : Nat}, (∀ k, k < n → p k = true) → fp p n = n
  | 0, _ => rfl
  | n + 1, h => by rw [fp, if_pos ⟨fp_all (fun k hk => h k (by omega)), h n (by omega)⟩]
theorem fp_stop {p : Nat → Bool} {k : Nat} (h : ∀ j, j < k → p j = true) (hk : p k = false) : ∀ {n : Nat}, k ≤ n → k < n → fp p n = k
  | 0, _, h => by omega
  | n + 1, _, hn => by
    rcases Nat.lt_or_ge k n with q | q
    · have e := fp_stop h hk (n := n) (by omega) q
      rw [fp, if_neg (by rw [e]; omega), e]
    · have e : k = n := by omega
      subst e
      rw [fp, if_neg (by rw [hk]; simp), fp_all h]
theorem rs_none {cs : Nat → Int32} {k : Nat} (h : rs cs k = none) : ∀ {n : Nat}, k ≤ n → rs cs n = none
  | 0, hn => by
    have : k = 0 := by omega
    subst this; exact h
  | n + 1, hn => by
    rcases Nat.lt_or_ge n k with q | q
    · have : k = n + 1 := by omega
      subst this; exact h
    · rw [rs, rs_none h q]; rfl
theorem rs_some {cs : Nat → Int32} {n : Nat} {s : Nat × Nat} (h : rs cs n = some s) (k : Nat) (hk : k < n) : (rs cs (k + 1)).isSome = true := by
  cases e : rs cs (k + 1) with
  | some _ => rfl
  | none => rw [rs_none e (by omega : k + 1 ≤ n)] at h; cases h
theorem fsay_all {cs : Nat → Int32} {n : Nat} {s : Nat × Nat} (h : rs cs n = some s) : fsay cs n = n := fp_all (fun k hk => rs_some h k hk)
theorem fsay_stop {cs : Nat → Int32} {n k : Nat} {s : Nat × Nat} (h : rs cs k = some s) (hn : sp s (cs k) = none) (hk : k < n) : fsay cs n = k := fp_stop (fun j hj => rs_some h j hj) (by rw [rs, h]; simp [hn]) (Nat.le_of_lt hk) hk
theorem rs_go {cs : Nat → Int32} {k : Nat} {s s' : Nat × Nat} (h : rs cs k = some s) (hn : sp s (cs k) = some s') : rs cs (k + 1) = some s' := by rw [rs, h]; exact hn
end
section
set_option maxRecDepth 100000 in
set_option maxHeartbeats 4000000 in
theorem c_X0_has (l : Launch) (E : Ev) (a : Nat → Nat) (R : va_W) (nu : Int32) (ki fa va ch : Nat → Int32) (p0 : Int32) (N : Nat) (hnu : nu = nI N) (hN : N ≤ 4) : Ctr l yX0_has cX0_has 2 (some .boolean) 0 0 E (fun s => wH E a s ++ R) [.ref (a 0), .int p0] ((nu, ki, fa, va, ch)) (fun v s => v = some (.int (if 0 ≤ p0 ∧ p0 < nu then 1 else 0)) ∧ s = (nu, ki, fa, va, ch)) := by
  refine Ctr.of' (by decide +kernel) (Nat.le_of_ble_eq_true rfl) (fun X P0 hP0 O => ?_)
  refine g_sub [0, 1] (lv' := [(0, .ref (a 0)), (1, .int p0)]) rfl ?_
  refine g_iload_n 0 O dX0_has_0 rfl 1 rfl ?_
  refine g_if_lt 1 O 21 dX0_has_1 (by decide) (fun h1 => ?_) (fun h1 => ?_)
  · -- taken
    refine g_iconst 21 O (v := 0) dX0_has_21 (by decide) ?_
    exact g_zret (by first | rfl | decide) 22 O dX0_has_22 (by rw [hP0]; exact ⟨by rw [if_neg (fun q => Int32.not_le.mpr h1 q.1)], rfl⟩)
  · -- not taken
    refine g_iload_n 4 O dX0_has_4 rfl 1 rfl ?_
    refine g_aload_n 5 O dX0_has_5 rfl 0 rfl ?_
    refine g_get 6 O (v := .int nu) inX0 0 rfl rfl 4 (by decide) kf_X0_24 rfl dX0_has_6 ?_
    refine g_icmp_ge 9 O 21 dX0_has_9 (by decide) (fun h9 => ?_) (fun h9 => ?_)
    · -- taken
      refine g_iconst 21 O (v := 0) dX0_has_21 (by decide) ?_
      exact g_zret (by first | rfl | decide) 22 O dX0_has_22 (by rw [hP0]; exact ⟨by rw [if_neg (fun q => Int32.not_lt.mpr h9 q.2)], rfl⟩)
    · -- not taken
      refine g_iload_n 12 O dX0_has_12 rfl 1 rfl ?_
      refine g_iconst 13 O (v := 4) dX0_has_13 (by decide) ?_
      refine g_icmp_ge 14 O 21 dX0_has_14 (by decide) (fun h14 => False.elim (h9 (Int32.le_trans (by rw [hnu]; exact nI_le (b := 4) hN (by decide)) h14))) (fun h14 => ?_)
      refine g_iconst 17 O (v := 1) dX0_has_17 (by decide) ?_
      refine g_goto 18 O 22 dX0_has_18 (by decide) ?_
      exact g_zret (by first | rfl | decide) 22 O dX0_has_22 (by rw [hP0]; exact ⟨by rw [if_pos (⟨Int32.not_lt.mp h1, Int32.not_le.mp h9⟩)], rfl⟩)

set_option maxRecDepth 100000 in
set_option maxHeartbeats 4000000 in
theorem c_X0_join (l : Launch) (E : Ev) (a : Nat → Nat) (R : va_W) (nu : Int32) (ki fa va ch : Nat → Int32) (p0 p1 p2 : Int32) (N : Nat) (hnu : nu = nI N) (hN : N ≤ 4) : Ctr l yX0_join cX0_join 4 (some .boolean) 0 0 E (fun s => wH E a s ++ R) [.ref (a 0), .int p0, .int p1, .int p2] ((nu, ki, fa, va, ch)) (fun v s => (4 ≤ N ∧ v = some (.int 0) ∧ s = (nu, ki, fa, va, ch)) ∨ (N < 4 ∧ v = some (.int 1) ∧ s = (nI (N + 1), upd ki N p0, upd fa N p1, upd va N p2, upd ch N 0))) := by
  refine Ctr.of' (by decide +kernel) (Nat.le_of_ble_eq_true rfl) (fun X P0 hP0 O => ?_)
  refine g_sub [0, 1, 2, 3] (lv' := [(0, .ref (a 0)), (1, .int p0), (2, .int p1), (3, .int p2)]) rfl ?_
  refine g_aload_n 0 O dX0_join_0 rfl 0 rfl ?_
  refine g_get 1 O (v := .int nu) inX0 0 rfl rfl 4 (by decide) kf_X0_24 rfl dX0_join_1 ?_
  refine g_if_lt 4 O 15 dX0_join_4 (by decide) (fun h4 => False.elim (absurd h4 (by rw [hnu]; exact nI_pos (by omega)))) (fun h4 => ?_)
  refine g_aload_n 7 O dX0_join_7 rfl 0 rfl ?_
  refine g_get 8 O (v := .int nu) inX0 0 rfl rfl 4 (by decide) kf_X0_24 rfl dX0_join_8 ?_
  refine g_iconst 11 O (v := 4) dX0_join_11 (by decide) ?_
  refine g_icmp_lt 12 O 17 dX0_join_12 (by decide) (fun h12 => ?_) (fun h12 => ?_)
  · -- taken
    have hlt : N < 4 := by rw [hnu] at h12; exact (nI_ltI (b := 4) (by omega) (by decide)).mp h12
    refine g_aload_n 17 O dX0_join_17 rfl 0 rfl ?_
    refine g_get 18 O (v := .ref (a 1)) inX0 0 rfl rfl 0 (by decide) kf_X0_9 rfl dX0_join_18 ?_
    refine g_aload_n 21 O dX0_join_21 rfl 0 rfl ?_
    refine g_get 22 O (v := .int nu) inX0 0 rfl rfl 4 (by decide) kf_X0_24 rfl dX0_join_22 ?_
    refine g_iload_n 25 O dX0_join_25 rfl 1 rfl ?_
    refine g_iast 26 O ((nu, upd ki N p0, fa, va, ch)) 1 N rfl (hnu) (hlt) (by decide) rfl dX0_join_26 ?_
    refine g_aload_n 27 O dX0_join_27 rfl 0 rfl ?_
    refine g_get 28 O (v := .ref (a 2)) inX0 0 rfl rfl 1 (by decide) kf_X0_15 rfl dX0_join_28 ?_
    refine g_aload_n 31 O dX0_join_31 rfl 0 rfl ?_
    refine g_get 32 O (v := .int nu) inX0 0 rfl rfl 4 (by decide) kf_X0_24 rfl dX0_join_32 ?_
    refine g_iload_n 35 O dX0_join_35 rfl 2 rfl ?_
    refine g_iast 36 O ((nu, upd ki N p0, upd fa N p1, va, ch)) 2 N rfl (hnu) (hlt) (by decide) rfl dX0_join_36 ?_
    refine g_aload_n 37 O dX0_join_37 rfl 0 rfl ?_
    refine g_get 38 O (v := .ref (a 3)) inX0 0 rfl rfl 2 (by decide) kf_X0_18 rfl dX0_join_38 ?_
    refine g_aload_n 41 O dX0_join_41 rfl 0 rfl ?_
    refine g_get 42 O (v := .int nu) inX0 0 rfl rfl 4 (by decide) kf_X0_24 rfl dX0_join_42 ?_
    refine g_iload_n 45 O dX0_join_45 rfl 3 rfl ?_
    refine g_iast 46 O ((nu, upd ki N p0, upd fa N p1, upd va N p2, ch)) 3 N rfl (hnu) (hlt) (by decide) rfl dX0_join_46 ?_
    refine g_aload_n 47 O dX0_join_47 rfl 0 rfl ?_
    refine g_get 48 O (v := .ref (a 4)) inX0 0 rfl rfl 3 (by decide) kf_X0_21 rfl dX0_join_48 ?_
    refine g_aload_n 51 O dX0_join_51 rfl 0 rfl ?_
    refine g_get 52 O (v := .int nu) inX0 0 rfl rfl 4 (by decide) kf_X0_24 rfl dX0_join_52 ?_
    refine g_iconst 55 O (v := 0) dX0_join_55 (by decide) ?_
    refine g_iast 56 O ((nu, upd ki N p0, upd fa N p1, upd va N p2, upd ch N 0)) 4 N rfl (hnu) (hlt) (by decide) rfl dX0_join_56 ?_
    refine g_aload_n 57 O dX0_join_57 rfl 0 rfl ?_
    refine g_dup 58 O dX0_join_58 rfl ?_
    refine g_get 59 O (v := .int nu) inX0 0 rfl rfl 4 (by decide) kf_X0_24 rfl dX0_join_59 ?_
    refine g_iconst 62 O (v := 1) dX0_join_62 (by decide) ?_
    refine g_iadd 63 O dX0_join_63 ?_
    refine g_si (nI (N + 1)) (by rw [hnu]; exact nI_1 N) ?_
    refine g_put 64 O inX0 tyX0_ok nmX0 ((nI (N + 1), upd ki N p0, upd fa N p1, upd va N p2, upd ch N 0)) 0 rfl rfl 4 (by decide) kf_X0_24 rfl (rfl) (rfl) (Nat.le_of_ble_eq_true rfl) rfl dX0_join_64 ?_
    refine g_iconst 67 O (v := 1) dX0_join_67 (by decide) ?_
    exact g_zret (rfl) 68 O dX0_join_68 (by rw [hP0]; exact Or.inr ⟨hlt, rfl, rfl⟩)
  · -- not taken
    have hge : 4 ≤ N := by rw [hnu] at h12; exact Nat.not_lt.mp (fun q => h12 (nI_lt (b := 4) q (by decide)))
    refine g_iconst 15 O (v := 0) dX0_join_15 (by decide) ?_
    exact g_zret (rfl) 16 O dX0_join_16 (by rw [hP0]; exact Or.inl ⟨hge, rfl, rfl⟩)

set_option maxRecDepth 100000 in
set_option maxHeartbeats 4000000 in
theorem c_X0_kindOf (l : Launch) (E : Ev) (a : Nat → Nat) (R : va_W) (nu : Int32) (ki fa va ch : Nat → Int32) (p0 : Int32) (N k : Nat) (hnu : nu = nI N) (hN : N ≤ 4) (hp : p0 = nI k) (hk : k < N) : Ctr l yX0_kindOf cX0_kindOf 2 (some .int) 0 0 E (fun s => wH E a s ++ R) [.ref (a 0), .int p0] ((nu, ki, fa, va, ch)) (fun v s => v = some (.int (ki k)) ∧ s = (nu, ki, fa, va, ch)) := by
  refine Ctr.of' (by decide +kernel) (Nat.le_of_ble_eq_true rfl) (fun X P0 hP0 O => ?_)
  refine g_sub [0, 1] (lv' := [(0, .ref (a 0)), (1, .int p0)]) rfl ?_
  refine g_iload_n 0 O dX0_kindOf_0 rfl 1 rfl ?_
  refine g_if_lt 1 O 30 dX0_kindOf_1 (by decide) (fun h1 => False.elim (absurd h1 (by rw [hp]; exact nI_pos (by omega)))) (fun h1 => ?_)
  refine g_iload_n 4 O dX0_kindOf_4 rfl 1 rfl ?_
  refine g_aload_n 5 O dX0_kindOf_5 rfl 0 rfl ?_
  refine g_get 6 O (v := .int nu) inX0 0 rfl rfl 4 (by decide) kf_X0_24 rfl dX0_kindOf_6 ?_
  refine g_icmp_ge 9 O 30 dX0_kindOf_9 (by decide) (fun h9 => False.elim (absurd h9 (by rw [hp, hnu]; exact nI_ge hk (by omega)))) (fun h9 => ?_)
  refine g_iload_n 12 O dX0_kindOf_12 rfl 1 rfl ?_
  refine g_aload_n 13 O dX0_kindOf_13 rfl 0 rfl ?_
  refine g_get 14 O (v := .ref (a 1)) inX0 0 rfl rfl 0 (by decide) kf_X0_9 rfl dX0_kindOf_14 ?_
  refine g_alen 17 O (v := 4) 1 0 rfl rfl rfl dX0_kindOf_17 ?_
  refine g_icmp_ge 18 O 30 dX0_kindOf_18 (by decide) (fun h18 => False.elim (absurd h18 (by rw [hp]; exact nI_ge (b := 4) (by omega) (by decide)))) (fun h18 => ?_)
  refine g_aload_n 21 O dX0_kindOf_21 rfl 0 rfl ?_
  refine g_get 22 O (v := .ref (a 1)) inX0 0 rfl rfl 0 (by decide) kf_X0_9 rfl dX0_kindOf_22 ?_
  refine g_iload_n 25 O dX0_kindOf_25 rfl 1 rfl ?_
  refine g_iald 26 O 1 k rfl (hp) (by omega) (by decide) dX0_kindOf_26 ?_
  refine g_goto 27 O 31 dX0_kindOf_27 (by decide) ?_
  exact g_iret 31 O dX0_kindOf_31 (by rw [hP0]; exact ⟨rfl, rfl⟩)

set_option maxRecDepth 100000 in
set_option maxHeartbeats 4000000 in
theorem c_X0_factOf (l : Launch) (E : Ev) (a : Nat → Nat) (R : va_W) (nu : Int32) (ki fa va ch : Nat → Int32) (p0 : Int32) (N k : Nat) (hnu : nu = nI N) (hN : N ≤ 4) (hp : p0 = nI k) (hk : k < N) : Ctr l yX0_factOf cX0_factOf 2 (some .int) 0 0 E (fun s => wH E a s ++ R) [.ref (a 0), .int p0] ((nu, ki, fa, va, ch)) (fun v s => v = some (.int (fa k)) ∧ s = (nu, ki, fa, va, ch)) := by
  refine Ctr.of' (by decide +kernel) (Nat.le_of_ble_eq_true rfl) (fun X P0 hP0 O => ?_)
  refine g_sub [0, 1] (lv' := [(0, .ref (a 0)), (1, .int p0)]) rfl ?_
  refine g_iload_n 0 O dX0_factOf_0 rfl 1 rfl ?_
  refine g_if_lt 1 O 30 dX0_factOf_1 (by decide) (fun h1 => False.elim (absurd h1 (by rw [hp]; exact nI_pos (by omega)))) (fun h1 => ?_)
  refine g_iload_n 4 O dX0_factOf_4 rfl 1 rfl ?_
  refine g_aload_n 5 O dX0_factOf_5 rfl 0 rfl ?_
  refine g_get 6 O (v := .int nu) inX0 0 rfl rfl 4 (by decide) kf_X0_24 rfl dX0_factOf_6 ?_
  refine g_icmp_ge 9 O 30 dX0_factOf_9 (by decide) (fun h9 => False.elim (absurd h9 (by rw [hp, hnu]; exact nI_ge hk (by omega)))) (fun h9 => ?_)
  refine g_iload_n 12 O dX0_factOf_12 rfl 1 rfl ?_
  refine g_aload_n 13 O dX0_factOf_13 rfl 0 rfl ?_
  refine g_get 14 O (v := .ref (a 2)) inX0 0 rfl rfl 1 (by decide) kf_X0_15 rfl dX0_factOf_14 ?_
  refine g_alen 17 O (v := 4) 2 0 rfl rfl rfl dX0_factOf_17 ?_
  refine g_icmp_ge 18 O 30 dX0_factOf_18 (by decide) (fun h18 => False.elim (absurd h18 (by rw [hp]; exact nI_ge (b := 4) (by omega) (by decide)))) (fun h18 => ?_)
  refine g_aload_n 21 O dX0_factOf_21 rfl 0 rfl ?_
  refine g_get 22 O (v := .ref (a 2)) inX0 0 rfl rfl 1 (by decide) kf_X0_15 rfl dX0_factOf_22 ?_
  refine g_iload_n 25 O dX0_factOf_25 rfl 1 rfl ?_
  refine g_iald 26 O 2 k rfl (hp) (by omega) (by decide) dX0_factOf_26 ?_
  refine g_goto 27 O 31 dX0_factOf_27 (by decide) ?_
  exact g_iret 31 O dX0_factOf_31 (by rw [hP0]; exact ⟨rfl, rfl⟩)

set_option maxRecDepth 100000 in
set_option maxHeartbeats 4000000 in
theorem c_X0_valueOf (l : Launch) (E : Ev) (a : Nat → Nat) (R : va_W) (nu : Int32) (ki fa va ch : Nat → Int32) (p0 : Int32) (N k : Nat) (hnu : nu = nI N) (hN : N ≤ 4) (hp : p0 = nI k) (hk : k < N) : Ctr l yX0_valueOf cX0_valueOf 2 (some .int) 0 0 E (fun s => wH E a s ++ R) [.ref (a 0), .int p0] ((nu, ki, fa, va, ch)) (fun v s => v = some (.int (va k)) ∧ s = (nu, ki, fa, va, ch)) := by
  refine Ctr.of' (by decide +kernel) (Nat.le_of_ble_eq_true rfl) (fun X P0 hP0 O => ?_)
  refine g_sub [0, 1] (lv' := [(0, .ref (a 0)), (1, .int p0)]) rfl ?_
  refine g_iload_n 0 O dX0_valueOf_0 rfl 1 rfl ?_
  refine g_if_lt 1 O 30 dX0_valueOf_1 (by decide) (fun h1 => False.elim (absurd h1 (by rw [hp]; exact nI_pos (by omega)))) (fun h1 => ?_)
  refine g_iload_n 4 O dX0_valueOf_4 rfl 1 rfl ?_
  refine g_aload_n 5 O dX0_valueOf_5 rfl 0 rfl ?_
  refine g_get 6 O (v := .int nu) inX0 0 rfl rfl 4 (by decide) kf_X0_24 rfl dX0_valueOf_6 ?_
  refine g_icmp_ge 9 O 30 dX0_valueOf_9 (by decide) (fun h9 => False.elim (absurd h9 (by rw [hp, hnu]; exact nI_ge hk (by omega)))) (fun h9 => ?_)
  refine g_iload_n 12 O dX0_valueOf_12 rfl 1 rfl ?_
  refine g_aload_n 13 O dX0_valueOf_13 rfl 0 rfl ?_
  refine g_get 14 O (v := .ref (a 3)) inX0 0 rfl rfl 2 (by decide) kf_X0_18 rfl dX0_valueOf_14 ?_
  refine g_alen 17 O (v := 4) 3 0 rfl rfl rfl dX0_valueOf_17 ?_
  refine g_icmp_ge 18 O 30 dX0_valueOf_18 (by decide) (fun h18 => False.elim (absurd h18 (by rw [hp]; exact nI_ge (b := 4) (by omega) (by decide)))) (fun h18 => ?_)
  refine g_aload_n 21 O dX0_valueOf_21 rfl 0 rfl ?_
  refine g_get 22 O (v := .ref (a 3)) inX0 0 rfl rfl 2 (by decide) kf_X0_18 rfl dX0_valueOf_22 ?_
  refine g_iload_n 25 O dX0_valueOf_25 rfl 1 rfl ?_
  refine g_iald 26 O 3 k rfl (hp) (by omega) (by decide) dX0_valueOf_26 ?_
  refine g_goto 27 O 31 dX0_valueOf_27 (by decide) ?_
  exact g_iret 31 O dX0_valueOf_31 (by rw [hP0]; exact ⟨rfl, rfl⟩)

set_option maxRecDepth 100000 in
set_option maxHeartbeats 4000000 in
theorem c_X0_changesOf (l : Launch) (E : Ev) (a : Nat → Nat) (R : va_W) (nu : Int32) (ki fa va ch : Nat → Int32) (p0 : Int32) (N k : Nat) (hnu : nu = nI N) (hN : N ≤ 4) (hp : p0 = nI k) (hk : k < N) : Ctr l yX0_changesOf cX0_changesOf 2 (some .int) 0 0 E (fun s => wH E a s ++ R) [.ref (a 0), .int p0] ((nu, ki, fa, va, ch)) (fun v s => v = some (.int (ch k)) ∧ s = (nu, ki, fa, va, ch)) := by
  refine Ctr.of' (by decide +kernel) (Nat.le_of_ble_eq_true rfl) (fun X P0 hP0 O => ?_)
  refine g_sub [0, 1] (lv' := [(0, .ref (a 0)), (1, .int p0)]) rfl ?_
  refine g_iload_n 0 O dX0_changesOf_0 rfl 1 rfl ?_
  refine g_if_lt 1 O 30 dX0_changesOf_1 (by decide) (fun h1 => False.elim (absurd h1 (by rw [hp]; exact nI_pos (by omega)))) (fun h1 => ?_)
  refine g_iload_n 4 O dX0_changesOf_4 rfl 1 rfl ?_
  refine g_aload_n 5 O dX0_changesOf_5 rfl 0 rfl ?_
  refine g_get 6 O (v := .int nu) inX0 0 rfl rfl 4 (by decide) kf_X0_24 rfl dX0_changesOf_6 ?_
  refine g_icmp_ge 9 O 30 dX0_changesOf_9 (by decide) (fun h9 => False.elim (absurd h9 (by rw [hp, hnu]; exact nI_ge hk (by omega)))) (fun h9 => ?_)
  refine g_iload_n 12 O dX0_changesOf_12 rfl 1 rfl ?_
  refine g_aload_n 13 O dX0_changesOf_13 rfl 0 rfl ?_
  refine g_get 14 O (v := .ref (a 4)) inX0 0 rfl rfl 3 (by decide) kf_X0_21 rfl dX0_changesOf_14 ?_
  refine g_alen 17 O (v := 4) 4 0 rfl rfl rfl dX0_changesOf_17 ?_
  refine g_icmp_ge 18 O 30 dX0_changesOf_18 (by decide) (fun h18 => False.elim (absurd h18 (by rw [hp]; exact nI_ge (b := 4) (by omega) (by decide)))) (fun h18 => ?_)
  refine g_aload_n 21 O dX0_changesOf_21 rfl 0 rfl ?_
  refine g_get 22 O (v := .ref (a 4)) inX0 0 rfl rfl 3 (by decide) kf_X0_21 rfl dX0_changesOf_22 ?_
  refine g_iload_n 25 O dX0_changesOf_25 rfl 1 rfl ?_
  refine g_iald 26 O 4 k rfl (hp) (by omega) (by decide) dX0_changesOf_26 ?_
  refine g_goto 27 O 31 dX0_changesOf_27 (by decide) ?_
  exact g_iret 31 O dX0_changesOf_31 (by rw [hP0]; exact ⟨rfl, rfl⟩)

set_option maxRecDepth 100000 in
set_option maxHeartbeats 4000000 in
theorem c_X0_countChange (l : Launch) (E : Ev) (a : Nat → Nat) (R : va_W) (nu : Int32) (ki fa va ch : Nat → Int32) (p0 : Int32) (N k : Nat) (hnu : nu = nI N) (hN : N ≤ 4) (hp : p0 = nI k) (hk : k < N) : Ctr l yX0_countChange cX0_countChange 2 none 1 21 E (fun s => wH E a s ++ R) [.ref (a 0), .int p0] ((nu, ki, fa, va, ch)) (fun v s => v = none ∧ s = (nu, ki, fa, va, upd ch k (ch k + 1))) := by
  refine Ctr.of' (by decide +kernel) (Nat.le_of_ble_eq_true rfl) (fun X P0 hP0 O => ?_)
  refine g_sub [0, 1] (lv' := [(0, .ref (a 0)), (1, .int p0)]) rfl ?_
  refine g_aload_n 0 O dX0_countChange_0 rfl 0 rfl ?_
  refine g_iload_n 1 O dX0_countChange_1 rfl 1 rfl ?_
  refine g_callV 2 O (na := 1) (av := [.int p0]) (c_X0_has l E a R nu ki fa va ch p0 N hnu hN) kl_X0_28 km_X0_has kv_X0_has ki_X0 kc_X0_has (by decide +kernel) rfl (Nat.le_of_ble_eq_true rfl) (Nat.le_of_ble_eq_true rfl) (fun _ h => h) 0 rfl rfl (fun s => s) (fun _ _ _ _ h => h) rfl (Nat.le_of_ble_eq_true rfl) dX0_countChange_2 (fun v9 s9 hv9 => ?_)
  obtain ⟨rfl, rfl⟩ := hv9
  refine g_if_eq 5 O 18 dX0_countChange_5 (by decide) (fun h5 => False.elim (ite_f h5 ⟨by rw [hp]; exact nI_pos' (by omega), by rw [hp, hnu]; exact nI_lt hk (by omega)⟩)) (fun h5 => ?_)
  refine g_aload_n 8 O dX0_countChange_8 rfl 0 rfl ?_
  refine g_get 9 O (v := .ref (a 4)) inX0 0 rfl rfl 3 (by decide) kf_X0_21 rfl dX0_countChange_9 ?_
  refine g_iload_n 12 O dX0_countChange_12 rfl 1 rfl ?_
  refine g_dup2 13 O dX0_countChange_13 rfl rfl ?_
  refine g_iald 14 O 4 k rfl (hp) (by omega) (by decide) dX0_countChange_14 ?_
  refine g_iconst 15 O (v := 1) dX0_countChange_15 (by decide) ?_
  refine g_iadd 16 O dX0_countChange_16 ?_
  refine g_iast 17 O ((nu, ki, fa, va, upd ch k ((ch k) + 1))) 4 k rfl (hp) (by omega) (by decide) rfl dX0_countChange_17 ?_
  exact g_vret 18 O dX0_countChange_18 (by rw [hP0]; exact ⟨rfl, rfl⟩)

set_option maxRecDepth 100000 in
set_option maxHeartbeats 4000000 in
theorem c_X0_become (l : Launch) (E : Ev) (a b : Nat → Nat) (R : va_W) (m : Hc) (nu : Int32) (ki fa va ch : Nat → Int32) (N : Nat) (hm : m.1 = nI N) (hN : N ≤ 4) : Ctr l yX0_become cX0_become 3 none 0 0 E (fun s => wH E a s ++ (wH E b m ++ R)) [.ref (a 0), .ref (b 0)] ((nu, ki, fa, va, ch)) (pV (fun s => s.1 = m.1 ∧ ∀ k, k < N → s.2.1 k = m.2.1 k ∧ s.2.2.1 k = m.2.2.1 k ∧ s.2.2.2.1 k = m.2.2.2.1 k ∧ s.2.2.2.2 k = m.2.2.2.2 k)) := by
  refine Ctr.of' (by decide +kernel) (Nat.le_of_ble_eq_true rfl) (fun X P0 hP0 O => ?_)
  refine g_sub [0, 1] (lv' := [(0, .ref (a 0)), (1, .ref (b 0))]) rfl ?_
  refine g_aload_n 0 O dX0_become_0 rfl 0 rfl ?_
  refine g_iconst 1 O (v := 0) dX0_become_1 (by decide) ?_
  refine g_put 2 O inX0 tyX0_ok nmX0 ((0, ki, fa, va, ch)) 0 rfl rfl 4 (by decide) kf_X0_24 rfl (rfl) (rfl) (Nat.le_of_ble_eq_true rfl) rfl dX0_become_2 ?_
  refine g_iconst 5 O (v := 0) dX0_become_5 (by decide) ?_
  refine g_istore_n 6 O (lv' := [(2, .int 0), (0, .ref (a 0)), (1, .ref (b 0))]) dX0_become_6 rfl (by decide) rfl ?_
  have L7 : ∀ (fuel : Nat) (i : Nat) (ki' fa' va' ch' : Nat → Int32) (hi : i ≤ N) (hk : ∀ k, k < i → ki' k = m.2.1 k ∧ fa' k = m.2.2.1 k ∧ va' k = m.2.2.2.1 k ∧ ch' k = m.2.2.2.2 k), N - i < fuel → G l E (fun s => wH E a s ++ (wH E b m ++ R)) P0 X 3 ((nI i, ki', fa', va', ch')) 7 [(2, .int (nI i)), (0, .ref (a 0)), (1, .ref (b 0))] [] := by
    intro fuel
    induction fuel with
    | zero => intro i ki' fa' va' ch' hi hk hfu; exact absurd hfu (Nat.not_lt_zero _)
    | succ fuel ih7 =>
      intro i ki' fa' va' ch' hi hk hfu
      refine g_iload_n 7 O dX0_become_7 rfl 0 rfl ?_
      refine g_aload_n 8 O dX0_become_8 rfl 2 rfl ?_
      refine g_get 9 O (v := .int m.1) inX0 5 rfl rfl 4 (by decide) kf_X0_24 rfl dX0_become_9 ?_
      refine g_icmp_ge 12 O 84 dX0_become_12 (by decide) (fun h12 => ?_) (fun h12 => ?_)
      · -- taken
        have e : i = N := by rw [hm] at h12; have := ge_of_le (by omega) (by omega) h12; omega
        subst e
        exact g_vret 84 O dX0_become_84 (by rw [hP0]; exact ⟨rfl, hm.symm, hk⟩)
      · -- not taken
        have hlt : i < N := by rw [hm] at h12; exact lt_of_nge (by omega) h12
        refine g_iload_n 15 O dX0_become_15 rfl 0 rfl ?_
        refine g_iconst 16 O (v := 4) dX0_become_16 (by decide) ?_
        refine g_icmp_ge 17 O 84 dX0_become_17 (by decide) (fun h17 => False.elim (absurd h17 (nI_ge (b := 4) (by omega) (by decide)))) (fun h17 => ?_)
        refine g_aload_n 20 O dX0_become_20 rfl 1 rfl ?_
        refine g_get 21 O (v := .ref (a 1)) inX0 0 rfl rfl 0 (by decide) kf_X0_9 rfl dX0_become_21 ?_
        refine g_iload_n 24 O dX0_become_24 rfl 0 rfl ?_
        refine g_aload_n 25 O dX0_become_25 rfl 2 rfl ?_
        refine g_get 26 O (v := .ref (b 1)) inX0 5 rfl rfl 0 (by decide) kf_X0_9 rfl dX0_become_26 ?_
        refine g_iload_n 29 O dX0_become_29 rfl 0 rfl ?_
        refine g_iald 30 O 6 i rfl (rfl) (by omega) (by decide) dX0_become_30 ?_
        refine g_iast 31 O ((nI i, upd ki' i (m.2.1 i), fa', va', ch')) 1 i rfl (rfl) (by omega) (by decide) rfl dX0_become_31 ?_
        refine g_aload_n 32 O dX0_become_32 rfl 1 rfl ?_
        refine g_get 33 O (v := .ref (a 2)) inX0 0 rfl rfl 1 (by decide) kf_X0_15 rfl dX0_become_33 ?_
        refine g_iload_n 36 O dX0_become_36 rfl 0 rfl ?_
        refine g_aload_n 37 O dX0_become_37 rfl 2 rfl ?_
        refine g_get 38 O (v := .ref (b 2)) inX0 5 rfl rfl 1 (by decide) kf_X0_15 rfl dX0_become_38 ?_
        refine g_iload_n 41 O dX0_become_41 rfl 0 rfl ?_
        refine g_iald 42 O 7 i rfl (rfl) (by omega) (by decide) dX0_become_42 ?_
        refine g_iast 43 O ((nI i, upd ki' i (m.2.1 i), upd fa' i (m.2.2.1 i), va', ch')) 2 i rfl (rfl) (by omega) (by decide) rfl dX0_become_43 ?_
        refine g_aload_n 44 O dX0_become_44 rfl 1 rfl ?_
        refine g_get 45 O (v := .ref (a 3)) inX0 0 rfl rfl 2 (by decide) kf_X0_18 rfl dX0_become_45 ?_
        refine g_iload_n 48 O dX0_become_48 rfl 0 rfl ?_
        refine g_aload_n 49 O dX0_become_49 rfl 2 rfl ?_
        refine g_get 50 O (v := .ref (b 3)) inX0 5 rfl rfl 2 (by decide) kf_X0_18 rfl dX0_become_50 ?_
        refine g_iload_n 53 O dX0_become_53 rfl 0 rfl ?_
        refine g_iald 54 O 8 i rfl (rfl) (by omega) (by decide) dX0_become_54 ?_
        refine g_iast 55 O ((nI i, upd ki' i (m.2.1 i), upd fa' i (m.2.2.1 i), upd va' i (m.2.2.2.1 i), ch')) 3 i rfl (rfl) (by omega) (by decide) rfl dX0_become_55 ?_
        refine g_aload_n 56 O dX0_become_56 rfl 1 rfl ?_
        refine g_get 57 O (v := .ref (a 4)) inX0 0 rfl rfl 3 (by decide) kf_X0_21 rfl dX0_become_57 ?_
        refine g_iload_n 60 O dX0_become_60 rfl 0 rfl ?_
        refine g_aload_n 61 O dX0_become_61 rfl 2 rfl ?_
        refine g_get 62 O (v := .ref (b 4)) inX0 5 rfl rfl 3 (by decide) kf_X0_21 rfl dX0_become_62 ?_
        refine g_iload_n 65 O dX0_become_65 rfl 0 rfl ?_
        refine g_iald 66 O 9 i rfl (rfl) (by omega) (by decide) dX0_become_66 ?_
        refine g_iast 67 O ((nI i, upd ki' i (m.2.1 i), upd fa' i (m.2.2.1 i), upd va' i (m.2.2.2.1 i), upd ch' i (m.2.2.2.2 i))) 4 i rfl (rfl) (by omega) (by decide) rfl dX0_become_67 ?_
        refine g_aload_n 68 O dX0_become_68 rfl 1 rfl ?_
        refine g_dup 69 O dX0_become_69 rfl ?_
        refine g_get 70 O (v := .int (nI i)) inX0 0 rfl rfl 4 (by decide) kf_X0_24 rfl dX0_become_70 ?_
        refine g_iconst 73 O (v := 1) dX0_become_73 (by decide) ?_
        refine g_iadd 74 O dX0_become_74 ?_
        refine g_si (nI (i + 1)) (nI_1 i) ?_
        refine g_put 75 O inX0 tyX0_ok nmX0 ((nI (i + 1), upd ki' i (m.2.1 i), upd fa' i (m.2.2.1 i), upd va' i (m.2.2.2.1 i), upd ch' i (m.2.2.2.2 i))) 0 rfl rfl 4 (by decide) kf_X0_24 rfl (rfl) (rfl) (Nat.le_of_ble_eq_true rfl) rfl dX0_become_75 ?_
        refine g_iinc 78 O (v := nI (i + 1)) (q := 0) (lv' := [(2, .int (nI (i + 1))), (0, .ref (a 0)), (1, .ref (b 0))]) dX0_become_78 rfl (nI_1 i) (by decide) rfl ?_
        refine g_goto 81 O 7 dX0_become_81 (by decide) ?_
        refine g_sub [0, 1, 2] (lv' := [(2, .int (nI (i + 1))), (0, .ref (a 0)), (1, .ref (b 0))]) rfl ?_
        exact ih7 (i + 1) (upd ki' i (m.2.1 i)) (upd fa' i (m.2.2.1 i)) (upd va' i (m.2.2.2.1 i)) (upd ch' i (m.2.2.2.2 i)) (by omega) (fun k h => by
          rcases Nat.lt_or_ge k i with q | q
          · simp only [upd_n _ _ (by omega : k ≠ i)]; exact hk k q
          · have e : k = i := by omega
            subst e; exact ⟨upd_s _ _ _, upd_s _ _ _, upd_s _ _ _, upd_s _ _ _⟩) (by omega)
  exact L7 _ 0 ki fa va ch (Nat.zero_le _) (fun k h => absurd h (Nat.not_lt_zero _)) (Nat.lt_succ_self _)

set_option maxRecDepth 100000 in
set_option maxHeartbeats 4000000 in
theorem c_X4_append (l : Launch) (E : Ev) (a : Nat → Nat) (R : va_W) (nu : Int32) (wo : Nat → Int32) (p0 : Int32) (N : Nat) (hnu : nu = nI N) (hN : N ≤ 6) : Ctr l yX4_append cX4_append 2 (some .boolean) 0 0 E (fun s => wT E a s ++ R) [.ref (a 0), .int p0] ((nu, wo)) (fun v s => (6 ≤ N ∧ v = some (.int 0) ∧ s = (nu, wo)) ∨ (N < 6 ∧ v = some (.int 1) ∧ s = (nI (N + 1), upd wo N p0))) := by
  refine Ctr.of' (by decide +kernel) (Nat.le_of_ble_eq_true rfl) (fun X P0 hP0 O => ?_)
  refine g_sub [0, 1] (lv' := [(0, .ref (a 0)), (1, .int p0)]) rfl ?_
  refine g_aload_n 0 O dX4_append_0 rfl 0 rfl ?_
  refine g_get 1 O (v := .int nu) inX4 0 rfl rfl 1 (by decide) kf_X4_15 rfl dX4_append_1 ?_
  refine g_if_lt 4 O 19 dX4_append_4 (by decide) (fun h4 => False.elim (absurd h4 (by rw [hnu]; exact nI_pos (by omega)))) (fun h4 => ?_)
  refine g_aload_n 7 O dX4_append_7 rfl 0 rfl ?_
  refine g_get 8 O (v := .int nu) inX4 0 rfl rfl 1 (by decide) kf_X4_15 rfl dX4_append_8 ?_
  refine g_aload_n 11 O dX4_append_11 rfl 0 rfl ?_
  refine g_get 12 O (v := .ref (a 1)) inX4 0 rfl rfl 0 (by decide) kf_X4_9 rfl dX4_append_12 ?_
  refine g_alen 15 O (v := 6) 1 0 rfl rfl rfl dX4_append_15 ?_
  refine g_icmp_lt 16 O 21 dX4_append_16 (by decide) (fun h16 => ?_) (fun h16 => ?_)
  · -- taken
    have hlt : N < 6 := by rw [hnu] at h16; exact (nI_ltI (b := 6) (by omega) (by decide)).mp h16
    refine g_aload_n 21 O dX4_append_21 rfl 0 rfl ?_
    refine g_get 22 O (v := .ref (a 1)) inX4 0 rfl rfl 0 (by decide) kf_X4_9 rfl dX4_append_22 ?_
    refine g_aload_n 25 O dX4_append_25 rfl 0 rfl ?_
    refine g_get 26 O (v := .int nu) inX4 0 rfl rfl 1 (by decide) kf_X4_15 rfl dX4_append_26 ?_
    refine g_iload_n 29 O dX4_append_29 rfl 1 rfl ?_
    refine g_iast 30 O ((nu, upd wo N p0)) 1 N rfl (hnu) (hlt) (by decide) rfl dX4_append_30 ?_
    refine g_aload_n 31 O dX4_append_31 rfl 0 rfl ?_
    refine g_dup 32 O dX4_append_32 rfl ?_
    refine g_get 33 O (v := .int nu) inX4 0 rfl rfl 1 (by decide) kf_X4_15 rfl dX4_append_33 ?_
    refine g_iconst 36 O (v := 1) dX4_append_36 (by decide) ?_
    refine g_iadd 37 O dX4_append_37 ?_
    refine g_si (nI (N + 1)) (by rw [hnu]; exact nI_1 N) ?_
    refine g_put 38 O inX4 tyX4_ok nmX4 ((nI (N + 1), upd wo N p0)) 0 rfl rfl 1 (by decide) kf_X4_15 rfl (rfl) (rfl) (Nat.le_of_ble_eq_true rfl) rfl dX4_append_38 ?_
    refine g_iconst 41 O (v := 1) dX4_append_41 (by decide) ?_
    exact g_zret (rfl) 42 O dX4_append_42 (by rw [hP0]; exact Or.inr ⟨hlt, rfl, rfl⟩)
  · -- not taken
    have hge : 6 ≤ N := by rw [hnu] at h16; exact Nat.not_lt.mp (fun q => h16 (nI_lt (b := 6) q (by decide)))
    refine g_iconst 19 O (v := 0) dX4_append_19 (by decide) ?_
    exact g_zret (rfl) 20 O dX4_append_20 (by rw [hP0]; exact Or.inl ⟨hge, rfl, rfl⟩)

set_option maxRecDepth 100000 in
set_option maxHeartbeats 4000000 in
theorem c_X4_worldAt (l : Launch) (E : Ev) (a : Nat → Nat) (R : va_W) (nu : Int32) (wo : Nat → Int32) (p0 : Int32) (N k : Nat) (hnu : nu = nI N) (hN : N ≤ 6) (hp : p0 = nI k) (hk : k < N) : Ctr l yX4_worldAt cX4_worldAt 2 (some .int) 0 0 E (fun s => wT E a s ++ R) [.ref (a 0), .int p0] ((nu, wo)) (fun v s => v = some (.int (wo k)) ∧ s = (nu, wo)) := by
  refine Ctr.of' (by decide +kernel) (Nat.le_of_ble_eq_true rfl) (fun X P0 hP0 O => ?_)
  refine g_sub [0, 1] (lv' := [(0, .ref (a 0)), (1, .int p0)]) rfl ?_
  refine g_iload_n 0 O dX4_worldAt_0 rfl 1 rfl ?_
  refine g_if_lt 1 O 30 dX4_worldAt_1 (by decide) (fun h1 => False.elim (absurd h1 (by rw [hp]; exact nI_pos (by omega)))) (fun h1 => ?_)
  refine g_iload_n 4 O dX4_worldAt_4 rfl 1 rfl ?_
  refine g_aload_n 5 O dX4_worldAt_5 rfl 0 rfl ?_
  refine g_get 6 O (v := .int nu) inX4 0 rfl rfl 1 (by decide) kf_X4_15 rfl dX4_worldAt_6 ?_
  refine g_icmp_ge 9 O 30 dX4_worldAt_9 (by decide) (fun h9 => False.elim (absurd h9 (by rw [hp, hnu]; exact nI_ge hk (by omega)))) (fun h9 => ?_)
  refine g_iload_n 12 O dX4_worldAt_12 rfl 1 rfl ?_
  refine g_aload_n 13 O dX4_worldAt_13 rfl 0 rfl ?_
  refine g_get 14 O (v := .ref (a 1)) inX4 0 rfl rfl 0 (by decide) kf_X4_9 rfl dX4_worldAt_14 ?_
  refine g_alen 17 O (v := 6) 1 0 rfl rfl rfl dX4_worldAt_17 ?_
  refine g_icmp_ge 18 O 30 dX4_worldAt_18 (by decide) (fun h18 => False.elim (absurd h18 (by rw [hp]; exact nI_ge (b := 6) (by omega) (by decide)))) (fun h18 => ?_)
  refine g_aload_n 21 O dX4_worldAt_21 rfl 0 rfl ?_
  refine g_get 22 O (v := .ref (a 1)) inX4 0 rfl rfl 0 (by decide) kf_X4_9 rfl dX4_worldAt_22 ?_
  refine g_iload_n 25 O dX4_worldAt_25 rfl 1 rfl ?_
  refine g_iald 26 O 1 k rfl (hp) (by omega) (by decide) dX4_worldAt_26 ?_
  refine g_goto 27 O 31 dX4_worldAt_27 (by decide) ?_
  exact g_iret 31 O dX4_worldAt_31 (by rw [hP0]; exact ⟨rfl, rfl⟩)

set_option maxRecDepth 100000 in
set_option maxHeartbeats 4000000 in
theorem c_X2_codeAt (l : Launch) (E : Ev) (a : Nat → Nat) (R : va_W) (le : Int32) (cs : Nat → Int32) (p0 : Int32) (N k : Nat) (hle : le = nI N) (hN : N ≤ 14) (hp : p0 = nI k) (hk : k < N) : Ctr l yX2_codeAt cX2_codeAt 2 (some .int) 0 0 E (fun s => wP E a s ++ R) [.ref (a 0), .int p0] ((le, cs)) (fun v s => v = some (.int (cs k)) ∧ s = (le, cs)) := by
  refine Ctr.of' (by decide +kernel) (Nat.le_of_ble_eq_true rfl) (fun X P0 hP0 O => ?_)
  refine g_sub [0, 1] (lv' := [(0, .ref (a 0)), (1, .int p0)]) rfl ?_
  refine g_iload_n 0 O dX2_codeAt_0 rfl 1 rfl ?_
  refine g_if_lt 1 O 30 dX2_codeAt_1 (by decide) (fun h1 => False.elim (absurd h1 (by rw [hp]; exact nI_pos (by omega)))) (fun h1 => ?_)
  refine g_iload_n 4 O dX2_codeAt_4 rfl 1 rfl ?_
  refine g_aload_n 5 O dX2_codeAt_5 rfl 0 rfl ?_
  refine g_get 6 O (v := .int le) inX2 0 rfl rfl 1 (by decide) kf_X2_15 rfl dX2_codeAt_6 ?_
  refine g_icmp_ge 9 O 30 dX2_codeAt_9 (by decide) (fun h9 => False.elim (absurd h9 (by rw [hp, hle]; exact nI_ge hk (by omega)))) (fun h9 => ?_)
  refine g_iload_n 12 O dX2_codeAt_12 rfl 1 rfl ?_
  refine g_aload_n 13 O dX2_codeAt_13 rfl 0 rfl ?_
  refine g_get 14 O (v := .ref (a 1)) inX2 0 rfl rfl 0 (by decide) kf_X2_9 rfl dX2_codeAt_14 ?_
  refine g_alen 17 O (v := 14) 1 0 rfl rfl rfl dX2_codeAt_17 ?_
  refine g_icmp_ge 18 O 30 dX2_codeAt_18 (by decide) (fun h18 => False.elim (absurd h18 (by rw [hp]; exact nI_ge (b := 14) (by omega) (by decide)))) (fun h18 => ?_)
  refine g_aload_n 21 O dX2_codeAt_21 rfl 0 rfl ?_
  refine g_get 22 O (v := .ref (a 1)) inX2 0 rfl rfl 0 (by decide) kf_X2_9 rfl dX2_codeAt_22 ?_
  refine g_iload_n 25 O dX2_codeAt_25 rfl 1 rfl ?_
  refine g_iald 26 O 1 k rfl (hp) (by omega) (by decide) dX2_codeAt_26 ?_
  refine g_goto 27 O 31 dX2_codeAt_27 (by decide) ?_
  exact g_iret 31 O dX2_codeAt_31 (by rw [hP0]; exact ⟨rfl, rfl⟩)

set_option maxRecDepth 100000 in
set_option maxHeartbeats 4000000 in
theorem c_X4_become (l : Launch) (E : Ev) (a b : Nat → Nat) (R : va_W) (m : Tc) (nu : Int32) (wo : Nat → Int32) (N : Nat) (hm : m.1 = nI N) (hN : N ≤ 6) : Ctr l yX4_become cX4_become 3 none 1 21 E (fun s => wT E a s ++ (wT E b m ++ R)) [.ref (a 0), .ref (b 0)] ((nu, wo)) (pV (fun s => s.1 = m.1 ∧ ∀ k, k < N → s.2 k = m.2 k)) := by
  refine Ctr.of' (by decide +kernel) (Nat.le_of_ble_eq_true rfl) (fun X P0 hP0 O => ?_)
  refine g_sub [0, 1] (lv' := [(0, .ref (a 0)), (1, .ref (b 0))]) rfl ?_
  refine g_aload_n 0 O dX4_become_0 rfl 0 rfl ?_
  refine g_iconst 1 O (v := 0) dX4_become_1 (by decide) ?_
  refine g_put 2 O inX4 tyX4_ok nmX4 ((0, wo)) 0 rfl rfl 1 (by decide) kf_X4_15 rfl (rfl) (rfl) (Nat.le_of_ble_eq_true rfl) rfl dX4_become_2 ?_
  refine g_iconst 5 O (v := 0) dX4_become_5 (by decide) ?_
  refine g_istore_n 6 O (lv' := [(2, .int 0), (0, .ref (a 0)), (1, .ref (b 0))]) dX4_become_6 rfl (by decide) rfl ?_
  have L7 : ∀ (fuel : Nat) (i : Nat) (wo' : Nat → Int32) (hi : i ≤ N) (hk : ∀ k, k < i → wo' k = m.2 k), N - i < fuel → G l E (fun s => wT E a s ++ (wT E b m ++ R)) P0 X 3 ((nI i, wo')) 7 [(2, .int (nI i)), (0, .ref (a 0)), (1, .ref (b 0))] [] := by
    intro fuel
    induction fuel with
    | zero => intro i wo' hi hk hfu; exact absurd hfu (Nat.not_lt_zero _)
    | succ fuel ih7 =>
      intro i wo' hi hk hfu
      refine g_iload_n 7 O dX4_become_7 rfl 0 rfl ?_
      refine g_aload_n 8 O dX4_become_8 rfl 2 rfl ?_
      refine g_get 9 O (v := .int m.1) inX4 2 rfl rfl 1 (by decide) kf_X4_15 rfl dX4_become_9 ?_
      refine g_icmp_ge 12 O 31 dX4_become_12 (by decide) (fun h12 => ?_) (fun h12 => ?_)
      · -- taken
        have e : i = N := by rw [hm] at h12; have := ge_of_le (by omega) (by omega) h12; omega
        subst e
        exact g_vret 31 O dX4_become_31 (by rw [hP0]; exact ⟨rfl, hm.symm, hk⟩)
      · -- not taken
        have hlt : i < N := by rw [hm] at h12; exact lt_of_nge (by omega) h12
        refine g_aload_n 15 O dX4_become_15 rfl 1 rfl ?_
        refine g_aload_n 16 O dX4_become_16 rfl 2 rfl ?_
        refine g_iload_n 17 O dX4_become_17 rfl 0 rfl ?_
        refine g_callV 18 O (na := 1) (av := [.int (nI i)]) (c_X4_worldAt l E b (wT E a (nI i, wo') ++ R) m.1 m.2 (nI i) N i hm hN rfl hlt) kl_X4_19 km_X4_worldAt kv_X4_worldAt ki_X4 kc_X4_worldAt (by decide +kernel) rfl (Nat.le_of_ble_eq_true rfl) (Nat.le_of_ble_eq_true rfl) (fun _ h => Wo.swap (wT E a (nI i, wo')) (wT E b m) R rfl rfl h) 0 rfl rfl (fun _ => (nI i, wo')) (fun _ _ _ hp h => by obtain ⟨-, rfl⟩ := hp; exact Wo.swap (wT E b m) (wT E a (nI i, wo')) R rfl rfl h) rfl (Nat.le_of_ble_eq_true rfl) dX4_become_18 (fun v9 s9 hv9 => ?_)
        obtain ⟨rfl, rfl⟩ := hv9
        refine g_callV 21 O (na := 1) (av := [.int (m.2 i)]) (c_X4_append l E a (wT E b m ++ R) (nI i) wo' (m.2 i) i rfl (by omega)) kl_X4_23 km_X4_append kv_X4_append ki_X4 kc_X4_append (by decide +kernel) rfl (Nat.le_of_ble_eq_true rfl) (Nat.le_of_ble_eq_true rfl) (fun _ h => h) 0 rfl rfl (fun s => s) (fun _ _ _ _ h => h) rfl (Nat.le_of_ble_eq_true rfl) dX4_become_21 (fun v9 s9 hv9 => ?_)
        rcases hv9 with ⟨h6, -⟩ | ⟨-, rfl, rfl⟩
        · exact absurd h6 (by omega)
        refine g_pop 24 O dX4_become_24 rfl ?_
        refine g_iinc 25 O (v := nI (i + 1)) (q := 0) (lv' := [(2, .int (nI (i + 1))), (0, .ref (a 0)), (1, .ref (b 0))]) dX4_become_25 rfl (nI_1 i) (by decide) rfl ?_
        refine g_goto 28 O 7 dX4_become_28 (by decide) ?_
        refine g_sub [0, 1, 2] (lv' := [(2, .int (nI (i + 1))), (0, .ref (a 0)), (1, .ref (b 0))]) rfl ?_
        exact ih7 (i + 1) (upd wo' i (m.2 i)) (by omega) (fun k h => by
          rcases Nat.lt_or_ge k i with q | q
          · rw [upd_n _ _ (by omega : k ≠ i)]; exact hk k q
          · have e : k = i := by omega
            subst e; exact upd_s _ _ _) (by omega)
  exact L7 _ 0 wo (Nat.zero_le _) (fun k h => absurd h (Nat.not_lt_zero _)) (Nat.lt_succ_self _)
end
section
theorem sp0_l {c : Int32} {n : Nat} (h : 97 ≤ c ∧ c ≤ 102) : sp (0, n) c = some (2, n + 1) := by
  have h1 : ¬ c = 110 := fun e => by rw [e] at h; exact absurd h.2 (by decide)
  simp [sp, h1, h]
theorem sp0_n {c : Int32} {n : Nat} (h : c = 110) : sp (0, n) c = some (1, n) := by simp [sp, h]
theorem sp0_x {c : Int32} {n : Nat} (h : ¬ (97 ≤ c ∧ c ≤ 102)) (h2 : ¬ c = 110) : sp (0, n) c = none := by simp only [sp, h, h2]; simp
theorem sp1_l {c : Int32} {n : Nat} (h : 97 ≤ c ∧ c ≤ 102) : sp (1, n) c = some (2, n + 1) := by simp [sp, h]
theorem sp1_x {c : Int32} {n : Nat} (h : ¬ (97 ≤ c ∧ c ≤ 102)) : sp (1, n) c = none := by simp only [sp, h]; simp
theorem sp2_j {c : Int32} {n : Nat} (h : c = 38 ∨ c = 43) (h2 : n < 4) : sp (2, n) c = some (0, n) := by simp only [sp, h, h2]; simp
theorem sp2_x {c : Int32} {n : Nat} (h : ¬ (c = 38 ∨ c = 43)) : sp (2, n) c = none := by simp only [sp, h]; simp
theorem sp2_y {c : Int32} {n : Nat} (h : 4 ≤ n) : sp (2, n) c = none := by
  have h2 : ¬ n < 4 := by omega
  simp only [sp, h2]; simp
theorem rs_st {cs : Nat → Int32} : ∀ {k : Nat} {s : Nat × Nat}, rs cs k = some s → s.1 ≤ 2 ∧ s.2 ≤ 4 ∧ (s.1 ≠ 2 → s.2 < 4)
  | 0, s, h => by rw [rs] at h; cases h; decide
  | k + 1, s, h => by
    rw [rs] at h
    cases e : rs cs k with
    | none => rw [e] at h; cases h
    | some s0 =>
      have ih := rs_st e
      rw [e] at h
      have h : sp s0 (cs k) = some s := h
      unfold sp at h
      split at h
      · split at h
        · rename_i h2; cases h; exact ⟨Nat.zero_le _, by omega, fun _ => h2.2⟩
        · cases h
      · split at h
        · cases h; exact ⟨Nat.le_of_ble_eq_true rfl, by omega, fun _ => by omega⟩
        · split at h
          · cases h; exact ⟨Nat.le_refl _, by omega, fun q => absurd rfl q⟩
          · cases h

set_option maxRecDepth 100000 in
set_option maxHeartbeats 4000000 in
theorem c_X2_write (l : Launch) (E : Ev) (a : Nat → Nat) (R : va_W) (le : Int32) (cs : Nat → Int32) (p0 : Int32) (N : Nat) (hle : le = nI N) (hN : N ≤ 14) : Ctr l yX2_write cX2_write 2 (some .boolean) 0 0 E (fun s => wP E a s ++ R) [.ref (a 0), .int p0] ((le, cs)) (fun v s => (14 ≤ N ∧ v = some (.int 0) ∧ s = (le, cs)) ∨ (N < 14 ∧ v = some (.int 1) ∧ s = (nI (N + 1), upd cs N p0))) := by
  refine Ctr.of' (by decide +kernel) (Nat.le_of_ble_eq_true rfl) (fun X P0 hP0 O => ?_)
  refine g_sub [0, 1] (lv' := [(0, .ref (a 0)), (1, .int p0)]) rfl ?_
  refine g_aload_n 0 O dX2_write_0 rfl 0 rfl ?_
  refine g_get 1 O (v := .int le) inX2 0 rfl rfl 1 (by decide) kf_X2_15 rfl dX2_write_1 ?_
  refine g_if_lt 4 O 19 dX2_write_4 (by decide) (fun h4 => False.elim (absurd h4 (by rw [hle]; exact nI_pos (by omega)))) (fun h4 => ?_)
  refine g_aload_n 7 O dX2_write_7 rfl 0 rfl ?_
  refine g_get 8 O (v := .int le) inX2 0 rfl rfl 1 (by decide) kf_X2_15 rfl dX2_write_8 ?_
  refine g_aload_n 11 O dX2_write_11 rfl 0 rfl ?_
  refine g_get 12 O (v := .ref (a 1)) inX2 0 rfl rfl 0 (by decide) kf_X2_9 rfl dX2_write_12 ?_
  refine g_alen 15 O (v := 14) 1 0 rfl rfl rfl dX2_write_15 ?_
  refine g_icmp_lt 16 O 21 dX2_write_16 (by decide) (fun h16 => ?_) (fun h16 => ?_)
  · -- taken
    have hlt : N < 14 := by rw [hle] at h16; exact (nI_ltI (b := 14) (by omega) (by decide)).mp h16
    refine g_aload_n 21 O dX2_write_21 rfl 0 rfl ?_
    refine g_get 22 O (v := .ref (a 1)) inX2 0 rfl rfl 0 (by decide) kf_X2_9 rfl dX2_write_22 ?_
    refine g_aload_n 25 O dX2_write_25 rfl 0 rfl ?_
    refine g_get 26 O (v := .int le) inX2 0 rfl rfl 1 (by decide) kf_X2_15 rfl dX2_write_26 ?_
    refine g_iload_n 29 O dX2_write_29 rfl 1 rfl ?_
    refine g_iast 30 O ((le, upd cs N p0)) 1 N rfl (hle) (hlt) (by decide) rfl dX2_write_30 ?_
    refine g_aload_n 31 O dX2_write_31 rfl 0 rfl ?_
    refine g_dup 32 O dX2_write_32 rfl ?_
    refine g_get 33 O (v := .int le) inX2 0 rfl rfl 1 (by decide) kf_X2_15 rfl dX2_write_33 ?_
    refine g_iconst 36 O (v := 1) dX2_write_36 (by decide) ?_
    refine g_iadd 37 O dX2_write_37 ?_
    refine g_si (nI (N + 1)) (by rw [hle]; exact nI_1 N) ?_
    refine g_put 38 O inX2 tyX2_ok nmX2 ((nI (N + 1), upd cs N p0)) 0 rfl rfl 1 (by decide) kf_X2_15 rfl (rfl) (rfl) (Nat.le_of_ble_eq_true rfl) rfl dX2_write_38 ?_
    refine g_iconst 41 O (v := 1) dX2_write_41 (by decide) ?_
    exact g_zret (rfl) 42 O dX2_write_42 (by rw [hP0]; exact Or.inr ⟨hlt, rfl, rfl⟩)
  · -- not taken
    have hge : 14 ≤ N := by rw [hle] at h16; exact Nat.not_lt.mp (fun q => h16 (nI_lt (b := 14) q (by decide)))
    refine g_iconst 19 O (v := 0) dX2_write_19 (by decide) ?_
    exact g_zret (rfl) 20 O dX2_write_20 (by rw [hP0]; exact Or.inl ⟨hge, rfl, rfl⟩)

set_option maxRecDepth 100000 in
set_option maxHeartbeats 4000000 in
theorem c_X2_clear (l : Launch) (E : Ev) (a : Nat → Nat) (R : va_W) (le : Int32) (cs : Nat → Int32)  : Ctr l yX2_clear cX2_clear 2 (some .int) 0 0 E (fun s => wP E a s ++ R) [.ref (a 0)] ((le, cs)) (fun v s => v = some (.int le) ∧ s = (0, cs)) := by
  refine Ctr.of' (by decide +kernel) (Nat.le_of_ble_eq_true rfl) (fun X P0 hP0 O => ?_)
  refine g_sub [0] (lv' := [(0, .ref (a 0))]) rfl ?_
  refine g_aload_n 0 O dX2_clear_0 rfl 0 rfl ?_
  refine g_get 1 O (v := .int le) inX2 0 rfl rfl 1 (by decide) kf_X2_15 rfl dX2_clear_1 ?_
  refine g_istore_n 4 O (lv' := [(1, .int le), (0, .ref (a 0))]) dX2_clear_4 rfl (by decide) rfl ?_
  refine g_aload_n 5 O dX2_clear_5 rfl 1 rfl ?_
  refine g_iconst 6 O (v := 0) dX2_clear_6 (by decide) ?_
  refine g_put 7 O inX2 tyX2_ok nmX2 ((0, cs)) 0 rfl rfl 1 (by decide) kf_X2_15 rfl (rfl) (rfl) (Nat.le_of_ble_eq_true rfl) rfl dX2_clear_7 ?_
  refine g_iload_n 10 O dX2_clear_10 rfl 0 rfl ?_
  exact g_iret 11 O dX2_clear_11 (by rw [hP0]; exact ⟨rfl, rfl⟩)

set_option maxRecDepth 100000 in
set_option maxHeartbeats 4000000 in
theorem c_X2_codeAt_m (l : Launch) (E : Ev) (a : Nat → Nat) (R : va_W) (le : Int32) (cs : Nat → Int32) (p0 : Int32) (hp : p0 = -1) : Ctr l yX2_codeAt cX2_codeAt 2 (some .int) 0 0 E (fun s => wP E a s ++ R) [.ref (a 0), .int p0] ((le, cs)) (fun v s => v = some (.int (-1)) ∧ s = (le, cs)) := by
  refine Ctr.of' (by decide +kernel) (Nat.le_of_ble_eq_true rfl) (fun X P0 hP0 O => ?_)
  refine g_sub [0, 1] (lv' := [(0, .ref (a 0)), (1, .int p0)]) rfl ?_
  refine g_iload_n 0 O dX2_codeAt_0 rfl 1 rfl ?_
  refine g_if_lt 1 O 30 dX2_codeAt_1 (by decide) (fun h1 => ?_) (fun h1 => False.elim (h1 (by rw [hp]; decide)))
  refine g_iconst 30 O (v := (-1)) dX2_codeAt_30 (by decide) ?_
  exact g_iret 31 O dX2_codeAt_31 (by rw [hP0]; exact ⟨rfl, rfl⟩)

set_option maxRecDepth 100000 in
set_option maxHeartbeats 4000000 in
theorem c_X2_faultAsSaying (l : Launch) (E : Ev) (a : Nat → Nat) (R : va_W) (le : Int32) (cs : Nat → Int32) (N : Nat) (hle : le = nI N) (hN : N ≤ 14) : Ctr l yX2_faultAsSaying cX2_faultAsSaying 6 (some .int) 1 21 E (fun s => wP E a s ++ R) [.ref (a 0)] ((le, cs)) (fun v s => v = some (.int (nI (fsay cs N))) ∧ s = (le, cs)) := by
  refine Ctr.of' (by decide +kernel) (Nat.le_of_ble_eq_true rfl) (fun X P0 hP0 O => ?_)
  refine g_sub [0] (lv' := [(0, .ref (a 0))]) rfl ?_
  refine g_iconst 0 O (v := 0) dX2_faultAsSaying_0 (by decide) ?_
  refine g_istore_n 1 O (lv' := [(1, .int 0), (0, .ref (a 0))]) dX2_faultAsSaying_1 rfl (by decide) rfl ?_
  refine g_iconst 2 O (v := 0) dX2_faultAsSaying_2 (by decide) ?_
  refine g_istore_n 3 O (lv' := [(2, .int 0), (1, .int 0), (0, .ref (a 0))]) dX2_faultAsSaying_3 rfl (by decide) rfl ?_
  refine g_iconst 4 O (v := 1) dX2_faultAsSaying_4 (by decide) ?_
  refine g_istore_n 5 O (lv' := [(3, .int 1), (2, .int 0), (1, .int 0), (0, .ref (a 0))]) dX2_faultAsSaying_5 rfl (by decide) rfl ?_
  refine g_iconst 6 O (v := 0) dX2_faultAsSaying_6 (by decide) ?_
  refine g_istore 7 O (lv' := [(4, .int 0), (3, .int 1), (2, .int 0), (1, .int 0), (0, .ref (a 0))]) dX2_faultAsSaying_7 (by decide) rfl ?_
  refine g_sub [0, 1, 2, 3, 4] (lv' := [(4, .int 0), (3, .int 1), (2, .int 0), (1, .int 0), (0, .ref (a 0))]) rfl ?_
  have L9 : ∀ (fuel : Nat) (k st nw : Nat) (w ng du : Int32) (hk : k ≤ N) (hrs : rs cs k = some (st, nw)) (hw : w = nI nw) (hst : (st = 0 ∧ ng = 0 ∧ du = 1) ∨ (st = 1 ∧ ng = 1 ∧ du = 1) ∨ (st = 2 ∧ ng = 0 ∧ du = 0)), N - k < fuel → G l E (fun s => wP E a s ++ R) P0 X 6 ((le, cs)) 9 [(4, .int (nI k)), (3, .int du), (2, .int ng), (1, .int w), (0, .ref (a 0))] [] := by
    intro fuel
    induction fuel with
    | zero => intro k st nw w ng du hk hrs hw hst hfu; exact absurd hfu (Nat.not_lt_zero _)
    | succ fuel ih9 =>
      intro k st nw w ng du hk hrs hw hst hfu
      have hnw := (rs_st hrs).2.1
      subst hw
      rcases hst with ⟨rfl, rfl, rfl⟩ | ⟨rfl, rfl, rfl⟩ | ⟨rfl, rfl, rfl⟩
      · -- case 0
        refine g_iload 9 O dX2_faultAsSaying_9 0 rfl ?_
        refine g_aload_n 11 O dX2_faultAsSaying_11 rfl 4 rfl ?_
        refine g_get 12 O (v := .int le) inX2 0 rfl rfl 1 (by decide) kf_X2_15 rfl dX2_faultAsSaying_12 ?_
        refine g_icmp_ge 15 O 99 dX2_faultAsSaying_15 (by decide) (fun h15 => ?_) (fun h15 => ?_)
        · -- taken
          have e : k = N := by rw [hle] at h15; have := ge_of_le (by omega) (by omega) h15; omega
          subst e
          refine g_aload_n 99 O dX2_faultAsSaying_99 rfl 4 rfl ?_
          refine g_get 100 O (v := .int le) inX2 0 rfl rfl 1 (by decide) kf_X2_15 rfl dX2_faultAsSaying_100 ?_
          exact g_iret 103 O dX2_faultAsSaying_103 (by rw [hP0, fsay_all hrs]; exact ⟨by rw [hle], rfl⟩)
        · -- not taken
          have hlt : k < N := by rw [hle] at h15; exact lt_of_nge (by omega) h15
          refine g_aload_n 18 O dX2_faultAsSaying_18 rfl 4 rfl ?_
          refine g_iload 19 O dX2_faultAsSaying_19 0 rfl ?_
          refine g_callV 21 O (na := 1) (av := [.int (nI k)]) (c_X2_codeAt l E a R le cs (nI k) N k hle hN rfl hlt) kl_X2_19 km_X2_codeAt kv_X2_codeAt ki_X2 kc_X2_codeAt (by decide +kernel) rfl (Nat.le_of_ble_eq_true rfl) (Nat.le_of_ble_eq_true rfl) (fun _ h => h) 0 rfl rfl (fun s => s) (fun _ _ _ _ h => h) rfl (Nat.le_of_ble_eq_true rfl) dX2_faultAsSaying_21 (fun v9 s9 hv9 => ?_)
          obtain ⟨rfl, rfl⟩ := hv9
          refine g_istore 24 O (lv' := [(5, .int (cs k)), (4, .int (nI k)), (3, .int 1), (2, .int 0), (1, .int (nI nw)), (0, .ref (a 0))]) dX2_faultAsSaying_24 (by decide) rfl ?_
          refine g_iload_n 26 O dX2_faultAsSaying_26 rfl 2 rfl ?_
          refine g_if_eq 27 O 48 dX2_faultAsSaying_27 (by decide) (fun h27 => False.elim (absurd h27 (by decide))) (fun h27 => ?_)
          refine g_iload 30 O dX2_faultAsSaying_30 0 rfl ?_
          refine g_callS 32 O (na := 1) (av := [.int (cs k)]) (c_X2_isWordLetter l E _ _ (cs k)) kl_X2_23 ks_X2_isWordLetter ki_X2 kc_X2_isWordLetter (by decide +kernel) rfl (Nat.le_of_ble_eq_true rfl) (Nat.le_of_ble_eq_true rfl) (fun _ h => h) (fun s => s) (fun _ _ _ _ h => h) rfl (Nat.le_of_ble_eq_true rfl) dX2_faultAsSaying_32 (fun v9 s9 hv9 => ?_)
          obtain ⟨rfl, rfl⟩ := hv9
          refine g_if_eq 35 O 48 dX2_faultAsSaying_35 (by decide) (fun h35 => ?_) (fun h35 => ?_)
          · -- taken
            refine g_iload_n 48 O dX2_faultAsSaying_48 rfl 2 rfl ?_
            refine g_if_eq 49 O 68 dX2_faultAsSaying_49 (by decide) (fun h49 => False.elim (absurd h49 (by decide))) (fun h49 => ?_)
            refine g_iload 52 O dX2_faultAsSaying_52 0 rfl ?_
            refine g_bipush 54 O (v := 110) dX2_faultAsSaying_54 (by decide) ?_
            refine g_icmp_ne 56 O 68 dX2_faultAsSaying_56 (by decide) (fun h56 => ?_) (fun h56 => ?_)
            · -- taken
              refine g_iload_n 68 O dX2_faultAsSaying_68 rfl 2 rfl ?_
              refine g_if_ne 69 O 90 dX2_faultAsSaying_69 (by decide) (fun h69 => ?_) (fun h69 => False.elim (absurd h69 (by decide)))
              refine g_iload 90 O dX2_faultAsSaying_90 1 rfl ?_
              exact g_iret 92 O dX2_faultAsSaying_92 (by rw [hP0, fsay_stop hrs (sp0_x (ite_f h35) h56) hlt]; exact ⟨rfl, rfl⟩)
            · -- not taken
              refine g_iload_n 59 O dX2_faultAsSaying_59 rfl 3 rfl ?_
              refine g_if_ne 60 O 68 dX2_faultAsSaying_60 (by decide) (fun h60 => False.elim (absurd h60 (by decide))) (fun h60 => ?_)
              refine g_iconst 63 O (v := 1) dX2_faultAsSaying_63 (by decide) ?_
              refine g_istore_n 64 O (lv' := [(2, .int 1), (5, .int (cs k)), (4, .int (nI k)), (3, .int 1), (1, .int (nI nw)), (0, .ref (a 0))]) dX2_faultAsSaying_64 rfl (by decide) rfl ?_
              refine g_goto 65 O 93 dX2_faultAsSaying_65 (by decide) ?_
              refine g_iinc 93 O (v := nI (k + 1)) (q := 2) (lv' := [(4, .int (nI (k + 1))), (2, .int 1), (5, .int (cs k)), (3, .int 1), (1, .int (nI nw)), (0, .ref (a 0))]) dX2_faultAsSaying_93 rfl (nI_1 k) (by decide) rfl ?_
              refine g_goto 96 O 9 dX2_faultAsSaying_96 (by decide) ?_
              refine g_sub [0, 3, 1, 4, 5] (lv' := [(4, .int (nI (k + 1))), (3, .int 1), (2, .int 1), (1, .int (nI nw)), (0, .ref (a 0))]) rfl ?_
              exact ih9 (k + 1) 1 nw (nI nw) 1 1 (by omega) (rs_go hrs (sp0_n h56)) rfl (Or.inr (Or.inl ⟨rfl, rfl, rfl⟩)) (by omega)
          · -- not taken
            refine g_iinc 38 O (v := nI (nw + 1)) (q := 4) (lv' := [(1, .int (nI (nw + 1))), (5, .int (cs k)), (4, .int (nI k)), (3, .int 1), (2, .int 0), (0, .ref (a 0))]) dX2_faultAsSaying_38 rfl (nI_1 nw) (by decide) rfl ?_
            refine g_iconst 41 O (v := 0) dX2_faultAsSaying_41 (by decide) ?_
            refine g_istore_n 42 O (lv' := [(2, .int 0), (1, .int (nI (nw + 1))), (5, .int (cs k)), (4, .int (nI k)), (3, .int 1), (0, .ref (a 0))]) dX2_faultAsSaying_42 rfl (by decide) rfl ?_
            refine g_iconst 43 O (v := 0) dX2_faultAsSaying_43 (by decide) ?_
            refine g_istore_n 44 O (lv' := [(3, .int 0), (2, .int 0), (1, .int (nI (nw + 1))), (5, .int (cs k)), (4, .int (nI k)), (0, .ref (a 0))]) dX2_faultAsSaying_44 rfl (by decide) rfl ?_
            refine g_goto 45 O 93 dX2_faultAsSaying_45 (by decide) ?_
            refine g_iinc 93 O (v := nI (k + 1)) (q := 4) (lv' := [(4, .int (nI (k + 1))), (3, .int 0), (2, .int 0), (1, .int (nI (nw + 1))), (5, .int (cs k)), (0, .ref (a 0))]) dX2_faultAsSaying_93 rfl (nI_1 k) (by decide) rfl ?_
            refine g_goto 96 O 9 dX2_faultAsSaying_96 (by decide) ?_
            refine g_sub [0, 1, 2, 3, 5] (lv' := [(4, .int (nI (k + 1))), (3, .int 0), (2, .int 0), (1, .int (nI (nw + 1))), (0, .ref (a 0))]) rfl ?_
            exact ih9 (k + 1) 2 (nw + 1) (nI (nw + 1)) 0 0 (by omega) (rs_go hrs (sp0_l (ite_t h35))) rfl (Or.inr (Or.inr ⟨rfl, rfl, rfl⟩)) (by omega)
      · -- case 1
        refine g_iload 9 O dX2_faultAsSaying_9 0 rfl ?_
        refine g_aload_n 11 O dX2_faultAsSaying_11 rfl 4 rfl ?_
        refine g_get 12 O (v := .int le) inX2 0 rfl rfl 1 (by decide) kf_X2_15 rfl dX2_faultAsSaying_12 ?_
        refine g_icmp_ge 15 O 99 dX2_faultAsSaying_15 (by decide) (fun h15 => ?_) (fun h15 => ?_)
        · -- taken
          have e : k = N := by rw [hle] at h15; have := ge_of_le (by omega) (by omega) h15; omega
          subst e
          refine g_aload_n 99 O dX2_faultAsSaying_99 rfl 4 rfl ?_
          refine g_get 100 O (v := .int le) inX2 0 rfl rfl 1 (by decide) kf_X2_15 rfl dX2_faultAsSaying_100 ?_
          exact g_iret 103 O dX2_faultAsSaying_103 (by rw [hP0, fsay_all hrs]; exact ⟨by rw [hle], rfl⟩)
        · -- not taken
          have hlt : k < N := by rw [hle] at h15; exact lt_of_nge (by omega) h15
          refine g_aload_n 18 O dX2_faultAsSaying_18 rfl 4 rfl ?_
          refine g_iload 19 O dX2_faultAsSaying_19 0 rfl ?_
          refine g_callV 21 O (na := 1) (av := [.int (nI k)]) (c_X2_codeAt l E a R le cs (nI k) N k hle hN rfl hlt) kl_X2_19 km_X2_codeAt kv_X2_codeAt ki_X2 kc_X2_codeAt (by decide +kernel) rfl (Nat.le_of_ble_eq_true rfl) (Nat.le_of_ble_eq_true rfl) (fun _ h => h) 0 rfl rfl (fun s => s) (fun _ _ _ _ h => h) rfl (Nat.le_of_ble_eq_true rfl) dX2_faultAsSaying_21 (fun v9 s9 hv9 => ?_)
          obtain ⟨rfl, rfl⟩ := hv9
          refine g_istore 24 O (lv' := [(5, .int (cs k)), (4, .int (nI k)), (3, .int 1), (2, .int 1), (1, .int (nI nw)), (0, .ref (a 0))]) dX2_faultAsSaying_24 (by decide) rfl ?_
          refine g_iload_n 26 O dX2_faultAsSaying_26 rfl 2 rfl ?_
          refine g_if_eq 27 O 48 dX2_faultAsSaying_27 (by decide) (fun h27 => False.elim (absurd h27 (by decide))) (fun h27 => ?_)
          refine g_iload 30 O dX2_faultAsSaying_30 0 rfl ?_
          refine g_callS 32 O (na := 1) (av := [.int (cs k)]) (c_X2_isWordLetter l E _ _ (cs k)) kl_X2_23 ks_X2_isWordLetter ki_X2 kc_X2_isWordLetter (by decide +kernel) rfl (Nat.le_of_ble_eq_true rfl) (Nat.le_of_ble_eq_true rfl) (fun _ h => h) (fun s => s) (fun _ _ _ _ h => h) rfl (Nat.le_of_ble_eq_true rfl) dX2_faultAsSaying_32 (fun v9 s9 hv9 => ?_)
          obtain ⟨rfl, rfl⟩ := hv9
          refine g_if_eq 35 O 48 dX2_faultAsSaying_35 (by decide) (fun h35 => ?_) (fun h35 => ?_)
          · -- taken
            refine g_iload_n 48 O dX2_faultAsSaying_48 rfl 2 rfl ?_
            refine g_if_eq 49 O 68 dX2_faultAsSaying_49 (by decide) (fun h49 => False.elim (absurd h49 (by decide))) (fun h49 => ?_)
            refine g_iload 52 O dX2_faultAsSaying_52 0 rfl ?_
            refine g_bipush 54 O (v := 110) dX2_faultAsSaying_54 (by decide) ?_
            refine g_icmp_ne 56 O 68 dX2_faultAsSaying_56 (by decide) (fun h56 => ?_) (fun h56 => ?_)
            · -- taken
              refine g_iload_n 68 O dX2_faultAsSaying_68 rfl 2 rfl ?_
              refine g_if_ne 69 O 90 dX2_faultAsSaying_69 (by decide) (fun h69 => ?_) (fun h69 => False.elim (absurd h69 (by decide)))
              refine g_iload 90 O dX2_faultAsSaying_90 1 rfl ?_
              exact g_iret 92 O dX2_faultAsSaying_92 (by rw [hP0, fsay_stop hrs (sp1_x (ite_f h35)) hlt]; exact ⟨rfl, rfl⟩)
            · -- not taken
              refine g_iload_n 59 O dX2_faultAsSaying_59 rfl 3 rfl ?_
              refine g_if_ne 60 O 68 dX2_faultAsSaying_60 (by decide) (fun h60 => ?_) (fun h60 => False.elim (absurd h60 (by decide)))
              refine g_iload_n 68 O dX2_faultAsSaying_68 rfl 2 rfl ?_
              refine g_if_ne 69 O 90 dX2_faultAsSaying_69 (by decide) (fun h69 => ?_) (fun h69 => False.elim (absurd h69 (by decide)))
              refine g_iload 90 O dX2_faultAsSaying_90 1 rfl ?_
              exact g_iret 92 O dX2_faultAsSaying_92 (by rw [hP0, fsay_stop hrs (sp1_x (ite_f h35)) hlt]; exact ⟨rfl, rfl⟩)
          · -- not taken
            refine g_iinc 38 O (v := nI (nw + 1)) (q := 4) (lv' := [(1, .int (nI (nw + 1))), (5, .int (cs k)), (4, .int (nI k)), (3, .int 1), (2, .int 1), (0, .ref (a 0))]) dX2_faultAsSaying_38 rfl (nI_1 nw) (by decide) rfl ?_
            refine g_iconst 41 O (v := 0) dX2_faultAsSaying_41 (by decide) ?_
            refine g_istore_n 42 O (lv' := [(2, .int 0), (1, .int (nI (nw + 1))), (5, .int (cs k)), (4, .int (nI k)), (3, .int 1), (0, .ref (a 0))]) dX2_faultAsSaying_42 rfl (by decide) rfl ?_
            refine g_iconst 43 O (v := 0) dX2_faultAsSaying_43 (by decide) ?_
            refine g_istore_n 44 O (lv' := [(3, .int 0), (2, .int 0), (1, .int (nI (nw + 1))), (5, .int (cs k)), (4, .int (nI k)), (0, .ref (a 0))]) dX2_faultAsSaying_44 rfl (by decide) rfl ?_
            refine g_goto 45 O 93 dX2_faultAsSaying_45 (by decide) ?_
            refine g_iinc 93 O (v := nI (k + 1)) (q := 4) (lv' := [(4, .int (nI (k + 1))), (3, .int 0), (2, .int 0), (1, .int (nI (nw + 1))), (5, .int (cs k)), (0, .ref (a 0))]) dX2_faultAsSaying_93 rfl (nI_1 k) (by decide) rfl ?_
            refine g_goto 96 O 9 dX2_faultAsSaying_96 (by decide) ?_
            refine g_sub [0, 1, 2, 3, 5] (lv' := [(4, .int (nI (k + 1))), (3, .int 0), (2, .int 0), (1, .int (nI (nw + 1))), (0, .ref (a 0))]) rfl ?_
            exact ih9 (k + 1) 2 (nw + 1) (nI (nw + 1)) 0 0 (by omega) (rs_go hrs (sp1_l (ite_t h35))) rfl (Or.inr (Or.inr ⟨rfl, rfl, rfl⟩)) (by omega)
      · -- case 2
        refine g_iload 9 O dX2_faultAsSaying_9 0 rfl ?_
        refine g_aload_n 11 O dX2_faultAsSaying_11 rfl 4 rfl ?_
        refine g_get 12 O (v := .int le) inX2 0 rfl rfl 1 (by decide) kf_X2_15 rfl dX2_faultAsSaying_12 ?_
        refine g_icmp_ge 15 O 99 dX2_faultAsSaying_15 (by decide) (fun h15 => ?_) (fun h15 => ?_)
        · -- taken
          have e : k = N := by rw [hle] at h15; have := ge_of_le (by omega) (by omega) h15; omega
          subst e
          refine g_aload_n 99 O dX2_faultAsSaying_99 rfl 4 rfl ?_
          refine g_get 100 O (v := .int le) inX2 0 rfl rfl 1 (by decide) kf_X2_15 rfl dX2_faultAsSaying_100 ?_
          exact g_iret 103 O dX2_faultAsSaying_103 (by rw [hP0, fsay_all hrs]; exact ⟨by rw [hle], rfl⟩)
        · -- not taken
          have hlt : k < N := by rw [hle] at h15; exact lt_of_nge (by omega) h15
          refine g_aload_n 18 O dX2_faultAsSaying_18 rfl 4 rfl ?_
          refine g_iload 19 O dX2_faultAsSaying_19 0 rfl ?_
          refine g_callV 21 O (na := 1) (av := [.int (nI k)]) (c_X2_codeAt l E a R le cs (nI k) N k hle hN rfl hlt) kl_X2_19 km_X2_codeAt kv_X2_codeAt ki_X2 kc_X2_codeAt (by decide +kernel) rfl (Nat.le_of_ble_eq_true rfl) (Nat.le_of_ble_eq_true rfl) (fun _ h => h) 0 rfl rfl (fun s => s) (fun _ _ _ _ h => h) rfl (Nat.le_of_ble_eq_true rfl) dX2_faultAsSaying_21 (fun v9 s9 hv9 => ?_)
          obtain ⟨rfl, rfl⟩ := hv9
          refine g_istore 24 O (lv' := [(5, .int (cs k)), (4, .int (nI k)), (3, .int 0), (2, .int 0), (1, .int (nI nw)), (0, .ref (a 0))]) dX2_faultAsSaying_24 (by decide) rfl ?_
          refine g_iload_n 26 O dX2_faultAsSaying_26 rfl 2 rfl ?_
          refine g_if_eq 27 O 48 dX2_faultAsSaying_27 (by decide) (fun h27 => ?_) (fun h27 => False.elim (absurd h27 (by decide)))
          refine g_iload_n 48 O dX2_faultAsSaying_48 rfl 2 rfl ?_
          refine g_if_eq 49 O 68 dX2_faultAsSaying_49 (by decide) (fun h49 => ?_) (fun h49 => False.elim (absurd h49 (by decide)))
          refine g_iload_n 68 O dX2_faultAsSaying_68 rfl 2 rfl ?_
          refine g_if_ne 69 O 90 dX2_faultAsSaying_69 (by decide) (fun h69 => False.elim (absurd h69 (by decide))) (fun h69 => ?_)
          refine g_iload_n 72 O dX2_faultAsSaying_72 rfl 4 rfl ?_
          refine g_iconst 73 O (v := 4) dX2_faultAsSaying_73 (by decide) ?_
          refine g_icmp_ge 74 O 90 dX2_faultAsSaying_74 (by decide) (fun h74 => ?_) (fun h74 => ?_)
          · -- taken
            refine g_iload 90 O dX2_faultAsSaying_90 1 rfl ?_
            exact g_iret 92 O dX2_faultAsSaying_92 (by rw [hP0, fsay_stop hrs (sp2_y (ge_of_le (n := 4) (by omega) (by decide) h74)) hlt]; exact ⟨rfl, rfl⟩)
          · -- not taken
            refine g_iload 77 O dX2_faultAsSaying_77 0 rfl ?_
            refine g_callS 79 O (na := 1) (av := [.int (cs k)]) (c_X2_isJoining l E _ _ (cs k)) kl_X2_27 ks_X2_isJoining ki_X2 kc_X2_isJoining (by decide +kernel) rfl (Nat.le_of_ble_eq_true rfl) (Nat.le_of_ble_eq_true rfl) (fun _ h => h) (fun s => s) (fun _ _ _ _ h => h) rfl (Nat.le_of_ble_eq_true rfl) dX2_faultAsSaying_79 (fun v9 s9 hv9 => ?_)
            obtain ⟨rfl, rfl⟩ := hv9
            refine g_if_eq 82 O 90 dX2_faultAsSaying_82 (by decide) (fun h82 => ?_) (fun h82 => ?_)
            · -- taken
              refine g_iload 90 O dX2_faultAsSaying_90 1 rfl ?_
              exact g_iret 92 O dX2_faultAsSaying_92 (by rw [hP0, fsay_stop hrs (sp2_x (ite_f h82)) hlt]; exact ⟨rfl, rfl⟩)
            · -- not taken
              refine g_iconst 85 O (v := 1) dX2_faultAsSaying_85 (by decide) ?_
              refine g_istore_n 86 O (lv' := [(3, .int 1), (5, .int (cs k)), (4, .int (nI k)), (2, .int 0), (1, .int (nI nw)), (0, .ref (a 0))]) dX2_faultAsSaying_86 rfl (by decide) rfl ?_
              refine g_goto 87 O 93 dX2_faultAsSaying_87 (by decide) ?_
              refine g_iinc 93 O (v := nI (k + 1)) (q := 2) (lv' := [(4, .int (nI (k + 1))), (3, .int 1), (5, .int (cs k)), (2, .int 0), (1, .int (nI nw)), (0, .ref (a 0))]) dX2_faultAsSaying_93 rfl (nI_1 k) (by decide) rfl ?_
              refine g_goto 96 O 9 dX2_faultAsSaying_96 (by decide) ?_
              refine g_sub [0, 1, 3, 4, 5] (lv' := [(4, .int (nI (k + 1))), (3, .int 1), (2, .int 0), (1, .int (nI nw)), (0, .ref (a 0))]) rfl ?_
              exact ih9 (k + 1) 0 nw (nI nw) 0 1 (by omega) (rs_go hrs (sp2_j (ite_t h82) (Nat.not_le.mp (fun q => h74 (nI_le (a := 4) q (by omega)))))) rfl (Or.inl ⟨rfl, rfl, rfl⟩) (by omega)
  exact L9 _ 0 0 0 0 0 1 (Nat.zero_le _) rfl rfl (Or.inl ⟨rfl, rfl, rfl⟩) (Nat.lt_succ_self _)

theorem gse_6 {cs : Nat → Int32} {k : Nat} (h : 6 ≤ k) : gse cs k = false := by
  have h2 : ¬ k < 6 := by omega
  simp [gse, h2]
theorem gse_x {cs : Nat → Int32} {k : Nat} (h : ¬ (48 ≤ cs k ∧ cs k ≤ 53)) : gse cs k = false := by simp only [gse, h]; simp
theorem gse_t {cs : Nat → Int32} {k : Nat} (h1 : k < 6) (h : 48 ≤ cs k ∧ cs k ≤ 53) : gse cs k = true := by simp [gse, h, h1]

set_option maxRecDepth 100000 in
set_option maxHeartbeats 4000000 in
theorem c_X2_faultAsSenses (l : Launch) (E : Ev) (a : Nat → Nat) (R : va_W) (le : Int32) (cs : Nat → Int32) (N : Nat) (hle : le = nI N) (hN : N ≤ 14) : Ctr l yX2_faultAsSenses cX2_faultAsSenses 3 (some .int) 1 21 E (fun s => wP E a s ++ R) [.ref (a 0)] ((le, cs)) (fun v s => v = some (.int (nI (fsen cs N))) ∧ s = (le, cs)) := by
  refine Ctr.of' (by decide +kernel) (Nat.le_of_ble_eq_true rfl) (fun X P0 hP0 O => ?_)
  refine g_sub [0] (lv' := [(0, .ref (a 0))]) rfl ?_
  refine g_iconst 0 O (v := 0) dX2_faultAsSenses_0 (by decide) ?_
  refine g_istore_n 1 O (lv' := [(1, .int 0), (0, .ref (a 0))]) dX2_faultAsSenses_1 rfl (by decide) rfl ?_
  refine g_sub [0, 1] (lv' := [(1, .int 0), (0, .ref (a 0))]) rfl ?_
  have L2 : ∀ (fuel : Nat) (k : Nat) (hk : k ≤ N) (hgs : ∀ j, j < k → gse cs j = true), N - k < fuel → G l E (fun s => wP E a s ++ R) P0 X 3 ((le, cs)) 2 [(1, .int (nI k)), (0, .ref (a 0))] [] := by
    intro fuel
    induction fuel with
    | zero => intro k hk hgs hfu; exact absurd hfu (Nat.not_lt_zero _)
    | succ fuel ih2 =>
      intro k hk hgs hfu
      refine g_iload_n 2 O dX2_faultAsSenses_2 rfl 0 rfl ?_
      refine g_aload_n 3 O dX2_faultAsSenses_3 rfl 1 rfl ?_
      refine g_get 4 O (v := .int le) inX2 0 rfl rfl 1 (by decide) kf_X2_15 rfl dX2_faultAsSenses_4 ?_
      refine g_icmp_ge 7 O 42 dX2_faultAsSenses_7 (by decide) (fun h7 => ?_) (fun h7 => ?_)
      · -- taken
        have e : k = N := by rw [hle] at h7; have := ge_of_le (by omega) (by omega) h7; omega
        subst e
        refine g_aload_n 42 O dX2_faultAsSenses_42 rfl 1 rfl ?_
        refine g_get 43 O (v := .int le) inX2 0 rfl rfl 1 (by decide) kf_X2_15 rfl dX2_faultAsSenses_43 ?_
        exact g_iret 46 O dX2_faultAsSenses_46 (by rw [hP0, fsen, fp_all hgs]; exact ⟨by rw [hle], rfl⟩)
      · -- not taken
        have hlt : k < N := by rw [hle] at h7; exact lt_of_nge (by omega) h7
        refine g_aload_n 10 O dX2_faultAsSenses_10 rfl 1 rfl ?_
        refine g_iload_n 11 O dX2_faultAsSenses_11 rfl 0 rfl ?_
        refine g_callV 12 O (na := 1) (av := [.int (nI k)]) (c_X2_codeAt l E a R le cs (nI k) N k hle hN rfl hlt) kl_X2_19 km_X2_codeAt kv_X2_codeAt ki_X2 kc_X2_codeAt (by decide +kernel) rfl (Nat.le_of_ble_eq_true rfl) (Nat.le_of_ble_eq_true rfl) (fun _ h => h) 0 rfl rfl (fun s => s) (fun _ _ _ _ h => h) rfl (Nat.le_of_ble_eq_true rfl) dX2_faultAsSenses_12 (fun v9 s9 hv9 => ?_)
        obtain ⟨rfl, rfl⟩ := hv9
        refine g_istore_n 15 O (lv' := [(2, .int (cs k)), (1, .int (nI k)), (0, .ref (a 0))]) dX2_faultAsSenses_15 rfl (by decide) rfl ?_
        refine g_iload_n 16 O dX2_faultAsSenses_16 rfl 1 rfl ?_
        refine g_bipush 17 O (v := 6) dX2_faultAsSenses_17 (by decide) ?_
        refine g_icmp_ge 19 O 34 dX2_faultAsSenses_19 (by decide) (fun h19 => ?_) (fun h19 => ?_)
        · -- taken
          refine g_iload_n 34 O dX2_faultAsSenses_34 rfl 1 rfl ?_
          exact g_iret 35 O dX2_faultAsSenses_35 (by rw [hP0, fsen, fp_stop hgs (gse_6 (ge_of_le (n := 6) (by omega) (by decide) h19)) (by omega) hlt]; exact ⟨rfl, rfl⟩)
        · -- not taken
          refine g_iload_n 22 O dX2_faultAsSenses_22 rfl 0 rfl ?_
          refine g_bipush 23 O (v := 48) dX2_faultAsSenses_23 (by decide) ?_
          refine g_icmp_lt 25 O 34 dX2_faultAsSenses_25 (by decide) (fun h25 => ?_) (fun h25 => ?_)
          · -- taken
            refine g_iload_n 34 O dX2_faultAsSenses_34 rfl 1 rfl ?_
            exact g_iret 35 O dX2_faultAsSenses_35 (by rw [hP0, fsen, fp_stop hgs (gse_x (fun q => Int32.not_le.mpr h25 q.1)) (by omega) hlt]; exact ⟨rfl, rfl⟩)
          · -- not taken
            refine g_iload_n 28 O dX2_faultAsSenses_28 rfl 0 rfl ?_
            refine g_bipush 29 O (v := 53) dX2_faultAsSenses_29 (by decide) ?_
            refine g_icmp_le 31 O 36 dX2_faultAsSenses_31 (by decide) (fun h31 => ?_) (fun h31 => ?_)
            · -- taken
              refine g_iinc 36 O (v := nI (k + 1)) (q := 1) (lv' := [(1, .int (nI (k + 1))), (2, .int (cs k)), (0, .ref (a 0))]) dX2_faultAsSenses_36 rfl (nI_1 k) (by decide) rfl ?_
              refine g_goto 39 O 2 dX2_faultAsSenses_39 (by decide) ?_
              refine g_sub [0, 2] (lv' := [(1, .int (nI (k + 1))), (0, .ref (a 0))]) rfl ?_
              exact ih2 (k + 1) (by omega) (fun j h => by
            rcases Nat.lt_or_ge j k with q | q
            · exact hgs j q
            · have e : j = k := by omega
              subst e; exact gse_t (lt_of_nge (n := 6) (by omega) h19) ⟨Int32.not_lt.mp h25, h31⟩) (by omega)
            · -- not taken
              refine g_iload_n 34 O dX2_faultAsSenses_34 rfl 1 rfl ?_
              exact g_iret 35 O dX2_faultAsSenses_35 (by rw [hP0, fsen, fp_stop hgs (gse_x (fun q => h31 q.2)) (by omega) hlt]; exact ⟨rfl, rfl⟩)
  exact L2 _ 0 (Nat.zero_le _) (fun j h => absurd h (Nat.not_lt_zero _)) (Nat.lt_succ_self _)

theorem isSay_iff {cs : Nat → Int32} {n : Nat} : isSay cs n = true ↔ ∃ nw, rs cs n = some (2, nw) := by
  unfold isSay
  cases e : rs cs n with
  | none => simp
  | some s =>
    obtain ⟨x, y⟩ := s
    simp
theorem isSay_0 (cs : Nat → Int32) : isSay cs 0 = false := rfl
theorem isSay_n {cs : Nat → Int32} {n : Nat} (h : ¬ fsay cs n = n) : isSay cs n = false := by
  cases e : isSay cs n with
  | false => rfl
  | true => obtain ⟨nw, h1⟩ := isSay_iff.mp e; exact absurd (fsay_all h1) h
theorem fsay_rs {cs : Nat → Int32} : ∀ {n : Nat}, fsay cs n = n → ∃ s, rs cs n = some s
  | 0, _ => ⟨(0, 0), rfl⟩
  | n + 1, h => by
    unfold fsay at h
    rw [fp] at h
    split at h
    · rename_i h2; exact Option.isSome_iff_exists.mp h2.2
    · have := fp_le (fun k => (rs cs (k + 1)).isSome) n; omega
theorem isSay_s {cs : Nat → Int32} {n : Nat} (h : fsay cs (n + 1) = n + 1) : isSay cs (n + 1) = decide (97 ≤ cs n ∧ cs n ≤ 102) := by
  obtain ⟨s, hs⟩ := fsay_rs h
  have h1 := hs
  rw [rs] at h1
  cases e : rs cs n with
  | none => rw [e] at h1; cases h1
  | some s0 =>
    rw [e] at h1
    have h1 : sp s0 (cs n) = some s := h1
    unfold isSay
    rw [hs]
    unfold sp at h1
    split at h1
    · split at h1
      · rename_i h2; cases h1; rcases h2.1 with q | q <;> rw [q] <;> rfl
      · cases h1
    · split at h1
      · rename_i h2; cases h1; rw [h2.2]; rfl
      · split at h1
        · rename_i h2; cases h1; simp [h2]
        · cases h1

set_option maxRecDepth 100000 in
set_option maxHeartbeats 4000000 in
theorem c_X2_isSaying (l : Launch) (E : Ev) (a : Nat → Nat) (R : va_W) (le : Int32) (cs : Nat → Int32) (N : Nat) (hle : le = nI N) (hN : N ≤ 14) : Ctr l yX2_isSaying cX2_isSaying 1 (some .boolean) 2 46 E (fun s => wP E a s ++ R) [.ref (a 0)] ((le, cs)) (fun v s => v = some (.int (bi (isSay cs N))) ∧ s = (le, cs)) := by
  refine Ctr.of' (by decide +kernel) (Nat.le_of_ble_eq_true rfl) (fun X P0 hP0 O => ?_)
  refine g_sub [0] (lv' := [(0, .ref (a 0))]) rfl ?_
  refine g_aload_n 0 O dX2_isSaying_0 rfl 0 rfl ?_
  refine g_callV 1 O (na := 0) (av := []) (c_X2_faultAsSaying l E a R le cs N hle hN) kl_X2_30 km_X2_faultAsSaying kv_X2_faultAsSaying ki_X2 kc_X2_faultAsSaying (by decide +kernel) rfl (Nat.le_of_ble_eq_true rfl) (Nat.le_of_ble_eq_true rfl) (fun _ h => h) 0 rfl rfl (fun s => s) (fun _ _ _ _ h => h) rfl (Nat.le_of_ble_eq_true rfl) dX2_isSaying_1 (fun v9 s9 hv9 => ?_)
  obtain ⟨rfl, rfl⟩ := hv9
  refine g_aload_n 4 O dX2_isSaying_4 rfl 0 rfl ?_
  refine g_get 5 O (v := .int le) inX2 0 rfl rfl 1 (by decide) kf_X2_15 rfl dX2_isSaying_5 ?_
  refine g_icmp_ne 8 O 31 dX2_isSaying_8 (by decide) (fun h8 => ?_) (fun h8 => ?_)
  · -- taken
    refine g_iconst 31 O (v := 0) dX2_isSaying_31 (by decide) ?_
    exact g_zret (rfl) 32 O dX2_isSaying_32 (by rw [hP0, isSay_n (fun e => h8 (by rw [e, hle]))]; exact ⟨rfl, rfl⟩)
  · -- not taken
    have hf : fsay cs N = N := by rw [hle] at h8; exact (nI_eq (by have := fp_le (fun k => (rs cs (k + 1)).isSome) N; unfold fsay; omega) (by omega)).mp h8
    rcases N with _ | K
    · -- 0
      refine g_aload_n 11 O dX2_isSaying_11 rfl 0 rfl ?_
      refine g_aload_n 12 O dX2_isSaying_12 rfl 0 rfl ?_
      refine g_get 13 O (v := .int le) inX2 0 rfl rfl 1 (by decide) kf_X2_15 rfl dX2_isSaying_13 ?_
      refine g_iconst 16 O (v := 1) dX2_isSaying_16 (by decide) ?_
      refine g_isub 17 O dX2_isSaying_17 ?_
      refine g_callV 18 O (na := 1) (av := [.int (le - 1)]) (c_X2_codeAt_m l E a R le cs (le - 1) (by rw [hle]; rfl)) kl_X2_19 km_X2_codeAt kv_X2_codeAt ki_X2 kc_X2_codeAt (by decide +kernel) rfl (Nat.le_of_ble_eq_true rfl) (Nat.le_of_ble_eq_true rfl) (fun _ h => h) 0 rfl rfl (fun s => s) (fun _ _ _ _ h => h) rfl (Nat.le_of_ble_eq_true rfl) dX2_isSaying_18 (fun v9 s9 hv9 => ?_)
      obtain ⟨rfl, rfl⟩ := hv9
      refine g_callS 21 O (na := 1) (av := [.int (-1)]) (c_X2_isWordLetter l E _ _ (-1)) kl_X2_23 ks_X2_isWordLetter ki_X2 kc_X2_isWordLetter (by decide +kernel) rfl (Nat.le_of_ble_eq_true rfl) (Nat.le_of_ble_eq_true rfl) (fun _ h => h) (fun s => s) (fun _ _ _ _ h => h) rfl (Nat.le_of_ble_eq_true rfl) dX2_isSaying_21 (fun v9 s9 hv9 => ?_)
      obtain ⟨rfl, rfl⟩ := hv9
      refine g_if_eq 24 O 31 dX2_isSaying_24 (by decide) (fun h24 => ?_) (fun h24 => False.elim (h24 rfl))
      refine g_iconst 31 O (v := 0) dX2_isSaying_31 (by decide) ?_
      exact g_zret (rfl) 32 O dX2_isSaying_32 (by rw [hP0, isSay_0]; exact ⟨rfl, rfl⟩)
    · -- n
      refine g_aload_n 11 O dX2_isSaying_11 rfl 0 rfl ?_
      refine g_aload_n 12 O dX2_isSaying_12 rfl 0 rfl ?_
      refine g_get 13 O (v := .int le) inX2 0 rfl rfl 1 (by decide) kf_X2_15 rfl dX2_isSaying_13 ?_
      refine g_iconst 16 O (v := 1) dX2_isSaying_16 (by decide) ?_
      refine g_isub 17 O dX2_isSaying_17 ?_
      refine g_callV 18 O (na := 1) (av := [.int (le - 1)]) (c_X2_codeAt l E a R le cs (le - 1) (K + 1) K hle hN (by rw [hle]; exact pk_sub (a := K + 1) (b := 1) (by omega)) (by omega)) kl_X2_19 km_X2_codeAt kv_X2_codeAt ki_X2 kc_X2_codeAt (by decide +kernel) rfl (Nat.le_of_ble_eq_true rfl) (Nat.le_of_ble_eq_true rfl) (fun _ h => h) 0 rfl rfl (fun s => s) (fun _ _ _ _ h => h) rfl (Nat.le_of_ble_eq_true rfl) dX2_isSaying_18 (fun v9 s9 hv9 => ?_)
      obtain ⟨rfl, rfl⟩ := hv9
      refine g_callS 21 O (na := 1) (av := [.int (cs K)]) (c_X2_isWordLetter l E _ _ (cs K)) kl_X2_23 ks_X2_isWordLetter ki_X2 kc_X2_isWordLetter (by decide +kernel) rfl (Nat.le_of_ble_eq_true rfl) (Nat.le_of_ble_eq_true rfl) (fun _ h => h) (fun s => s) (fun _ _ _ _ h => h) rfl (Nat.le_of_ble_eq_true rfl) dX2_isSaying_21 (fun v9 s9 hv9 => ?_)
      obtain ⟨rfl, rfl⟩ := hv9
      refine g_if_eq 24 O 31 dX2_isSaying_24 (by decide) (fun h24 => ?_) (fun h24 => ?_)
      · -- taken
        refine g_iconst 31 O (v := 0) dX2_isSaying_31 (by decide) ?_
        exact g_zret (rfl) 32 O dX2_isSaying_32 (by rw [hP0, isSay_s hf, decide_eq_false (ite_f h24)]; exact ⟨rfl, rfl⟩)
      · -- not taken
        refine g_iconst 27 O (v := 1) dX2_isSaying_27 (by decide) ?_
        refine g_goto 28 O 32 dX2_isSaying_28 (by decide) ?_
        exact g_zret (rfl) 32 O dX2_isSaying_32 (by rw [hP0, isSay_s hf, decide_eq_true (ite_t h24)]; exact ⟨rfl, rfl⟩)

set_option maxRecDepth 100000 in
set_option maxHeartbeats 4000000 in
theorem c_X2_isSenses (l : Launch) (E : Ev) (a : Nat → Nat) (R : va_W) (le : Int32) (cs : Nat → Int32) (N : Nat) (hle : le = nI N) (hN : N ≤ 14) : Ctr l yX2_isSenses cX2_isSenses 1 (some .boolean) 2 43 E (fun s => wP E a s ++ R) [.ref (a 0)] ((le, cs)) (fun v s => v = some (.int (bi (isSen cs N))) ∧ s = (le, cs)) := by
  refine Ctr.of' (by decide +kernel) (Nat.le_of_ble_eq_true rfl) (fun X P0 hP0 O => ?_)
  refine g_sub [0] (lv' := [(0, .ref (a 0))]) rfl ?_
  refine g_aload_n 0 O dX2_isSenses_0 rfl 0 rfl ?_
  refine g_get 1 O (v := .int le) inX2 0 rfl rfl 1 (by decide) kf_X2_15 rfl dX2_isSenses_1 ?_
  refine g_bipush 4 O (v := 6) dX2_isSenses_4 (by decide) ?_
  refine g_icmp_ne 6 O 24 dX2_isSenses_6 (by decide) (fun h6 => ?_) (fun h6 => ?_)
  · -- taken
    refine g_iconst 24 O (v := 0) dX2_isSenses_24 (by decide) ?_
    exact g_zret (rfl) 25 O dX2_isSenses_25 (by rw [hP0, isSen, decide_eq_false (fun e => h6 (by rw [hle, e]; rfl))]; exact ⟨rfl, rfl⟩)
  · -- not taken
    rw [hle] at h6
    have h6 : N = 6 := (nI_eq (b := 6) (by omega) (by decide)).mp h6
    refine g_aload_n 9 O dX2_isSenses_9 rfl 0 rfl ?_
    refine g_callV 10 O (na := 0) (av := []) (c_X2_faultAsSenses l E a R le cs N hle hN) kl_X2_34 km_X2_faultAsSenses kv_X2_faultAsSenses ki_X2 kc_X2_faultAsSenses (by decide +kernel) rfl (Nat.le_of_ble_eq_true rfl) (Nat.le_of_ble_eq_true rfl) (fun _ h => h) 0 rfl rfl (fun s => s) (fun _ _ _ _ h => h) rfl (Nat.le_of_ble_eq_true rfl) dX2_isSenses_10 (fun v9 s9 hv9 => ?_)
    obtain ⟨rfl, rfl⟩ := hv9
    refine g_aload_n 13 O dX2_isSenses_13 rfl 0 rfl ?_
    refine g_get 14 O (v := .int le) inX2 0 rfl rfl 1 (by decide) kf_X2_15 rfl dX2_isSenses_14 ?_
    refine g_icmp_ne 17 O 24 dX2_isSenses_17 (by decide) (fun h17 => ?_) (fun h17 => ?_)
    · -- taken
      refine g_iconst 24 O (v := 0) dX2_isSenses_24 (by decide) ?_
      exact g_zret (rfl) 25 O dX2_isSenses_25 (by rw [hP0, isSen, decide_eq_true h6, decide_eq_false (p := fsen cs N = N) (fun e => h17 (by rw [hle, e]))]; exact ⟨rfl, rfl⟩)
    · -- not taken
      rw [hle] at h17
      have h17 : fsen cs N = N := (nI_eq (by have := fp_le (gse cs) N; unfold fsen; omega) (by omega)).mp h17
      refine g_iconst 20 O (v := 1) dX2_isSenses_20 (by decide) ?_
      refine g_goto 21 O 25 dX2_isSenses_21 (by decide) ?_
      exact g_zret (rfl) 25 O dX2_isSenses_25 (by rw [hP0, isSen, decide_eq_true h6, decide_eq_true h17]; exact ⟨rfl, rfl⟩)
end
section
/-! facts of sayings -/
def SyW (wd : Int32) (lt ng pl : Nat → Int32) (y : Sy) : Prop := wd = nI y.1 ∧ y.1 ≤ 4 ∧ ∀ k, k < y.1 → lt k = nI (y.2.1 k) ∧ y.2.1 k < 6 ∧ ng k = bi (y.2.2.1 k) ∧ pl k = bi (y.2.2.2 k)
def SnW (sn : Nat → Int32) (z : Nat → Nat) : Prop := ∀ k, k < 6 → sn k = nI (z k) ∧ z k < 6
theorem nar_bi (b : Bool) : vp_nar .boolean (bi b) = bi b := by cases b <;> rfl
theorem nar_eq {x : Int32} {b : Bool} (h : x = bi b) : vp_nar .boolean x = x := by rw [h]; exact nar_bi b
theorem bit16 : ∀ s, s < 16 → ∀ k, k < 4 → ((nI s &&& ((1 : Int32) <<< (nI k &&& 31)) = 0) ↔ s.testBit k = false) := by decide +kernel
theorem jn_ite {s k : Nat} {x y : Int64} {a b : Int32} (hs : s < 16) (hk : k < 4) (ha : a = nI s) (hb : b = nI k) : (if a &&& ((1 : Int32) <<< (b &&& 31)) = 0 then x &&& y else x ||| y) = jn (s.testBit k) x y := by
  subst ha; subst hb
  by_cases h : nI s &&& ((1 : Int32) <<< (nI k &&& 31)) = 0
  · rw [if_pos h, (bit16 s hs k hk).mp h]; rfl
  · rw [if_neg h]
    cases e : s.testBit k with
    | false => exact absurd ((bit16 s hs k hk).mpr e) h
    | true => rfl
theorem cn_le (p : Nat → Bool) : ∀ n, cn p n ≤ n
  | 0 => Nat.le_refl _
  | n + 1 => by have := cn_le p n; rw [cn]; split <;> omega
theorem cn_cong {p q : Nat → Bool} : ∀ {n : Nat}, (∀ k, k < n → p k = q k) → cn p n = cn q n
  | 0, _ => rfl
  | n + 1, h => by rw [cn, cn, cn_cong (fun k hk => h k (by omega)), h n (by omega)]
theorem npl_le (pl : Nat → Bool) (n : Nat) : npl pl n ≤ n - 1 := cn_le _ _
theorem nbr_le {n : Nat} (h : n ≤ 4) : nbr n ≤ 5 := by unfold nbr; split <;> (try split) <;> omega
theorem NRp {n q : Nat} (hn : n ≤ 4) (hq : q ≤ n - 1) : nbr n * 2 ^ q * 2 ^ n ≤ 640 := by
  have : ∀ n, n ≤ 4 → ∀ q, q ≤ n - 1 → nbr n * 2 ^ q * 2 ^ n ≤ 640 := by decide +kernel
  exact this n hn q hq
theorem NR_le {y : Sy} (h : y.1 ≤ 4) : NR y ≤ 640 := by
  unfold NR
  split
  · omega
  · exact NRp h (npl_le _ _)
theorem NR_pos {y : Sy} (h : 0 < y.1) : 0 < NR y := by
  unfold NR
  rw [if_neg (by omega)]
  have h1 : 0 < nbr y.1 := by unfold nbr; split <;> (try split) <;> omega
  exact Nat.mul_pos (Nat.mul_pos h1 (Nat.two_pow_pos _)) (Nat.two_pow_pos _)
theorem brk_cong {n br : Nat} {o o' : Nat → Bool} {v v' : Nat → Int64} (hn : 1 ≤ n) (hn4 : n ≤ 4) (ho : ∀ k, k < n - 1 → o k = o' k) (hv : ∀ k, k < n → v k = v' k) : brk n br o v = brk n br o' v' := by
  have h4 : n = 1 ∨ n = 2 ∨ n = 3 ∨ n = 4 := by omega
  rcases h4 with rfl | rfl | rfl | rfl
  · exact hv 0 (by omega)
  · show jn (o 0) (v 0) (v 1) = jn (o' 0) (v' 0) (v' 1)
    rw [ho 0 (by omega), hv 0 (by omega), hv 1 (by omega)]
  · show br3 br o v = br3 br o' v'
    simp only [br3, ho 0 (by omega), ho 1 (by omega), hv 0 (by omega), hv 1 (by omega), hv 2 (by omega)]
  · show br4 br o v = br4 br o' v'
    simp only [br4, ho 0 (by omega), ho 1 (by omega), ho 2 (by omega), hv 0 (by omega), hv 1 (by omega), hv 2 (by omega), hv 3 (by omega)]
theorem TR_at {sn : Nat → Nat} {y : Sy} {b w s : Nat} (hw : w < 2 ^ npl y.2.2.2 y.1) (hs : s < 2 ^ y.1) : TR sn y ((b * 2 ^ npl y.2.2.2 y.1 + w) * 2 ^ y.1 + s) = brk y.1 b (jo y.2.2.2 w) (wv sn y.2.1 y.2.2.1 s) := by
  have hS : 0 < 2 ^ y.1 := Nat.two_pow_pos _
  have hQ : 0 < 2 ^ npl y.2.2.2 y.1 := Nat.two_pow_pos _
  have e1 : ((b * 2 ^ npl y.2.2.2 y.1 + w) * 2 ^ y.1 + s) / 2 ^ y.1 = b * 2 ^ npl y.2.2.2 y.1 + w := by
    rw [Nat.add_comm, Nat.add_mul_div_right _ _ hS, Nat.div_eq_of_lt hs, Nat.zero_add]
  have e2 : ((b * 2 ^ npl y.2.2.2 y.1 + w) * 2 ^ y.1 + s) % 2 ^ y.1 = s := by
    rw [Nat.add_comm, Nat.add_mul_mod_self_right, Nat.mod_eq_of_lt hs]
  have e3 : (b * 2 ^ npl y.2.2.2 y.1 + w) / 2 ^ npl y.2.2.2 y.1 = b := by
    rw [Nat.add_comm, Nat.add_mul_div_right _ _ hQ, Nat.div_eq_of_lt hw, Nat.zero_add]
  have e4 : (b * 2 ^ npl y.2.2.2 y.1 + w) % 2 ^ npl y.2.2.2 y.1 = w := by
    rw [Nat.add_comm, Nat.add_mul_mod_self_right, Nat.mod_eq_of_lt hw]
  unfold TR
  rw [e1, e2, e3, e4]
theorem ix_lt {b w s B Q S : Nat} (hb : b < B) (hw : w < Q) (hs : s < S) : (b * Q + w) * S + s < B * Q * S := by
  have h1 : b * Q + w < B * Q := by
    calc b * Q + w < b * Q + Q := by omega
      _ = (b + 1) * Q := by rw [Nat.succ_mul]
      _ ≤ B * Q := Nat.mul_le_mul_right _ hb
  calc (b * Q + w) * S + s < (b * Q + w) * S + S := by omega
    _ = (b * Q + w + 1) * S := by rw [Nat.succ_mul]
    _ ≤ B * Q * S := Nat.mul_le_mul_right _ h1
theorem orN_cong {f g : Nat → Int64} : ∀ {n : Nat}, (∀ k, k < n → f k = g k) → orN f n = orN g n
  | 0, _ => rfl
  | n + 1, h => by rw [orN, orN, orN_cong (fun k hk => h k (by omega)), h n (by omega)]
theorem mx_lt (f : Nat → Nat) : ∀ {n : Nat}, 0 < n → mx f n < n
  | n + 1, _ => by
    rw [mx]
    split
    · omega
    · rcases Nat.eq_zero_or_pos n with q | q
      · subst q; exact Nat.zero_lt_one
      · have := mx_lt f q; omega
theorem mn_lt (f : Nat → Nat) : ∀ {n : Nat}, 0 < n → mn f n < n
  | n + 1, _ => by
    rw [mn]
    split
    · omega
    · rcases Nat.eq_zero_or_pos n with q | q
      · subst q; exact Nat.zero_lt_one
      · have := mn_lt f q; omega
theorem mx_cong {f g : Nat → Nat} : ∀ {n : Nat}, (∀ k, k < n → f k = g k) → mx f n = mx g n
  | 0, _ => rfl
  | n + 1, h => by
    have e := mx_cong (n := n) (fun k hk => h k (by omega))
    rw [mx, mx, ← e, h n (by omega)]
    rcases Nat.eq_zero_or_pos n with q | q
    · subst q; rw [show mx f 0 = 0 from rfl, h 0 (by omega)]
    · rw [h (mx f n) (by have := mx_lt f q; omega)]
theorem mn_cong {f g : Nat → Nat} : ∀ {n : Nat}, (∀ k, k < n → f k = g k) → mn f n = mn g n
  | 0, _ => rfl
  | n + 1, h => by
    have e := mn_cong (n := n) (fun k hk => h k (by omega))
    rw [mn, mn, ← e, h n (by omega)]
    rcases Nat.eq_zero_or_pos n with q | q
    · subst q; rw [show mn f 0 = 0 from rfl, h 0 (by omega)]
    · rw [h (mn f n) (by have := mn_lt f q; omega)]
/-! a text read: state, words -/
def pr (cs : Nat → Int32) : Nat → Nat × Sy
  | 0 => (0, 0, fun _ => 0, fun _ => false, fun _ => false)
  | k + 1 =>
    if (pr cs k).1 = 2 then (0, (pr cs k).2.1, (pr cs k).2.2.1, (pr cs k).2.2.2.1, fun j => if j = (pr cs k).2.1 then decide (cs k = 43) else (pr cs k).2.2.2.2 j)
    else if (pr cs k).1 = 0 ∧ cs k = 110 then (1, (pr cs k).2)
    else (2, (pr cs k).2.1 + 1, fun j => if j = (pr cs k).2.1 then (cs k).toNatClampNeg - 97 else (pr cs k).2.2.1 j, fun j => if j = (pr cs k).2.1 then decide ((pr cs k).1 = 1) else (pr cs k).2.2.2.1 j, (pr cs k).2.2.2.2)
theorem sp0_i {c : Int32} {n : Nat} {s : Nat × Nat} (h : sp (0, n) c = some s) : (c = 110 ∧ s = (1, n)) ∨ (¬ c = 110 ∧ (97 ≤ c ∧ c ≤ 102) ∧ s = (2, n + 1)) := by
  unfold sp at h
  simp only [Nat.reduceEqDiff, if_false, true_and] at h
  split at h
  · rename_i h2; cases h; exact Or.inl ⟨h2, rfl⟩
  · rename_i h3
    split at h
    · rename_i h2; cases h; exact Or.inr ⟨h3, h2, rfl⟩
    · cases h
theorem sp1_i {c : Int32} {n : Nat} {s : Nat × Nat} (h : sp (1, n) c = some s) : (97 ≤ c ∧ c ≤ 102) ∧ s = (2, n + 1) := by
  unfold sp at h
  simp only [Nat.reduceEqDiff, if_false, false_and, Nat.one_ne_zero] at h
  split at h
  · rename_i h2; cases h; exact ⟨h2, rfl⟩
  · cases h
theorem sp2_i {c : Int32} {n : Nat} {s : Nat × Nat} (h : sp (2, n) c = some s) : (c = 38 ∨ c = 43) ∧ s = (0, n) := by
  unfold sp at h
  simp only [if_true] at h
  split at h
  · rename_i h2; cases h; exact ⟨h2.1, rfl⟩
  · cases h
theorem let_of {c : Int32} (h : 97 ≤ c ∧ c ≤ 102) : c - 97 = nI (c.toNatClampNeg - 97) ∧ c.toNatClampNeg - 97 < 6 ∧ ¬ c = 110 ∧ ¬ (c = 38 ∨ c = 43) := by
  obtain ⟨j, hj, rfl⟩ := nI_of2 (x := c) (M := 102) (n := 102) rfl (fun q => Int32.not_lt.mpr (Int32.le_trans (show (0 : Int32) ≤ 97 by decide) h.1) q) h.2
  have h97 : 97 ≤ j := (nI_leI (a := 97) (by decide) (by omega)).mp h.1
  have e : ∀ j, j ≤ 102 → 97 ≤ j → nI j - 97 = nI ((nI j).toNatClampNeg - 97) ∧ (nI j).toNatClampNeg - 97 < 6 ∧ ¬ nI j = 110 ∧ ¬ (nI j = 38 ∨ nI j = 43) := by decide +kernel
  exact e j hj h97
theorem pr_rs {cs : Nat → Int32} : ∀ {k : Nat} {s : Nat × Nat}, rs cs k = some s → (pr cs k).1 = s.1 ∧ (pr cs k).2.1 = s.2
  | 0, s, h => by rw [rs] at h; cases h; exact ⟨rfl, rfl⟩
  | k + 1, s, h => by
    rw [rs] at h
    cases e : rs cs k with
    | none => rw [e] at h; cases h
    | some s0 =>
      have ih := pr_rs e
      rw [e] at h
      have h : sp s0 (cs k) = some s := h
      obtain ⟨x, y⟩ := s0
      simp only at ih
      have hx := (rs_st e).1
      have h3 : x = 0 ∨ x = 1 ∨ x = 2 := by simp only at hx; omega
      rcases h3 with rfl | rfl | rfl
      · rcases sp0_i h with ⟨h1, rfl⟩ | ⟨h1, h2, rfl⟩
        · rw [pr, if_neg (by rw [ih.1]; decide), if_pos ⟨ih.1, h1⟩]; exact ⟨rfl, ih.2⟩
        · rw [pr, if_neg (by rw [ih.1]; decide), if_neg (fun q => h1 q.2)]; exact ⟨rfl, by rw [ih.2]⟩
      · obtain ⟨h1, rfl⟩ := sp1_i h
        rw [pr, if_neg (by rw [ih.1]; decide), if_neg (fun q => by rw [ih.1] at q; exact absurd q.1 (by decide))]; exact ⟨rfl, by rw [ih.2]⟩
      · obtain ⟨h1, rfl⟩ := sp2_i h
        rw [pr, if_pos ih.1]; exact ⟨rfl, ih.2⟩
end
section
/-! more facts for sayings -/
def RW (lt ng pl : Nat → Int32) (y : Sy) (k : Nat) : Prop := lt k = nI (y.2.1 k) ∧ y.2.1 k < 6 ∧ ng k = bi (y.2.2.1 k) ∧ pl k = bi (y.2.2.2 k)
theorem pr_2 {cs : Nat → Int32} {k : Nat} (h : (pr cs k).1 = 2) : pr cs (k + 1) = (0, (pr cs k).2.1, (pr cs k).2.2.1, (pr cs k).2.2.2.1, fun j => if j = (pr cs k).2.1 then decide (cs k = 43) else (pr cs k).2.2.2.2 j) := by rw [pr, if_pos h]
theorem pr_n {cs : Nat → Int32} {k : Nat} (h : (pr cs k).1 = 0) (h1 : cs k = 110) : pr cs (k + 1) = (1, (pr cs k).2) := by rw [pr, if_neg (by rw [h]; decide), if_pos ⟨h, h1⟩]
theorem pr_l {cs : Nat → Int32} {k : Nat} (h : ¬ (pr cs k).1 = 2) (h1 : ¬ cs k = 110) : pr cs (k + 1) = (2, (pr cs k).2.1 + 1, fun j => if j = (pr cs k).2.1 then (cs k).toNatClampNeg - 97 else (pr cs k).2.2.1 j, fun j => if j = (pr cs k).2.1 then decide ((pr cs k).1 = 1) else (pr cs k).2.2.2.1 j, (pr cs k).2.2.2.2) := by rw [pr, if_neg h, if_neg (fun q => h1 q.2)]
theorem rd_step {cs : Nat → Int32} {k st nw : Nat} (hrs : rs cs k = some (st, nw)) (hst : ¬ st = 2) (hl : 97 ≤ cs k ∧ cs k ≤ 102) {lt ng pl : Nat → Int32} {pv nv : Int32} (hpv : pv = bi ((pr cs k).2.2.2.2 nw)) (hnv : nv = bi (decide (st = 1))) (hw : ∀ j, j < nw → RW lt ng pl (pr cs k).2 j) :
    ∀ j, j < nw + 1 → RW (upd lt nw (cs k - 97)) (upd ng nw nv) (upd pl nw pv) (pr cs (k + 1)).2 j := by
  intro j hj
  have hp := pr_rs hrs
  simp only at hp
  obtain ⟨l1, l2, l3, -⟩ := let_of hl
  rw [pr_l (by rw [hp.1]; exact hst) l3]
  rcases Nat.lt_or_ge j nw with q | q
  · obtain ⟨a1, a2, a3, a4⟩ := hw j q
    have n : ¬ j = nw := by omega
    refine ⟨?_, ?_, ?_, ?_⟩
    · rw [upd_n _ _ n]; simp only [hp.2, n, if_false]; exact a1
    · simp only [hp.2, n, if_false]; exact a2
    · rw [upd_n _ _ n]; simp only [hp.2, n, if_false]; exact a3
    · rw [upd_n _ _ n]; exact a4
  · have e : j = nw := by omega
    subst e
    refine ⟨?_, ?_, ?_, ?_⟩
    · rw [upd_s]; simp only [hp.2, if_true]; exact l1
    · simp only [hp.2, if_true]; exact l2
    · rw [upd_s]; simp only [hp.2, if_true, hp.1]; exact hnv
    · rw [upd_s]; exact hpv
theorem cn_t {p : Nat → Bool} {n : Nat} (h : p n = true) : nI (cn p n) + 1 = nI (cn p (n + 1)) := by rw [cn, if_pos h, nI_1]
theorem cn_f {p : Nat → Bool} {n : Nat} (h : p n = false) : nI (cn p n) + 0 = nI (cn p (n + 1)) := by rw [cn, if_neg (by rw [h]; decide), Nat.add_zero]; exact Int32.add_zero _
theorem cn_f' {p : Nat → Bool} {n : Nat} (h : p n = false) : nI (cn p n) = nI (cn p (n + 1)) := by rw [cn, if_neg (by rw [h]; decide), Nat.add_zero]
theorem sh1 : ∀ q, q < 31 → (1 : Int32) <<< (nI q &&& 31) = nI (2 ^ q) := by decide +kernel
theorem jo_or : ∀ w, w < 8 → ∀ c, c < 3 → ∀ i, i < 3 → ∀ v, v < 4 → v < 2 ^ i → nI v ||| ((((nI w).toInt64.toUInt64 >>> ((nI c).toInt64.toUInt64 &&& Int64.toUInt64 63)).toInt64 &&& 1).toInt32 <<< ((nI (i + 1) - 1) &&& 31)) = nI (v + (if w.testBit c = true then 2 ^ i else 0)) := by decide +kernel
theorem jo_bit : ∀ i, i < 3 → ∀ v, v < 4 → v < 2 ^ i → ∀ x, x = 0 ∨ x = 2 ^ i → v + x < 2 ^ (i + 1) ∧ (v + x).testBit i = decide (x = 2 ^ i) ∧ ∀ k, k < 3 → k < i → (v + x).testBit k = v.testBit k := by
  have h1 : ∀ i, i < 3 → ∀ v, v < 4 → v < 2 ^ i → v + 2 ^ i < 2 ^ (i + 1) ∧ v < 2 ^ (i + 1) := by decide +kernel
  have h2 : ∀ i, i < 3 → ∀ v, v < 4 → v < 2 ^ i → (v + 2 ^ i).testBit i = true ∧ v.testBit i = false := by decide +kernel
  have h3 : ∀ i, i < 3 → ∀ v, v < 4 → v < 2 ^ i → ∀ k, k < 3 → k < i → (v + 2 ^ i).testBit k = v.testBit k := by decide +kernel
  intro i hi v hv hv2 x hx
  have hp : 0 < 2 ^ i := Nat.two_pow_pos _
  rcases hx with rfl | rfl
  · exact ⟨(h1 i hi v hv hv2).2, by rw [Nat.add_zero, (h2 i hi v hv hv2).2]; symm; exact decide_eq_false (by omega), fun k _ _ => rfl⟩
  · exact ⟨(h1 i hi v hv hv2).1, by rw [(h2 i hi v hv hv2).1]; symm; exact decide_eq_true rfl, fun k a b => h3 i hi v hv hv2 k a b⟩
theorem jo_step {pl : Nat → Bool} {w i v : Nat} (hi : i < 3) (hv : v < 2 ^ i) (hb : ∀ k, k < i → v.testBit k = jo pl w k) {x : Nat} (hx : x = if jo pl w i = true then 2 ^ i else 0) : v + x < 2 ^ (i + 1) ∧ ∀ k, k < i + 1 → (v + x).testBit k = jo pl w k := by
  have h4 : 2 ^ i ≤ 4 := by
    have : ∀ i, i < 3 → 2 ^ i ≤ 4 := by decide
    exact this i hi
  obtain ⟨h1, h2, h3⟩ := jo_bit i hi v (by omega) hv x (by rw [hx]; split; exact Or.inr rfl; exact Or.inl rfl)
  refine ⟨h1, fun k hk => ?_⟩
  rcases Nat.lt_or_ge k i with q | q
  · rw [h3 k (by omega) q]; exact hb k q
  · have e : k = i := by omega
    subst e
    rw [h2, hx]
    have : 0 < 2 ^ k := Nat.two_pow_pos _
    cases jo pl w k with
    | true => simp
    | false => simp; omega
end
section
set_option maxRecDepth 100000 in
set_option maxHeartbeats 4000000 in
theorem c_X3_isNone (l : Launch) (E : Ev) (a : Nat → Nat) (R : va_W) (wd rd wi na : Int32) (so : Int64) (lt ng pl : Nat → Int32) (t1 t2 tr : Nat → Int64)  : Ctr l yX3_isNone cX3_isNone 1 (some .boolean) 0 0 E (fun s => wS E a s ++ R) [.ref (a 0)] (((wd, rd, wi, na, so), lt, ng, pl, t1, t2, tr)) (fun v s => v = some (.int (if wd = 0 then 1 else 0)) ∧ s = ((wd, rd, wi, na, so), lt, ng, pl, t1, t2, tr)) := by
  refine Ctr.of' (by decide +kernel) (Nat.le_of_ble_eq_true rfl) (fun X P0 hP0 O => ?_)
  refine g_sub [0] (lv' := [(0, .ref (a 0))]) rfl ?_
  refine g_aload_n 0 O dX3_isNone_0 rfl 0 rfl ?_
  refine g_get 1 O (v := .int wd) inX3 0 rfl rfl 6 (by decide) kf_X3_32 rfl dX3_isNone_1 ?_
  refine g_if_ne 4 O 11 dX3_isNone_4 (by decide) (fun h4 => ?_) (fun h4 => ?_)
  · -- taken
    refine g_iconst 11 O (v := 0) dX3_isNone_11 (by decide) ?_
    exact g_zret (rfl) 12 O dX3_isNone_12 (by rw [hP0]; exact ⟨by rw [if_neg (h4)], rfl⟩)
  · -- not taken
    refine g_iconst 7 O (v := 1) dX3_isNone_7 (by decide) ?_
    refine g_goto 8 O 12 dX3_isNone_8 (by decide) ?_
    exact g_zret (rfl) 12 O dX3_isNone_12 (by rw [hP0]; exact ⟨by rw [if_pos (h4)], rfl⟩)

set_option maxRecDepth 100000 in
set_option maxHeartbeats 4000000 in
theorem c_X3_hasReading (l : Launch) (E : Ev) (a : Nat → Nat) (R : va_W) (wd rd wi na : Int32) (so : Int64) (lt ng pl : Nat → Int32) (t1 t2 tr : Nat → Int64) (p0 : Int32)  : Ctr l yX3_hasReading cX3_hasReading 2 (some .boolean) 0 0 E (fun s => wS E a s ++ R) [.ref (a 0), .int p0] (((wd, rd, wi, na, so), lt, ng, pl, t1, t2, tr)) (fun v s => v = some (.int (if 0 ≤ p0 ∧ p0 < rd then 1 else 0)) ∧ s = ((wd, rd, wi, na, so), lt, ng, pl, t1, t2, tr)) := by
  refine Ctr.of' (by decide +kernel) (Nat.le_of_ble_eq_true rfl) (fun X P0 hP0 O => ?_)
  refine g_sub [0, 1] (lv' := [(0, .ref (a 0)), (1, .int p0)]) rfl ?_
  refine g_iload_n 0 O dX3_hasReading_0 rfl 1 rfl ?_
  refine g_if_lt 1 O 16 dX3_hasReading_1 (by decide) (fun h1 => ?_) (fun h1 => ?_)
  · -- taken
    refine g_iconst 16 O (v := 0) dX3_hasReading_16 (by decide) ?_
    exact g_zret (rfl) 17 O dX3_hasReading_17 (by rw [hP0]; exact ⟨by rw [if_neg (fun q => Int32.not_le.mpr h1 q.1)], rfl⟩)
  · -- not taken
    refine g_iload_n 4 O dX3_hasReading_4 rfl 1 rfl ?_
    refine g_aload_n 5 O dX3_hasReading_5 rfl 0 rfl ?_
    refine g_get 6 O (v := .int rd) inX3 0 rfl rfl 7 (by decide) kf_X3_36 rfl dX3_hasReading_6 ?_
    refine g_icmp_ge 9 O 16 dX3_hasReading_9 (by decide) (fun h9 => ?_) (fun h9 => ?_)
    · -- taken
      refine g_iconst 16 O (v := 0) dX3_hasReading_16 (by decide) ?_
      exact g_zret (rfl) 17 O dX3_hasReading_17 (by rw [hP0]; exact ⟨by rw [if_neg (fun q => Int32.not_lt.mpr h9 q.2)], rfl⟩)
    · -- not taken
      refine g_iconst 12 O (v := 1) dX3_hasReading_12 (by decide) ?_
      refine g_goto 13 O 17 dX3_hasReading_13 (by decide) ?_
      exact g_zret (rfl) 17 O dX3_hasReading_17 (by rw [hP0]; exact ⟨by rw [if_pos (⟨Int32.not_lt.mp h1, Int32.not_le.mp h9⟩)], rfl⟩)

set_option maxRecDepth 100000 in
set_option maxHeartbeats 4000000 in
theorem c_X3_append (l : Launch) (E : Ev) (a : Nat → Nat) (R : va_W) (wd rd wi na : Int32) (so : Int64) (lt ng pl : Nat → Int32) (t1 t2 tr : Nat → Int64) (p0 p1 p2 : Int32) (N : Nat) (hwd : wd = nI N) (hN : N < 4) (hb0 : vp_nar .boolean p0 = p0) (hb1 : vp_nar .boolean p1 = p1) : Ctr l yX3_append cX3_append 4 none 0 0 E (fun s => wS E a s ++ R) [.ref (a 0), .int p0, .int p1, .int p2] (((wd, rd, wi, na, so), lt, ng, pl, t1, t2, tr)) (fun v s => v = none ∧ s = ((nI (N + 1), rd, wi, na, so), upd lt N p2, upd ng N p1, upd pl N p0, t1, t2, tr)) := by
  refine Ctr.of' (by decide +kernel) (Nat.le_of_ble_eq_true rfl) (fun X P0 hP0 O => ?_)
  refine g_sub [0, 1, 2, 3] (lv' := [(0, .ref (a 0)), (1, .int p0), (2, .int p1), (3, .int p2)]) rfl ?_
  refine g_aload_n 0 O dX3_append_0 rfl 0 rfl ?_
  refine g_get 1 O (v := .int wd) inX3 0 rfl rfl 6 (by decide) kf_X3_32 rfl dX3_append_1 ?_
  refine g_if_lt 4 O 15 dX3_append_4 (by decide) (fun h4 => False.elim (absurd h4 (by rw [hwd]; exact nI_pos (by omega)))) (fun h4 => ?_)
  refine g_aload_n 7 O dX3_append_7 rfl 0 rfl ?_
  refine g_get 8 O (v := .int wd) inX3 0 rfl rfl 6 (by decide) kf_X3_32 rfl dX3_append_8 ?_
  refine g_iconst 11 O (v := 4) dX3_append_11 (by decide) ?_
  refine g_icmp_lt 12 O 16 dX3_append_12 (by decide) (fun h12 => ?_) (fun h12 => False.elim (h12 (by rw [hwd]; exact nI_lt (b := 4) hN (by decide))))
  refine g_aload_n 16 O dX3_append_16 rfl 0 rfl ?_
  refine g_get 17 O (v := .ref (a 3)) inX3 0 rfl rfl 2 (by decide) kf_X3_19 rfl dX3_append_17 ?_
  refine g_aload_n 20 O dX3_append_20 rfl 0 rfl ?_
  refine g_get 21 O (v := .int wd) inX3 0 rfl rfl 6 (by decide) kf_X3_32 rfl dX3_append_21 ?_
  refine g_iload_n 24 O dX3_append_24 rfl 1 rfl ?_
  refine g_zast 25 O (((wd, rd, wi, na, so), lt, ng, upd pl N p0, t1, t2, tr)) 3 N rfl (hwd) (hN) (by decide) (hb0) rfl dX3_append_25 ?_
  refine g_aload_n 26 O dX3_append_26 rfl 0 rfl ?_
  refine g_get 27 O (v := .ref (a 2)) inX3 0 rfl rfl 1 (by decide) kf_X3_15 rfl dX3_append_27 ?_
  refine g_aload_n 30 O dX3_append_30 rfl 0 rfl ?_
  refine g_get 31 O (v := .int wd) inX3 0 rfl rfl 6 (by decide) kf_X3_32 rfl dX3_append_31 ?_
  refine g_iload_n 34 O dX3_append_34 rfl 2 rfl ?_
  refine g_zast 35 O (((wd, rd, wi, na, so), lt, upd ng N p1, upd pl N p0, t1, t2, tr)) 2 N rfl (hwd) (hN) (by decide) (hb1) rfl dX3_append_35 ?_
  refine g_aload_n 36 O dX3_append_36 rfl 0 rfl ?_
  refine g_get 37 O (v := .ref (a 1)) inX3 0 rfl rfl 0 (by decide) kf_X3_9 rfl dX3_append_37 ?_
  refine g_aload_n 40 O dX3_append_40 rfl 0 rfl ?_
  refine g_get 41 O (v := .int wd) inX3 0 rfl rfl 6 (by decide) kf_X3_32 rfl dX3_append_41 ?_
  refine g_iload_n 44 O dX3_append_44 rfl 3 rfl ?_
  refine g_iast 45 O (((wd, rd, wi, na, so), upd lt N p2, upd ng N p1, upd pl N p0, t1, t2, tr)) 1 N rfl (hwd) (hN) (by decide) rfl dX3_append_45 ?_
  refine g_aload_n 46 O dX3_append_46 rfl 0 rfl ?_
  refine g_dup 47 O dX3_append_47 rfl ?_
  refine g_get 48 O (v := .int wd) inX3 0 rfl rfl 6 (by decide) kf_X3_32 rfl dX3_append_48 ?_
  refine g_iconst 51 O (v := 1) dX3_append_51 (by decide) ?_
  refine g_iadd 52 O dX3_append_52 ?_
  refine g_si (nI (N + 1)) (by rw [hwd]; exact nI_1 N) ?_
  refine g_put 53 O inX3 tyX3_ok nmX3 (((nI (N + 1), rd, wi, na, so), upd lt N p2, upd ng N p1, upd pl N p0, t1, t2, tr)) 0 rfl rfl 6 (by decide) kf_X3_32 rfl (rfl) (rfl) (Nat.le_of_ble_eq_true rfl) rfl dX3_append_53 ?_
  exact g_vret 56 O dX3_append_56 (by rw [hP0]; exact ⟨rfl, rfl⟩)

set_option maxRecDepth 100000 in
set_option maxHeartbeats 4000000 in
theorem c_X3_become (l : Launch) (E : Ev) (a b : Nat → Nat) (R : va_W) (m : Sc) (wd rd wi na : Int32) (so : Int64) (lt ng pl : Nat → Int32) (t1 t2 tr : Nat → Int64) (y : Sy) (hm : SyW m.1.1 m.2.1 m.2.2.1 m.2.2.2.1 y) : Ctr l yX3_become cX3_become 3 none 1 23 E (fun s => wS E a s ++ (wS E b m ++ R)) [.ref (a 0), .ref (b 0)] (((wd, rd, wi, na, so), lt, ng, pl, t1, t2, tr)) (pV (fun s => ∃ lt' ng' pl' : Nat → Int32, s = ((nI y.1, rd, wi, na, so), lt', ng', pl', t1, t2, tr) ∧ SyW (nI y.1) lt' ng' pl' y)) := by
  refine Ctr.of' (by decide +kernel) (Nat.le_of_ble_eq_true rfl) (fun X P0 hP0 O => ?_)
  refine g_sub [0, 1] (lv' := [(0, .ref (a 0)), (1, .ref (b 0))]) rfl ?_
  refine g_aload_n 0 O dX3_become_0 rfl 0 rfl ?_
  refine g_iconst 1 O (v := 0) dX3_become_1 (by decide) ?_
  refine g_put 2 O inX3 tyX3_ok nmX3 (((0, rd, wi, na, so), lt, ng, pl, t1, t2, tr)) 0 rfl rfl 6 (by decide) kf_X3_32 rfl (rfl) (rfl) (Nat.le_of_ble_eq_true rfl) rfl dX3_become_2 ?_
  refine g_iconst 5 O (v := 0) dX3_become_5 (by decide) ?_
  refine g_istore_n 6 O (lv' := [(2, .int 0), (0, .ref (a 0)), (1, .ref (b 0))]) dX3_become_6 rfl (by decide) rfl ?_
  refine g_sub [0, 1, 2] (lv' := [(2, .int 0), (0, .ref (a 0)), (1, .ref (b 0))]) rfl ?_
  have L7 : ∀ (fuel : Nat) (i : Nat) (lt' ng' pl' : Nat → Int32) (hi : i ≤ y.1) (hk : ∀ k, k < i → RW lt' ng' pl' y k), y.1 - i < fuel → G l E (fun s => wS E a s ++ (wS E b m ++ R)) P0 X 3 (((nI i, rd, wi, na, so), lt', ng', pl', t1, t2, tr)) 7 [(2, .int (nI i)), (0, .ref (a 0)), (1, .ref (b 0))] [] := by
    intro fuel
    induction fuel with
    | zero => intro i lt' ng' pl' hi hk hfu; exact absurd hfu (Nat.not_lt_zero _)
    | succ fuel ih7 =>
      intro i lt' ng' pl' hi hk hfu
      have hy4 := hm.2.1
      refine g_iload_n 7 O dX3_become_7 rfl 0 rfl ?_
      refine g_aload_n 8 O dX3_become_8 rfl 2 rfl ?_
      refine g_get 9 O (v := .int m.1.1) inX3 7 rfl rfl 6 (by decide) kf_X3_32 rfl dX3_become_9 ?_
      refine g_icmp_ge 12 O 48 dX3_become_12 (by decide) (fun h12 => ?_) (fun h12 => ?_)
      · -- taken
        have e : i = y.1 := by rw [hm.1] at h12; have := ge_of_le (by omega) (by omega) h12; omega
        subst e
        exact g_vret 48 O dX3_become_48 (by rw [hP0]; exact ⟨rfl, lt', ng', pl', rfl, rfl, hm.2.1, hk⟩)
      · -- not taken
        have hlt : i < y.1 := by rw [hm.1] at h12; exact lt_of_nge (by omega) h12
        refine g_iload_n 15 O dX3_become_15 rfl 0 rfl ?_
        refine g_iconst 16 O (v := 4) dX3_become_16 (by decide) ?_
        refine g_icmp_ge 17 O 48 dX3_become_17 (by decide) (fun h17 => False.elim (absurd h17 (nI_ge (b := 4) (by omega) (by decide)))) (fun h17 => ?_)
        refine g_aload_n 20 O dX3_become_20 rfl 1 rfl ?_
        refine g_aload_n 21 O dX3_become_21 rfl 2 rfl ?_
        refine g_get 22 O (v := .ref (b 3)) inX3 7 rfl rfl 2 (by decide) kf_X3_19 rfl dX3_become_22 ?_
        refine g_iload_n 25 O dX3_become_25 rfl 0 rfl ?_
        refine g_zald 26 O 10 i rfl (rfl) (by omega) (by decide) dX3_become_26 ?_
        refine g_aload_n 27 O dX3_become_27 rfl 2 rfl ?_
        refine g_get 28 O (v := .ref (b 2)) inX3 7 rfl rfl 1 (by decide) kf_X3_15 rfl dX3_become_28 ?_
        refine g_iload_n 31 O dX3_become_31 rfl 0 rfl ?_
        refine g_zald 32 O 9 i rfl (rfl) (by omega) (by decide) dX3_become_32 ?_
        refine g_aload_n 33 O dX3_become_33 rfl 2 rfl ?_
        refine g_get 34 O (v := .ref (b 1)) inX3 7 rfl rfl 0 (by decide) kf_X3_9 rfl dX3_become_34 ?_
        refine g_iload_n 37 O dX3_become_37 rfl 0 rfl ?_
        refine g_iald 38 O 8 i rfl (rfl) (by omega) (by decide) dX3_become_38 ?_
        refine g_callV 39 O (na := 3) (av := [.int (m.2.2.2.1 i), .int (m.2.2.1 i), .int (m.2.1 i)]) (c_X3_append l E a (wS E b m ++ R) (nI i) rd wi na so lt' ng' pl' t1 t2 tr (m.2.2.2.1 i) (m.2.2.1 i) (m.2.1 i) i rfl (by omega) (nar_eq (hm.2.2 i hlt).2.2.2) (nar_eq (hm.2.2 i hlt).2.2.1)) kl_X3_52 km_X3_append kv_X3_append ki_X3 kc_X3_append (by decide +kernel) rfl (Nat.le_of_ble_eq_true rfl) (Nat.le_of_ble_eq_true rfl) (fun _ h => h) 0 rfl rfl (fun s => s) (fun _ _ _ _ h => h) rfl (Nat.le_of_ble_eq_true rfl) dX3_become_39 (fun v9 s9 hv9 => ?_)
        obtain ⟨rfl, rfl⟩ := hv9
        refine g_iinc 42 O (v := nI (i + 1)) (q := 0) (lv' := [(2, .int (nI (i + 1))), (0, .ref (a 0)), (1, .ref (b 0))]) dX3_become_42 rfl (nI_1 i) (by decide) rfl ?_
        refine g_goto 45 O 7 dX3_become_45 (by decide) ?_
        refine g_sub [0, 1, 2] (lv' := [(2, .int (nI (i + 1))), (0, .ref (a 0)), (1, .ref (b 0))]) rfl ?_
        exact ih7 (i + 1) (upd lt' i (m.2.1 i)) (upd ng' i (m.2.2.1 i)) (upd pl' i (m.2.2.2.1 i)) (by omega) (fun k h => by
            rcases Nat.lt_or_ge k i with q | q
            · have n : ¬ k = i := by omega
              obtain ⟨a1, a2, a3, a4⟩ := hk k q
              exact ⟨by rw [upd_n _ _ n]; exact a1, a2, by rw [upd_n _ _ n]; exact a3, by rw [upd_n _ _ n]; exact a4⟩
            · have e : k = i := by omega
              subst e
              obtain ⟨a1, a2, a3, a4⟩ := hm.2.2 k hlt
              exact ⟨by rw [upd_s]; exact a1, a2, by rw [upd_s]; exact a3, by rw [upd_s]; exact a4⟩) (by omega)
  exact L7 _ 0 lt ng pl (Nat.zero_le _) (fun k h => absurd h (Nat.not_lt_zero _)) (Nat.lt_succ_self _)

set_option maxRecDepth 100000 in
set_option maxHeartbeats 4000000 in
theorem c_X3_read (l : Launch) (E : Ev) (a b : Nat → Nat) (R : va_W) (le : Int32) (cs : Nat → Int32) (wd rd wi na : Int32) (so : Int64) (lt ng pl : Nat → Int32) (t1 t2 tr : Nat → Int64) (N : Nat) (hle : le = nI N) (hN : N ≤ 14) (hS : isSay cs N = true) : Ctr l yX3_read cX3_read 6 none 1 23 E (fun s => wS E a s ++ (wP E b (le, cs) ++ R)) [.ref (a 0), .ref (b 0)] (((wd, rd, wi, na, so), lt, ng, pl, t1, t2, tr)) (pV (fun s => ∃ lt' ng' pl' : Nat → Int32, s = ((nI (pr cs N).2.1, rd, wi, na, so), lt', ng', pl', t1, t2, tr) ∧ SyW (nI (pr cs N).2.1) lt' ng' pl' (pr cs N).2)) := by
  refine Ctr.of' (by decide +kernel) (Nat.le_of_ble_eq_true rfl) (fun X P0 hP0 O => ?_)
  refine g_sub [0, 1] (lv' := [(0, .ref (a 0)), (1, .ref (b 0))]) rfl ?_
  refine g_aload_n 0 O dX3_read_0 rfl 0 rfl ?_
  refine g_iconst 1 O (v := 0) dX3_read_1 (by decide) ?_
  refine g_put 2 O inX3 tyX3_ok nmX3 (((0, rd, wi, na, so), lt, ng, pl, t1, t2, tr)) 0 rfl rfl 6 (by decide) kf_X3_32 rfl (rfl) (rfl) (Nat.le_of_ble_eq_true rfl) rfl dX3_read_2 ?_
  refine g_iconst 5 O (v := 0) dX3_read_5 (by decide) ?_
  refine g_istore_n 6 O (lv' := [(2, .int 0), (0, .ref (a 0)), (1, .ref (b 0))]) dX3_read_6 rfl (by decide) rfl ?_
  refine g_iconst 7 O (v := 0) dX3_read_7 (by decide) ?_
  refine g_istore_n 8 O (lv' := [(3, .int 0), (2, .int 0), (0, .ref (a 0)), (1, .ref (b 0))]) dX3_read_8 rfl (by decide) rfl ?_
  refine g_iconst 9 O (v := 0) dX3_read_9 (by decide) ?_
  refine g_istore 10 O (lv' := [(4, .int 0), (3, .int 0), (2, .int 0), (0, .ref (a 0)), (1, .ref (b 0))]) dX3_read_10 (by decide) rfl ?_
  refine g_sub [0, 1, 2, 3, 4] (lv' := [(4, .int 0), (3, .int 0), (2, .int 0), (0, .ref (a 0)), (1, .ref (b 0))]) rfl ?_
  have L12 : ∀ (fuel : Nat) (k st nw : Nat) (pv nv : Int32) (lt' ng' pl' : Nat → Int32) (hk : k ≤ N) (hrs : rs cs k = some (st, nw)) (hpv : ¬ st = 2 → pv = bi ((pr cs k).2.2.2.2 nw)) (hpb : vp_nar .boolean pv = pv) (hnv : nv = bi (decide (st = 1))) (hw : ∀ j, j < nw → RW lt' ng' pl' (pr cs k).2 j), N - k < fuel → G l E (fun s => wS E a s ++ (wP E b (le, cs) ++ R)) P0 X 6 (((nI nw, rd, wi, na, so), lt', ng', pl', t1, t2, tr)) 12 [(4, .int (nI k)), (3, .int nv), (2, .int pv), (0, .ref (a 0)), (1, .ref (b 0))] [] := by
    intro fuel
    induction fuel with
    | zero => intro k st nw pv nv lt' ng' pl' hk hrs hpv hpb hnv hw hfu; exact absurd hfu (Nat.not_lt_zero _)
    | succ fuel ih12 =>
      intro k st nw pv nv lt' ng' pl' hk hrs hpv hpb hnv hw hfu
      have hst := rs_st hrs
      have h012 : st = 0 ∨ st = 1 ∨ st = 2 := by have := hst.1; simp only at this; omega
      have hpr := pr_rs hrs
      simp only at hpr
      rcases h012 with rfl | rfl | rfl
      · -- case 0
        obtain rfl : nv = 0 := hnv
        refine g_iload 12 O dX3_read_12 0 rfl ?_
        refine g_aload_n 14 O dX3_read_14 rfl 4 rfl ?_
        refine g_getN 15 O (v := .int le) inX2 7 rfl rfl 1 (by decide) (fun _ h => h.2.1) rfl dX3_read_15 ?_
        refine g_icmp_ge 18 O 84 dX3_read_18 (by decide) (fun h18 => ?_) (fun h18 => ?_)
        · -- taken
          have e : k = N := by rw [hle] at h18; have := ge_of_le (by omega) (by omega) h18; omega
          subst e
          obtain ⟨nw2, h2⟩ := isSay_iff.mp hS; rw [hrs] at h2; cases h2
        · -- not taken
          have hlt : k < N := by rw [hle] at h18; exact lt_of_nge (by omega) h18
          obtain ⟨sp9, hsp⟩ : ∃ s9, sp (0, nw) (cs k) = some s9 := by
            obtain ⟨nw2, h2⟩ := isSay_iff.mp hS
            have h3 := rs_some h2 k hlt
            rw [rs, hrs] at h3
            exact Option.isSome_iff_exists.mp h3
          refine g_aload_n 21 O dX3_read_21 rfl 4 rfl ?_
          refine g_iload 22 O dX3_read_22 0 rfl ?_
          refine g_callV 24 O (na := 1) (av := [.int (nI k)]) (c_X2_codeAt l E b (wS E a ((nI nw, rd, wi, na, so), lt', ng', pl', t1, t2, tr) ++ R) le cs (nI k) N k hle hN rfl hlt) kl_X3_44 km_X2_codeAt kv_X2_codeAt ki_X2 kc_X2_codeAt (by decide +kernel) rfl (Nat.le_of_ble_eq_true rfl) (Nat.le_of_ble_eq_true rfl) (fun _ h => Wo.swap (wS E a ((nI nw, rd, wi, na, so), lt', ng', pl', t1, t2, tr)) (wP E b (le, cs)) R rfl rfl h) 0 rfl rfl (fun _ => ((nI nw, rd, wi, na, so), lt', ng', pl', t1, t2, tr)) (fun _ _ _ hp h => by obtain ⟨-, rfl⟩ := hp; exact Wo.swap (wP E b (le, cs)) (wS E a ((nI nw, rd, wi, na, so), lt', ng', pl', t1, t2, tr)) R rfl rfl h) rfl (Nat.le_of_ble_eq_true rfl) dX3_read_24 (fun v9 s9 hv9 => ?_)
          obtain ⟨rfl, rfl⟩ := hv9
          refine g_istore 27 O (lv' := [(5, .int (cs k)), (4, .int (nI k)), (3, .int 0), (2, .int pv), (0, .ref (a 0)), (1, .ref (b 0))]) dX3_read_27 (by decide) rfl ?_
          refine g_iload 29 O dX3_read_29 0 rfl ?_
          refine g_bipush 31 O (v := 110) dX3_read_31 (by decide) ?_
          refine g_icmp_ne 33 O 41 dX3_read_33 (by decide) (fun h33 => ?_) (fun h33 => ?_)
          · -- taken
            have hl : 97 ≤ cs k ∧ cs k ≤ 102 := (sp0_i hsp).elim (fun q => absurd q.1 h33) (fun q => q.2.1)
            refine g_iload 41 O dX3_read_41 0 rfl ?_
            refine g_callN 43 O (na := 1) (av := [.int (cs k)]) (c_X2_isJoining l E _ _ (cs k)) (fun _ h => h.2.2.2.2.2.2.2.2.2.2.2.2.2.2.2.2) ks_X2_isJoining ki_X2 kc_X2_isJoining (by decide +kernel) rfl (Nat.le_of_ble_eq_true rfl) (Nat.le_of_ble_eq_true rfl) (fun _ h => h) (fun s => s) (fun _ _ _ _ h => h) rfl (Nat.le_of_ble_eq_true rfl) dX3_read_43 (fun v9 s9 hv9 => ?_)
            obtain ⟨rfl, rfl⟩ := hv9
            refine g_if_eq 46 O 65 dX3_read_46 (by decide) (fun h46 => ?_) (fun h46 => False.elim ((let_of hl).2.2.2 (ite_t h46)))
            refine g_aload_n 65 O dX3_read_65 rfl 4 rfl ?_
            refine g_iload_n 66 O dX3_read_66 rfl 3 rfl ?_
            refine g_iload_n 67 O dX3_read_67 rfl 2 rfl ?_
            refine g_iload 68 O dX3_read_68 0 rfl ?_
            refine g_bipush 70 O (v := 97) dX3_read_70 (by decide) ?_
            refine g_isub 72 O dX3_read_72 ?_
            refine g_callV 73 O (na := 3) (av := [.int pv, .int 0, .int ((cs k) - 97)]) (c_X3_append l E a (wP E b (le, cs) ++ R) (nI nw) rd wi na so lt' ng' pl' t1 t2 tr pv 0 (cs k - 97) nw rfl (hst.2.2 (show (0 : Nat) ≠ 2 by decide)) hpb rfl) kl_X3_52 km_X3_append kv_X3_append ki_X3 kc_X3_append (by decide +kernel) rfl (Nat.le_of_ble_eq_true rfl) (Nat.le_of_ble_eq_true rfl) (fun _ h => h) 0 rfl rfl (fun s => s) (fun _ _ _ _ h => h) rfl (Nat.le_of_ble_eq_true rfl) dX3_read_73 (fun v9 s9 hv9 => ?_)
            obtain ⟨rfl, rfl⟩ := hv9
            refine g_iconst 76 O (v := 0) dX3_read_76 (by decide) ?_
            refine g_istore_n 77 O (lv' := [(3, .int 0), (5, .int (cs k)), (4, .int (nI k)), (2, .int pv), (0, .ref (a 0)), (1, .ref (b 0))]) dX3_read_77 rfl (by decide) rfl ?_
            refine g_iinc 78 O (v := nI (k + 1)) (q := 2) (lv' := [(4, .int (nI (k + 1))), (3, .int 0), (5, .int (cs k)), (2, .int pv), (0, .ref (a 0)), (1, .ref (b 0))]) dX3_read_78 rfl (nI_1 k) (by decide) rfl ?_
            refine g_goto 81 O 12 dX3_read_81 (by decide) ?_
            refine g_sub [0, 1, 3, 4, 5] (lv' := [(4, .int (nI (k + 1))), (3, .int 0), (2, .int pv), (0, .ref (a 0)), (1, .ref (b 0))]) rfl ?_
            exact ih12 (k + 1) 2 (nw + 1) pv 0 (upd lt' nw (cs k - 97)) (upd ng' nw 0) (upd pl' nw pv) (by omega) (rs_go hrs (sp0_l hl)) (fun q => absurd rfl q) hpb rfl (rd_step hrs (by decide) hl (hpv (by decide)) rfl hw) (by omega)
          · -- not taken
            refine g_iconst 36 O (v := 1) dX3_read_36 (by decide) ?_
            refine g_istore_n 37 O (lv' := [(3, .int 1), (5, .int (cs k)), (4, .int (nI k)), (2, .int pv), (0, .ref (a 0)), (1, .ref (b 0))]) dX3_read_37 rfl (by decide) rfl ?_
            refine g_goto 38 O 78 dX3_read_38 (by decide) ?_
            refine g_iinc 78 O (v := nI (k + 1)) (q := 2) (lv' := [(4, .int (nI (k + 1))), (3, .int 1), (5, .int (cs k)), (2, .int pv), (0, .ref (a 0)), (1, .ref (b 0))]) dX3_read_78 rfl (nI_1 k) (by decide) rfl ?_
            refine g_goto 81 O 12 dX3_read_81 (by decide) ?_
            refine g_sub [0, 1, 3, 4, 5] (lv' := [(4, .int (nI (k + 1))), (3, .int 1), (2, .int pv), (0, .ref (a 0)), (1, .ref (b 0))]) rfl ?_
            exact ih12 (k + 1) 1 nw pv 1 lt' ng' pl' (by omega) (rs_go hrs (sp0_n h33)) (fun _ => by rw [pr_n hpr.1 h33]; exact hpv (by decide)) hpb rfl (fun j hj => by rw [pr_n hpr.1 h33]; exact hw j hj) (by omega)
      · -- case 1
        obtain rfl : nv = 1 := hnv
        refine g_iload 12 O dX3_read_12 0 rfl ?_
        refine g_aload_n 14 O dX3_read_14 rfl 4 rfl ?_
        refine g_getN 15 O (v := .int le) inX2 7 rfl rfl 1 (by decide) (fun _ h => h.2.1) rfl dX3_read_15 ?_
        refine g_icmp_ge 18 O 84 dX3_read_18 (by decide) (fun h18 => ?_) (fun h18 => ?_)
        · -- taken
          have e : k = N := by rw [hle] at h18; have := ge_of_le (by omega) (by omega) h18; omega
          subst e
          obtain ⟨nw2, h2⟩ := isSay_iff.mp hS; rw [hrs] at h2; cases h2
        · -- not taken
          have hlt : k < N := by rw [hle] at h18; exact lt_of_nge (by omega) h18
          obtain ⟨sp9, hsp⟩ : ∃ s9, sp (1, nw) (cs k) = some s9 := by
            obtain ⟨nw2, h2⟩ := isSay_iff.mp hS
            have h3 := rs_some h2 k hlt
            rw [rs, hrs] at h3
            exact Option.isSome_iff_exists.mp h3
          refine g_aload_n 21 O dX3_read_21 rfl 4 rfl ?_
          refine g_iload 22 O dX3_read_22 0 rfl ?_
          refine g_callV 24 O (na := 1) (av := [.int (nI k)]) (c_X2_codeAt l E b (wS E a ((nI nw, rd, wi, na, so), lt', ng', pl', t1, t2, tr) ++ R) le cs (nI k) N k hle hN rfl hlt) kl_X3_44 km_X2_codeAt kv_X2_codeAt ki_X2 kc_X2_codeAt (by decide +kernel) rfl (Nat.le_of_ble_eq_true rfl) (Nat.le_of_ble_eq_true rfl) (fun _ h => Wo.swap (wS E a ((nI nw, rd, wi, na, so), lt', ng', pl', t1, t2, tr)) (wP E b (le, cs)) R rfl rfl h) 0 rfl rfl (fun _ => ((nI nw, rd, wi, na, so), lt', ng', pl', t1, t2, tr)) (fun _ _ _ hp h => by obtain ⟨-, rfl⟩ := hp; exact Wo.swap (wP E b (le, cs)) (wS E a ((nI nw, rd, wi, na, so), lt', ng', pl', t1, t2, tr)) R rfl rfl h) rfl (Nat.le_of_ble_eq_true rfl) dX3_read_24 (fun v9 s9 hv9 => ?_)
          obtain ⟨rfl, rfl⟩ := hv9
          refine g_istore 27 O (lv' := [(5, .int (cs k)), (4, .int (nI k)), (3, .int 1), (2, .int pv), (0, .ref (a 0)), (1, .ref (b 0))]) dX3_read_27 (by decide) rfl ?_
          refine g_iload 29 O dX3_read_29 0 rfl ?_
          refine g_bipush 31 O (v := 110) dX3_read_31 (by decide) ?_
          have hl := (sp1_i hsp).1
          refine g_icmp_ne 33 O 41 dX3_read_33 (by decide) (fun h33 => ?_) (fun h33 => False.elim ((let_of hl).2.2.1 h33))
          refine g_iload 41 O dX3_read_41 0 rfl ?_
          refine g_callN 43 O (na := 1) (av := [.int (cs k)]) (c_X2_isJoining l E _ _ (cs k)) (fun _ h => h.2.2.2.2.2.2.2.2.2.2.2.2.2.2.2.2) ks_X2_isJoining ki_X2 kc_X2_isJoining (by decide +kernel) rfl (Nat.le_of_ble_eq_true rfl) (Nat.le_of_ble_eq_true rfl) (fun _ h => h) (fun s => s) (fun _ _ _ _ h => h) rfl (Nat.le_of_ble_eq_true rfl) dX3_read_43 (fun v9 s9 hv9 => ?_)
          obtain ⟨rfl, rfl⟩ := hv9
          refine g_if_eq 46 O 65 dX3_read_46 (by decide) (fun h46 => ?_) (fun h46 => False.elim ((let_of hl).2.2.2 (ite_t h46)))
          refine g_aload_n 65 O dX3_read_65 rfl 4 rfl ?_
          refine g_iload_n 66 O dX3_read_66 rfl 3 rfl ?_
          refine g_iload_n 67 O dX3_read_67 rfl 2 rfl ?_
          refine g_iload 68 O dX3_read_68 0 rfl ?_
          refine g_bipush 70 O (v := 97) dX3_read_70 (by decide) ?_
          refine g_isub 72 O dX3_read_72 ?_
          refine g_callV 73 O (na := 3) (av := [.int pv, .int 1, .int ((cs k) - 97)]) (c_X3_append l E a (wP E b (le, cs) ++ R) (nI nw) rd wi na so lt' ng' pl' t1 t2 tr pv 1 (cs k - 97) nw rfl (hst.2.2 (show (1 : Nat) ≠ 2 by decide)) hpb rfl) kl_X3_52 km_X3_append kv_X3_append ki_X3 kc_X3_append (by decide +kernel) rfl (Nat.le_of_ble_eq_true rfl) (Nat.le_of_ble_eq_true rfl) (fun _ h => h) 0 rfl rfl (fun s => s) (fun _ _ _ _ h => h) rfl (Nat.le_of_ble_eq_true rfl) dX3_read_73 (fun v9 s9 hv9 => ?_)
          obtain ⟨rfl, rfl⟩ := hv9
          refine g_iconst 76 O (v := 0) dX3_read_76 (by decide) ?_
          refine g_istore_n 77 O (lv' := [(3, .int 0), (5, .int (cs k)), (4, .int (nI k)), (2, .int pv), (0, .ref (a 0)), (1, .ref (b 0))]) dX3_read_77 rfl (by decide) rfl ?_
          refine g_iinc 78 O (v := nI (k + 1)) (q := 2) (lv' := [(4, .int (nI (k + 1))), (3, .int 0), (5, .int (cs k)), (2, .int pv), (0, .ref (a 0)), (1, .ref (b 0))]) dX3_read_78 rfl (nI_1 k) (by decide) rfl ?_
          refine g_goto 81 O 12 dX3_read_81 (by decide) ?_
          refine g_sub [0, 1, 3, 4, 5] (lv' := [(4, .int (nI (k + 1))), (3, .int 0), (2, .int pv), (0, .ref (a 0)), (1, .ref (b 0))]) rfl ?_
          exact ih12 (k + 1) 2 (nw + 1) pv 0 (upd lt' nw (cs k - 97)) (upd ng' nw 1) (upd pl' nw pv) (by omega) (rs_go hrs (sp1_l hl)) (fun q => absurd rfl q) hpb rfl (rd_step hrs (by decide) hl (hpv (by decide)) rfl hw) (by omega)
      · -- case 2
        obtain rfl : nv = 0 := hnv
        refine g_iload 12 O dX3_read_12 0 rfl ?_
        refine g_aload_n 14 O dX3_read_14 rfl 4 rfl ?_
        refine g_getN 15 O (v := .int le) inX2 7 rfl rfl 1 (by decide) (fun _ h => h.2.1) rfl dX3_read_15 ?_
        refine g_icmp_ge 18 O 84 dX3_read_18 (by decide) (fun h18 => ?_) (fun h18 => ?_)
        · -- taken
          have e : k = N := by rw [hle] at h18; have := ge_of_le (by omega) (by omega) h18; omega
          subst e
          exact g_vret 84 O dX3_read_84 (by rw [hP0, hpr.2]; exact ⟨rfl, lt', ng', pl', rfl, by rw [hpr.2], by rw [hpr.2]; exact hst.2.1, fun j hj => hw j (by rw [hpr.2] at hj; exact hj)⟩)
        · -- not taken
          have hlt : k < N := by rw [hle] at h18; exact lt_of_nge (by omega) h18
          obtain ⟨sp9, hsp⟩ : ∃ s9, sp (2, nw) (cs k) = some s9 := by
            obtain ⟨nw2, h2⟩ := isSay_iff.mp hS
            have h3 := rs_some h2 k hlt
            rw [rs, hrs] at h3
            exact Option.isSome_iff_exists.mp h3
          refine g_aload_n 21 O dX3_read_21 rfl 4 rfl ?_
          refine g_iload 22 O dX3_read_22 0 rfl ?_
          refine g_callV 24 O (na := 1) (av := [.int (nI k)]) (c_X2_codeAt l E b (wS E a ((nI nw, rd, wi, na, so), lt', ng', pl', t1, t2, tr) ++ R) le cs (nI k) N k hle hN rfl hlt) kl_X3_44 km_X2_codeAt kv_X2_codeAt ki_X2 kc_X2_codeAt (by decide +kernel) rfl (Nat.le_of_ble_eq_true rfl) (Nat.le_of_ble_eq_true rfl) (fun _ h => Wo.swap (wS E a ((nI nw, rd, wi, na, so), lt', ng', pl', t1, t2, tr)) (wP E b (le, cs)) R rfl rfl h) 0 rfl rfl (fun _ => ((nI nw, rd, wi, na, so), lt', ng', pl', t1, t2, tr)) (fun _ _ _ hp h => by obtain ⟨-, rfl⟩ := hp; exact Wo.swap (wP E b (le, cs)) (wS E a ((nI nw, rd, wi, na, so), lt', ng', pl', t1, t2, tr)) R rfl rfl h) rfl (Nat.le_of_ble_eq_true rfl) dX3_read_24 (fun v9 s9 hv9 => ?_)
          obtain ⟨rfl, rfl⟩ := hv9
          refine g_istore 27 O (lv' := [(5, .int (cs k)), (4, .int (nI k)), (3, .int 0), (2, .int pv), (0, .ref (a 0)), (1, .ref (b 0))]) dX3_read_27 (by decide) rfl ?_
          refine g_iload 29 O dX3_read_29 0 rfl ?_
          refine g_bipush 31 O (v := 110) dX3_read_31 (by decide) ?_
          have hn4 : nw < 4 := by
            rcases Nat.lt_or_ge nw 4 with q | q
            · exact q
            · rw [sp2_y q] at hsp; cases hsp
          refine g_icmp_ne 33 O 41 dX3_read_33 (by decide) (fun h33 => ?_) (fun h33 => False.elim (by rcases (sp2_i hsp).1 with q | q <;> rw [q] at h33 <;> exact absurd h33 (by decide)))
          refine g_iload 41 O dX3_read_41 0 rfl ?_
          refine g_callN 43 O (na := 1) (av := [.int (cs k)]) (c_X2_isJoining l E _ _ (cs k)) (fun _ h => h.2.2.2.2.2.2.2.2.2.2.2.2.2.2.2.2) ks_X2_isJoining ki_X2 kc_X2_isJoining (by decide +kernel) rfl (Nat.le_of_ble_eq_true rfl) (Nat.le_of_ble_eq_true rfl) (fun _ h => h) (fun s => s) (fun _ _ _ _ h => h) rfl (Nat.le_of_ble_eq_true rfl) dX3_read_43 (fun v9 s9 hv9 => ?_)
          obtain ⟨rfl, rfl⟩ := hv9
          refine g_if_eq 46 O 65 dX3_read_46 (by decide) (fun h46 => False.elim (ite_f h46 (sp2_i hsp).1)) (fun h46 => ?_)
          refine g_iload 49 O dX3_read_49 0 rfl ?_
          refine g_bipush 51 O (v := 43) dX3_read_51 (by decide) ?_
          refine g_icmp_ne 53 O 60 dX3_read_53 (by decide) (fun h53 => ?_) (fun h53 => ?_)
          · -- taken
            refine g_iconst 60 O (v := 0) dX3_read_60 (by decide) ?_
            refine g_istore_n 61 O (lv' := [(2, .int 0), (5, .int (cs k)), (4, .int (nI k)), (3, .int 0), (0, .ref (a 0)), (1, .ref (b 0))]) dX3_read_61 rfl (by decide) rfl ?_
            refine g_goto 62 O 78 dX3_read_62 (by decide) ?_
            refine g_iinc 78 O (v := nI (k + 1)) (q := 2) (lv' := [(4, .int (nI (k + 1))), (2, .int 0), (5, .int (cs k)), (3, .int 0), (0, .ref (a 0)), (1, .ref (b 0))]) dX3_read_78 rfl (nI_1 k) (by decide) rfl ?_
            refine g_goto 81 O 12 dX3_read_81 (by decide) ?_
            refine g_sub [0, 3, 1, 4, 5] (lv' := [(4, .int (nI (k + 1))), (3, .int 0), (2, .int 0), (0, .ref (a 0)), (1, .ref (b 0))]) rfl ?_
            exact ih12 (k + 1) 0 nw 0 0 lt' ng' pl' (by omega) (rs_go hrs (sp2_j (sp2_i hsp).1 hn4)) (fun _ => by rw [pr_2 hpr.1]; simp only [hpr.2, if_true]; rw [decide_eq_false h53]; rfl) rfl rfl (fun j hj => by
            obtain ⟨a1, a2, a3, a4⟩ := hw j hj
            rw [pr_2 hpr.1]
            refine ⟨a1, a2, a3, ?_⟩
            have n : ¬ j = nw := by omega
            simp only [hpr.2, n, if_false]; exact a4) (by omega)
          · -- not taken
            refine g_iconst 56 O (v := 1) dX3_read_56 (by decide) ?_
            refine g_goto 57 O 61 dX3_read_57 (by decide) ?_
            refine g_istore_n 61 O (lv' := [(2, .int 1), (5, .int (cs k)), (4, .int (nI k)), (3, .int 0), (0, .ref (a 0)), (1, .ref (b 0))]) dX3_read_61 rfl (by decide) rfl ?_
            refine g_goto 62 O 78 dX3_read_62 (by decide) ?_
            refine g_iinc 78 O (v := nI (k + 1)) (q := 2) (lv' := [(4, .int (nI (k + 1))), (2, .int 1), (5, .int (cs k)), (3, .int 0), (0, .ref (a 0)), (1, .ref (b 0))]) dX3_read_78 rfl (nI_1 k) (by decide) rfl ?_
            refine g_goto 81 O 12 dX3_read_81 (by decide) ?_
            refine g_sub [0, 3, 1, 4, 5] (lv' := [(4, .int (nI (k + 1))), (3, .int 0), (2, .int 1), (0, .ref (a 0)), (1, .ref (b 0))]) rfl ?_
            exact ih12 (k + 1) 0 nw 1 0 lt' ng' pl' (by omega) (rs_go hrs (sp2_j (sp2_i hsp).1 hn4)) (fun _ => by rw [pr_2 hpr.1]; simp only [hpr.2, if_true]; rw [decide_eq_true h53]; rfl) rfl rfl (fun j hj => by
            obtain ⟨a1, a2, a3, a4⟩ := hw j hj
            rw [pr_2 hpr.1]
            refine ⟨a1, a2, a3, ?_⟩
            have n : ¬ j = nw := by omega
            simp only [hpr.2, n, if_false]; exact a4) (by omega)
  exact L12 _ 0 0 0 0 0 lt ng pl (Nat.zero_le _) rfl (fun _ => rfl) rfl rfl (fun k h => absurd h (Nat.not_lt_zero _)) (Nat.lt_succ_self _)
end
section
set_option maxRecDepth 100000 in
set_option maxHeartbeats 4000000 in
theorem c_X3_workOutWords (l : Launch) (E : Ev) (a : Nat → Nat) (b : Nat) (R : va_W) (sn : Nat → Int32) (wd rd wi na : Int32) (so : Int64) (lt ng pl : Nat → Int32) (t1 t2 tr : Nat → Int64) (y : Sy) (hy : SyW wd lt ng pl y) (z : Nat → Nat) (hz : SnW sn z) : Ctr l yX3_workOutWords cX3_workOutWords 7 none 1 20 E (fun s => wS E a s ++ ((b, .inl (E.cI, 6, .inl sn)) :: R)) [.ref (a 0), .ref b] (((wd, rd, wi, na, so), lt, ng, pl, t1, t2, tr)) (pV (fun s => ∃ t1' t2' : Nat → Int64, s = ((wd, rd, wi, na, so), lt, ng, pl, t1', t2', tr) ∧ ∀ k, k < y.1 → t1' k = wt1 y.2.1 y.2.2.1 k ∧ t2' k = wt2 z y.2.1 y.2.2.1 k)) := by
  refine Ctr.of' (by decide +kernel) (Nat.le_of_ble_eq_true rfl) (fun X P0 hP0 O => ?_)
  refine g_sub [0, 1] (lv' := [(0, .ref (a 0)), (1, .ref b)]) rfl ?_
  refine g_iconst 0 O (v := 0) dX3_workOutWords_0 (by decide) ?_
  refine g_istore_n 1 O (lv' := [(2, .int 0), (0, .ref (a 0)), (1, .ref b)]) dX3_workOutWords_1 rfl (by decide) rfl ?_
  refine g_sub [0, 1, 2] (lv' := [(2, .int 0), (0, .ref (a 0)), (1, .ref b)]) rfl ?_
  have L2 : ∀ (fuel : Nat) (i : Nat) (t1' t2' : Nat → Int64) (hi : i ≤ y.1) (hk : ∀ k, k < i → t1' k = wt1 y.2.1 y.2.2.1 k ∧ t2' k = wt2 z y.2.1 y.2.2.1 k), y.1 - i < fuel → G l E (fun s => wS E a s ++ ((b, .inl (E.cI, 6, .inl sn)) :: R)) P0 X 7 (((wd, rd, wi, na, so), lt, ng, pl, t1', t2', tr)) 2 [(2, .int (nI i)), (0, .ref (a 0)), (1, .ref b)] [] := by
    intro fuel
    induction fuel with
    | zero => intro i t1' t2' hi hk hfu; exact absurd hfu (Nat.not_lt_zero _)
    | succ fuel ih2 =>
      intro i t1' t2' hi hk hfu
      have hy4 := hy.2.1
      refine g_iload_n 2 O dX3_workOutWords_2 rfl 0 rfl ?_
      refine g_aload_n 3 O dX3_workOutWords_3 rfl 1 rfl ?_
      refine g_get 4 O (v := .int wd) inX3 0 rfl rfl 6 (by decide) kf_X3_32 rfl dX3_workOutWords_4 ?_
      refine g_icmp_ge 7 O 92 dX3_workOutWords_7 (by decide) (fun h7 => ?_) (fun h7 => ?_)
      · -- taken
        have e : i = y.1 := by rw [hy.1] at h7; have := ge_of_le (by omega) (by omega) h7; omega
        subst e
        exact g_vret 92 O dX3_workOutWords_92 (by rw [hP0]; exact ⟨rfl, t1', t2', rfl, hk⟩)
      · -- not taken
        have hlt : i < y.1 := by rw [hy.1] at h7; exact lt_of_nge (by omega) h7
        obtain ⟨w1, w2, w3, w4⟩ := hy.2.2 i hlt
        refine g_iload_n 10 O dX3_workOutWords_10 rfl 0 rfl ?_
        refine g_iconst 11 O (v := 4) dX3_workOutWords_11 (by decide) ?_
        refine g_icmp_ge 12 O 92 dX3_workOutWords_12 (by decide) (fun h12 => False.elim (absurd h12 (nI_ge (b := 4) (by omega) (by decide)))) (fun h12 => ?_)
        refine g_aload_n 15 O dX3_workOutWords_15 rfl 1 rfl ?_
        refine g_get 16 O (v := .ref (a 1)) inX3 0 rfl rfl 0 (by decide) kf_X3_9 rfl dX3_workOutWords_16 ?_
        refine g_iload_n 19 O dX3_workOutWords_19 rfl 0 rfl ?_
        refine g_iald 20 O 1 i rfl (rfl) (by omega) (by decide) dX3_workOutWords_20 ?_
        refine g_si (nI (y.2.1 i)) (w1) ?_
        refine g_istore_n 21 O (lv' := [(3, .int (nI (y.2.1 i))), (2, .int (nI i)), (0, .ref (a 0)), (1, .ref b)]) dX3_workOutWords_21 rfl (by decide) rfl ?_
        refine g_iload_n 22 O dX3_workOutWords_22 rfl 0 rfl ?_
        refine g_if_lt 23 O 38 dX3_workOutWords_23 (by decide) (fun h23 => False.elim (absurd h23 (nI_pos (by omega)))) (fun h23 => ?_)
        refine g_iload_n 26 O dX3_workOutWords_26 rfl 0 rfl ?_
        refine g_aload_n 27 O dX3_workOutWords_27 rfl 3 rfl ?_
        refine g_alen 28 O (v := 6) 7 0 rfl rfl rfl dX3_workOutWords_28 ?_
        refine g_icmp_ge 29 O 38 dX3_workOutWords_29 (by decide) (fun h29 => False.elim (absurd h29 (nI_ge (b := 6) (by omega) (by decide)))) (fun h29 => ?_)
        refine g_aload_n 32 O dX3_workOutWords_32 rfl 3 rfl ?_
        refine g_iload_n 33 O dX3_workOutWords_33 rfl 0 rfl ?_
        refine g_iald 34 O 7 ((y.2.1 i)) rfl (rfl) (w2) (by decide) dX3_workOutWords_34 ?_
        refine g_si (nI (z (y.2.1 i))) ((hz _ w2).1) ?_
        refine g_goto 35 O 39 dX3_workOutWords_35 (by decide) ?_
        refine g_istore 39 O (lv' := [(4, .int (nI (z (y.2.1 i)))), (3, .int (nI (y.2.1 i))), (2, .int (nI i)), (0, .ref (a 0)), (1, .ref b)]) dX3_workOutWords_39 (by decide) rfl ?_
        refine g_aload_n 41 O dX3_workOutWords_41 rfl 3 rfl ?_
        refine g_get 42 O (v := .ref (a 2)) inX3 0 rfl rfl 1 (by decide) kf_X3_15 rfl dX3_workOutWords_42 ?_
        refine g_iload_n 45 O dX3_workOutWords_45 rfl 2 rfl ?_
        refine g_zald 46 O 2 i rfl (rfl) (by omega) (by decide) dX3_workOutWords_46 ?_
        refine g_si (bi (y.2.2.1 i)) (w3) ?_
        refine g_if_eq 47 O 56 dX3_workOutWords_47 (by decide) (fun h47 => ?_) (fun h47 => ?_)
        · -- taken
          refine g_lconst 56 O (v := 0) dX3_workOutWords_56 (by decide) ?_
          refine g_lstore 57 O (lv' := [(5, .long 0), (4, .int (nI (z (y.2.1 i)))), (3, .int (nI (y.2.1 i))), (2, .int (nI i)), (0, .ref (a 0)), (1, .ref b)]) dX3_workOutWords_57 (by decide) rfl ?_
          refine g_aload_n 59 O dX3_workOutWords_59 rfl 4 rfl ?_
          refine g_get 60 O (v := .ref (a 4)) inX3 0 rfl rfl 3 (by decide) kf_X3_22 rfl dX3_workOutWords_60 ?_
          refine g_iload_n 63 O dX3_workOutWords_63 rfl 3 rfl ?_
          refine g_iload_n 64 O dX3_workOutWords_64 rfl 2 rfl ?_
          refine g_callN 65 O (na := 1) (av := [.int (nI (y.2.1 i))]) (c_X5_worldsOfFact l E _ _ (nI (y.2.1 i)) (y.2.1 i) rfl w2) (fun _ h => h.2.2.2.2.2.2.2.2.2.2.2.2.2.2.1) ks_X5_worldsOfFact ki_X5 kc_X5_worldsOfFact (by decide +kernel) rfl (Nat.le_of_ble_eq_true rfl) (Nat.le_of_ble_eq_true rfl) (fun _ h => h) (fun s => s) (fun _ _ _ _ h => h) rfl (Nat.le_of_ble_eq_true rfl) dX3_workOutWords_65 (fun v9 s9 hv9 => ?_)
          obtain ⟨rfl, rfl⟩ := hv9
          refine g_lload 68 O dX3_workOutWords_68 0 rfl ?_
          refine g_lxor 70 O dX3_workOutWords_70 ?_
          refine g_last 71 O (((wd, rd, wi, na, so), lt, ng, pl, vp_updL t1' i ((Wf (y.2.1 i)) ^^^ 0), t2', tr)) 4 i rfl (rfl) (by omega) (by decide) rfl dX3_workOutWords_71 ?_
          refine g_aload_n 72 O dX3_workOutWords_72 rfl 4 rfl ?_
          refine g_get 73 O (v := .ref (a 5)) inX3 0 rfl rfl 4 (by decide) kf_X3_26 rfl dX3_workOutWords_73 ?_
          refine g_iload_n 76 O dX3_workOutWords_76 rfl 3 rfl ?_
          refine g_iload 77 O dX3_workOutWords_77 1 rfl ?_
          refine g_callN 79 O (na := 1) (av := [.int (nI (z (y.2.1 i)))]) (c_X5_worldsOfFact l E _ _ (nI (z (y.2.1 i))) (z (y.2.1 i)) rfl (hz _ w2).2) (fun _ h => h.2.2.2.2.2.2.2.2.2.2.2.2.2.2.1) ks_X5_worldsOfFact ki_X5 kc_X5_worldsOfFact (by decide +kernel) rfl (Nat.le_of_ble_eq_true rfl) (Nat.le_of_ble_eq_true rfl) (fun _ h => h) (fun s => s) (fun _ _ _ _ h => h) rfl (Nat.le_of_ble_eq_true rfl) dX3_workOutWords_79 (fun v9 s9 hv9 => ?_)
          obtain ⟨rfl, rfl⟩ := hv9
          refine g_lload 82 O dX3_workOutWords_82 0 rfl ?_
          refine g_lxor 84 O dX3_workOutWords_84 ?_
          refine g_last 85 O (((wd, rd, wi, na, so), lt, ng, pl, vp_updL t1' i ((Wf (y.2.1 i)) ^^^ 0), vp_updL t2' i ((Wf (z (y.2.1 i))) ^^^ 0), tr)) 5 i rfl (rfl) (by omega) (by decide) rfl dX3_workOutWords_85 ?_
          refine g_iinc 86 O (v := nI (i + 1)) (q := 3) (lv' := [(2, .int (nI (i + 1))), (5, .long 0), (4, .int (nI (z (y.2.1 i)))), (3, .int (nI (y.2.1 i))), (0, .ref (a 0)), (1, .ref b)]) dX3_workOutWords_86 rfl (nI_1 i) (by decide) rfl ?_
          refine g_goto 89 O 2 dX3_workOutWords_89 (by decide) ?_
          refine g_sub [0, 4, 5] (lv' := [(2, .int (nI (i + 1))), (0, .ref (a 0)), (1, .ref b)]) rfl ?_
          exact ih2 (i + 1) (vp_updL t1' i (Wf (y.2.1 i) ^^^ 0)) (vp_updL t2' i (Wf (z (y.2.1 i)) ^^^ 0)) (by omega) (fun k h => by
            rcases Nat.lt_or_ge k i with q | q
            · have n : ¬ k = i := by omega
              rw [updL_n _ _ n, updL_n _ _ n]; exact hk k q
            · have e : k = i := by omega
              subst e
              rw [updL_s, updL_s, wt1, wt2, if_neg (by rw [bi_f h47]; decide)]; exact ⟨rfl, rfl⟩) (by omega)
        · -- not taken
          refine g_ldc2 50 O (v := (-1)) dX3_workOutWords_50 kk_X3_84 ?_
          refine g_goto 53 O 57 dX3_workOutWords_53 (by decide) ?_
          refine g_lstore 57 O (lv' := [(5, .long ((-1))), (4, .int (nI (z (y.2.1 i)))), (3, .int (nI (y.2.1 i))), (2, .int (nI i)), (0, .ref (a 0)), (1, .ref b)]) dX3_workOutWords_57 (by decide) rfl ?_
          refine g_aload_n 59 O dX3_workOutWords_59 rfl 4 rfl ?_
          refine g_get 60 O (v := .ref (a 4)) inX3 0 rfl rfl 3 (by decide) kf_X3_22 rfl dX3_workOutWords_60 ?_
          refine g_iload_n 63 O dX3_workOutWords_63 rfl 3 rfl ?_
          refine g_iload_n 64 O dX3_workOutWords_64 rfl 2 rfl ?_
          refine g_callN 65 O (na := 1) (av := [.int (nI (y.2.1 i))]) (c_X5_worldsOfFact l E _ _ (nI (y.2.1 i)) (y.2.1 i) rfl w2) (fun _ h => h.2.2.2.2.2.2.2.2.2.2.2.2.2.2.1) ks_X5_worldsOfFact ki_X5 kc_X5_worldsOfFact (by decide +kernel) rfl (Nat.le_of_ble_eq_true rfl) (Nat.le_of_ble_eq_true rfl) (fun _ h => h) (fun s => s) (fun _ _ _ _ h => h) rfl (Nat.le_of_ble_eq_true rfl) dX3_workOutWords_65 (fun v9 s9 hv9 => ?_)
          obtain ⟨rfl, rfl⟩ := hv9
          refine g_lload 68 O dX3_workOutWords_68 0 rfl ?_
          refine g_lxor 70 O dX3_workOutWords_70 ?_
          refine g_last 71 O (((wd, rd, wi, na, so), lt, ng, pl, vp_updL t1' i ((Wf (y.2.1 i)) ^^^ ((-1))), t2', tr)) 4 i rfl (rfl) (by omega) (by decide) rfl dX3_workOutWords_71 ?_
          refine g_aload_n 72 O dX3_workOutWords_72 rfl 4 rfl ?_
          refine g_get 73 O (v := .ref (a 5)) inX3 0 rfl rfl 4 (by decide) kf_X3_26 rfl dX3_workOutWords_73 ?_
          refine g_iload_n 76 O dX3_workOutWords_76 rfl 3 rfl ?_
          refine g_iload 77 O dX3_workOutWords_77 1 rfl ?_
          refine g_callN 79 O (na := 1) (av := [.int (nI (z (y.2.1 i)))]) (c_X5_worldsOfFact l E _ _ (nI (z (y.2.1 i))) (z (y.2.1 i)) rfl (hz _ w2).2) (fun _ h => h.2.2.2.2.2.2.2.2.2.2.2.2.2.2.1) ks_X5_worldsOfFact ki_X5 kc_X5_worldsOfFact (by decide +kernel) rfl (Nat.le_of_ble_eq_true rfl) (Nat.le_of_ble_eq_true rfl) (fun _ h => h) (fun s => s) (fun _ _ _ _ h => h) rfl (Nat.le_of_ble_eq_true rfl) dX3_workOutWords_79 (fun v9 s9 hv9 => ?_)
          obtain ⟨rfl, rfl⟩ := hv9
          refine g_lload 82 O dX3_workOutWords_82 0 rfl ?_
          refine g_lxor 84 O dX3_workOutWords_84 ?_
          refine g_last 85 O (((wd, rd, wi, na, so), lt, ng, pl, vp_updL t1' i ((Wf (y.2.1 i)) ^^^ ((-1))), vp_updL t2' i ((Wf (z (y.2.1 i))) ^^^ ((-1))), tr)) 5 i rfl (rfl) (by omega) (by decide) rfl dX3_workOutWords_85 ?_
          refine g_iinc 86 O (v := nI (i + 1)) (q := 3) (lv' := [(2, .int (nI (i + 1))), (5, .long ((-1))), (4, .int (nI (z (y.2.1 i)))), (3, .int (nI (y.2.1 i))), (0, .ref (a 0)), (1, .ref b)]) dX3_workOutWords_86 rfl (nI_1 i) (by decide) rfl ?_
          refine g_goto 89 O 2 dX3_workOutWords_89 (by decide) ?_
          refine g_sub [0, 4, 5] (lv' := [(2, .int (nI (i + 1))), (0, .ref (a 0)), (1, .ref b)]) rfl ?_
          exact ih2 (i + 1) (vp_updL t1' i (Wf (y.2.1 i) ^^^ (-1))) (vp_updL t2' i (Wf (z (y.2.1 i)) ^^^ (-1))) (by omega) (fun k h => by
            rcases Nat.lt_or_ge k i with q | q
            · have n : ¬ k = i := by omega
              rw [updL_n _ _ n, updL_n _ _ n]; exact hk k q
            · have e : k = i := by omega
              subst e
              rw [updL_s, updL_s, wt1, wt2, if_pos (bi_t h47)]; exact ⟨rfl, rfl⟩) (by omega)
  exact L2 _ 0 t1 t2 (Nat.zero_le _) (fun k h => absurd h (Nat.not_lt_zero _)) (Nat.lt_succ_self _)

set_option maxRecDepth 100000 in
set_option maxHeartbeats 4000000 in
theorem c_X3_countPluses (l : Launch) (E : Ev) (a : Nat → Nat) (R : va_W) (wd rd wi na : Int32) (so : Int64) (lt ng pl : Nat → Int32) (t1 t2 tr : Nat → Int64) (y : Sy) (hy : SyW wd lt ng pl y) (h0 : 0 < y.1) : Ctr l yX3_countPluses cX3_countPluses 3 (some .int) 0 0 E (fun s => wS E a s ++ R) [.ref (a 0)] (((wd, rd, wi, na, so), lt, ng, pl, t1, t2, tr)) (fun v8 s8 => v8 = some (.int (nI (npl y.2.2.2 y.1))) ∧ s8 = ((wd, rd, wi, na, so), lt, ng, pl, t1, t2, tr)) := by
  refine Ctr.of' (by decide +kernel) (Nat.le_of_ble_eq_true rfl) (fun X P0 hP0 O => ?_)
  refine g_sub [0] (lv' := [(0, .ref (a 0))]) rfl ?_
  refine g_iconst 0 O (v := 0) dX3_countPluses_0 (by decide) ?_
  refine g_istore_n 1 O (lv' := [(1, .int 0), (0, .ref (a 0))]) dX3_countPluses_1 rfl (by decide) rfl ?_
  refine g_iconst 2 O (v := 1) dX3_countPluses_2 (by decide) ?_
  refine g_istore_n 3 O (lv' := [(2, .int 1), (1, .int 0), (0, .ref (a 0))]) dX3_countPluses_3 rfl (by decide) rfl ?_
  refine g_sub [0, 1, 2] (lv' := [(2, .int 1), (1, .int 0), (0, .ref (a 0))]) rfl ?_
  have L4 : ∀ (fuel : Nat) (i : Nat) (hi : i ≤ y.1 - 1), y.1 - i < fuel → G l E (fun s => wS E a s ++ R) P0 X 3 (((wd, rd, wi, na, so), lt, ng, pl, t1, t2, tr)) 4 [(2, .int (nI (i + 1))), (1, .int (nI (cn (fun k => y.2.2.2 (k + 1)) i))), (0, .ref (a 0))] [] := by
    intro fuel
    induction fuel with
    | zero => intro i hi hfu; exact absurd hfu (Nat.not_lt_zero _)
    | succ fuel ih4 =>
      intro i hi hfu
      have hy4 := hy.2.1
      refine g_iload_n 4 O dX3_countPluses_4 rfl 0 rfl ?_
      refine g_aload_n 5 O dX3_countPluses_5 rfl 2 rfl ?_
      refine g_get 6 O (v := .int wd) inX3 0 rfl rfl 6 (by decide) kf_X3_32 rfl dX3_countPluses_6 ?_
      refine g_icmp_ge 9 O 40 dX3_countPluses_9 (by decide) (fun h9 => ?_) (fun h9 => ?_)
      · -- taken
        have e : i = y.1 - 1 := by rw [hy.1] at h9; have := ge_of_le (by omega) (by omega) h9; omega
        subst e
        refine g_iload_n 40 O dX3_countPluses_40 rfl 1 rfl ?_
        exact g_iret 41 O dX3_countPluses_41 (by rw [hP0]; exact ⟨rfl, rfl⟩)
      · -- not taken
        have hlt : i + 1 < y.1 := by rw [hy.1] at h9; exact lt_of_nge (by omega) h9
        refine g_iload_n 12 O dX3_countPluses_12 rfl 0 rfl ?_
        refine g_iconst 13 O (v := 4) dX3_countPluses_13 (by decide) ?_
        refine g_icmp_ge 14 O 40 dX3_countPluses_14 (by decide) (fun h14 => False.elim (absurd h14 (nI_ge (b := 4) (by omega) (by decide)))) (fun h14 => ?_)
        refine g_iload_n 17 O dX3_countPluses_17 rfl 1 rfl ?_
        refine g_aload_n 18 O dX3_countPluses_18 rfl 2 rfl ?_
        refine g_get 19 O (v := .ref (a 3)) inX3 0 rfl rfl 2 (by decide) kf_X3_19 rfl dX3_countPluses_19 ?_
        refine g_iload_n 22 O dX3_countPluses_22 rfl 0 rfl ?_
        refine g_zald 23 O 3 ((i + 1)) rfl (rfl) (by omega) (by decide) dX3_countPluses_23 ?_
        refine g_si (bi (y.2.2.2 (i + 1))) ((hy.2.2 _ hlt).2.2.2) ?_
        refine g_if_eq 24 O 31 dX3_countPluses_24 (by decide) (fun h24 => ?_) (fun h24 => ?_)
        · -- taken
          refine g_iconst 31 O (v := 0) dX3_countPluses_31 (by decide) ?_
          refine g_iadd 32 O dX3_countPluses_32 ?_
          refine g_si (nI (cn (fun k => y.2.2.2 (k + 1)) (i + 1))) (cn_f (p := fun k => y.2.2.2 (k + 1)) (bi_f h24)) ?_
          refine g_istore_n 33 O (lv' := [(1, .int (nI (cn (fun k => y.2.2.2 (k + 1)) (i + 1)))), (2, .int (nI (i + 1))), (0, .ref (a 0))]) dX3_countPluses_33 rfl (by decide) rfl ?_
          refine g_iinc 34 O (v := nI (i + 1 + 1)) (q := 1) (lv' := [(2, .int (nI (i + 1 + 1))), (1, .int (nI (cn (fun k => y.2.2.2 (k + 1)) (i + 1)))), (0, .ref (a 0))]) dX3_countPluses_34 rfl (nI_1 (i + 1)) (by decide) rfl ?_
          refine g_goto 37 O 4 dX3_countPluses_37 (by decide) ?_
          refine g_sub [0, 1, 2] (lv' := [(2, .int (nI (i + 1 + 1))), (1, .int (nI (cn (fun k => y.2.2.2 (k + 1)) (i + 1)))), (0, .ref (a 0))]) rfl ?_
          exact ih4 (i + 1) (by omega) (by omega)
        · -- not taken
          refine g_iconst 27 O (v := 1) dX3_countPluses_27 (by decide) ?_
          refine g_goto 28 O 32 dX3_countPluses_28 (by decide) ?_
          refine g_iadd 32 O dX3_countPluses_32 ?_
          refine g_si (nI (cn (fun k => y.2.2.2 (k + 1)) (i + 1))) (cn_t (p := fun k => y.2.2.2 (k + 1)) (bi_t h24)) ?_
          refine g_istore_n 33 O (lv' := [(1, .int (nI (cn (fun k => y.2.2.2 (k + 1)) (i + 1)))), (2, .int (nI (i + 1))), (0, .ref (a 0))]) dX3_countPluses_33 rfl (by decide) rfl ?_
          refine g_iinc 34 O (v := nI (i + 1 + 1)) (q := 1) (lv' := [(2, .int (nI (i + 1 + 1))), (1, .int (nI (cn (fun k => y.2.2.2 (k + 1)) (i + 1)))), (0, .ref (a 0))]) dX3_countPluses_34 rfl (nI_1 (i + 1)) (by decide) rfl ?_
          refine g_goto 37 O 4 dX3_countPluses_37 (by decide) ?_
          refine g_sub [0, 1, 2] (lv' := [(2, .int (nI (i + 1 + 1))), (1, .int (nI (cn (fun k => y.2.2.2 (k + 1)) (i + 1)))), (0, .ref (a 0))]) rfl ?_
          exact ih4 (i + 1) (by omega) (by omega)
  exact L4 _ 0 (Nat.zero_le _) (Nat.lt_succ_self _)

set_option maxRecDepth 100000 in
set_option maxHeartbeats 4000000 in
theorem c_X3_bracketings (l : Launch) (E : Ev) (a : Nat → Nat) (R : va_W) (wd rd wi na : Int32) (so : Int64) (lt ng pl : Nat → Int32) (t1 t2 tr : Nat → Int64) (y : Sy) (hy : SyW wd lt ng pl y) : Ctr l yX3_bracketings cX3_bracketings 1 (some .int) 0 0 E (fun s => wS E a s ++ R) [.ref (a 0)] (((wd, rd, wi, na, so), lt, ng, pl, t1, t2, tr)) (fun v8 s8 => v8 = some (.int (nI (nbr y.1))) ∧ s8 = ((wd, rd, wi, na, so), lt, ng, pl, t1, t2, tr)) := by
  refine Ctr.of' (by decide +kernel) (Nat.le_of_ble_eq_true rfl) (fun X P0 hP0 O => ?_)
  refine g_sub [0] (lv' := [(0, .ref (a 0))]) rfl ?_
  refine g_aload_n 0 O dX3_bracketings_0 rfl 0 rfl ?_
  refine g_get 1 O (v := .int wd) inX3 0 rfl rfl 6 (by decide) kf_X3_32 rfl dX3_bracketings_1 ?_
  refine g_iconst 4 O (v := 4) dX3_bracketings_4 (by decide) ?_
  refine g_icmp_ne 5 O 12 dX3_bracketings_5 (by decide) (fun h5 => ?_) (fun h5 => ?_)
  · -- taken
    refine g_aload_n 12 O dX3_bracketings_12 rfl 0 rfl ?_
    refine g_get 13 O (v := .int wd) inX3 0 rfl rfl 6 (by decide) kf_X3_32 rfl dX3_bracketings_13 ?_
    refine g_iconst 16 O (v := 3) dX3_bracketings_16 (by decide) ?_
    refine g_icmp_ne 17 O 24 dX3_bracketings_17 (by decide) (fun h17 => ?_) (fun h17 => ?_)
    · -- taken
      refine g_iconst 24 O (v := 1) dX3_bracketings_24 (by decide) ?_
      exact g_iret 25 O dX3_bracketings_25 (by have hy4 := hy.2.1; rw [hP0, nbr]; rw [if_neg (fun e => h5 (by rw [hy.1, e]; rfl)), if_neg (fun e => h17 (by rw [hy.1, e]; rfl))]; exact ⟨rfl, rfl⟩)
    · -- not taken
      refine g_iconst 20 O (v := 2) dX3_bracketings_20 (by decide) ?_
      refine g_goto 21 O 25 dX3_bracketings_21 (by decide) ?_
      exact g_iret 25 O dX3_bracketings_25 (by have hy4 := hy.2.1; rw [hP0, nbr]; rw [if_neg (fun e => h5 (by rw [hy.1, e]; rfl)), if_pos (by rw [hy.1] at h17; exact (nI_eq (b := 3) (by omega) (by decide)).mp h17)]; exact ⟨rfl, rfl⟩)
  · -- not taken
    refine g_iconst 8 O (v := 5) dX3_bracketings_8 (by decide) ?_
    refine g_goto 9 O 25 dX3_bracketings_9 (by decide) ?_
    exact g_iret 25 O dX3_bracketings_25 (by have hy4 := hy.2.1; rw [hP0, nbr]; rw [if_pos (by rw [hy.1] at h5; exact (nI_eq (b := 4) (by omega) (by decide)).mp h5)]; exact ⟨rfl, rfl⟩)

set_option maxRecDepth 100000 in
set_option maxHeartbeats 4000000 in
theorem c_X3_joiningsThatAreOr (l : Launch) (E : Ev) (a : Nat → Nat) (R : va_W) (wd rd wi na : Int32) (so : Int64) (lt ng pl : Nat → Int32) (t1 t2 tr : Nat → Int64) (p0 : Int32) (y : Sy) (hy : SyW wd lt ng pl y) (h0 : 0 < y.1) (p : Nat) (hp : p0 = nI p) (hp8 : p < 8) : Ctr l yX3_joiningsThatAreOr cX3_joiningsThatAreOr 5 (some .int) 1 22 E (fun s => wS E a s ++ R) [.ref (a 0), .int p0] (((wd, rd, wi, na, so), lt, ng, pl, t1, t2, tr)) (pI (fun r s => s = ((wd, rd, wi, na, so), lt, ng, pl, t1, t2, tr) ∧ ∃ v : Nat, r = nI v ∧ v < 8 ∧ ∀ k, k < y.1 - 1 → v.testBit k = jo y.2.2.2 p k)) := by
  refine Ctr.of' (by decide +kernel) (Nat.le_of_ble_eq_true rfl) (fun X P0 hP0 O => ?_)
  refine g_sub [0, 1] (lv' := [(0, .ref (a 0)), (1, .int p0)]) rfl ?_
  refine g_iconst 0 O (v := 0) dX3_joiningsThatAreOr_0 (by decide) ?_
  refine g_istore_n 1 O (lv' := [(2, .int 0), (0, .ref (a 0)), (1, .int p0)]) dX3_joiningsThatAreOr_1 rfl (by decide) rfl ?_
  refine g_iconst 2 O (v := 0) dX3_joiningsThatAreOr_2 (by decide) ?_
  refine g_istore_n 3 O (lv' := [(3, .int 0), (2, .int 0), (0, .ref (a 0)), (1, .int p0)]) dX3_joiningsThatAreOr_3 rfl (by decide) rfl ?_
  refine g_iconst 4 O (v := 1) dX3_joiningsThatAreOr_4 (by decide) ?_
  refine g_istore 5 O (lv' := [(4, .int 1), (3, .int 0), (2, .int 0), (0, .ref (a 0)), (1, .int p0)]) dX3_joiningsThatAreOr_5 (by decide) rfl ?_
  refine g_sub [0, 1, 2, 3, 4] (lv' := [(4, .int 1), (3, .int 0), (2, .int 0), (0, .ref (a 0)), (1, .int p0)]) rfl ?_
  have L7 : ∀ (fuel : Nat) (i v : Nat) (hi : i ≤ y.1 - 1) (hv : v < 2 ^ i) (hb : ∀ k, k < i → v.testBit k = jo y.2.2.2 p k), y.1 - i < fuel → G l E (fun s => wS E a s ++ R) P0 X 5 (((wd, rd, wi, na, so), lt, ng, pl, t1, t2, tr)) 7 [(4, .int (nI (i + 1))), (3, .int (nI (cn (fun j => y.2.2.2 (j + 1)) i))), (2, .int (nI v)), (0, .ref (a 0)), (1, .int p0)] [] := by
    intro fuel
    induction fuel with
    | zero => intro i v hi hv hb hfu; exact absurd hfu (Nat.not_lt_zero _)
    | succ fuel ih7 =>
      intro i v hi hv hb hfu
      have hy4 := hy.2.1
      refine g_iload 7 O dX3_joiningsThatAreOr_7 0 rfl ?_
      refine g_aload_n 9 O dX3_joiningsThatAreOr_9 rfl 3 rfl ?_
      refine g_get 10 O (v := .int wd) inX3 0 rfl rfl 6 (by decide) kf_X3_32 rfl dX3_joiningsThatAreOr_10 ?_
      refine g_icmp_ge 13 O 55 dX3_joiningsThatAreOr_13 (by decide) (fun h13 => ?_) (fun h13 => ?_)
      · -- taken
        have e : i = y.1 - 1 := by rw [hy.1] at h13; have := ge_of_le (by omega) (by omega) h13; omega
        subst e
        refine g_iload_n 55 O dX3_joiningsThatAreOr_55 rfl 2 rfl ?_
        exact g_iret 56 O dX3_joiningsThatAreOr_56 (by rw [hP0]; exact ⟨_, rfl, rfl, v, rfl, Nat.lt_of_lt_of_le hv (Nat.pow_le_pow_right (by decide) (show y.1 - 1 ≤ 3 by omega)), hb⟩)
      · -- not taken
        have hlt : i + 1 < y.1 := by rw [hy.1] at h13; exact lt_of_nge (by omega) h13
        have hv4 : v < 4 := Nat.lt_of_lt_of_le hv (Nat.pow_le_pow_right (by decide) (show i ≤ 2 by omega))
        have hc3 : cn (fun j => y.2.2.2 (j + 1)) i < 3 := Nat.lt_of_le_of_lt (cn_le _ _) (by omega)
        refine g_iload 16 O dX3_joiningsThatAreOr_16 0 rfl ?_
        refine g_iconst 18 O (v := 4) dX3_joiningsThatAreOr_18 (by decide) ?_
        refine g_icmp_ge 19 O 55 dX3_joiningsThatAreOr_19 (by decide) (fun h19 => False.elim (absurd h19 (nI_ge (b := 4) (by omega) (by decide)))) (fun h19 => ?_)
        refine g_aload_n 22 O dX3_joiningsThatAreOr_22 rfl 3 rfl ?_
        refine g_get 23 O (v := .ref (a 3)) inX3 0 rfl rfl 2 (by decide) kf_X3_19 rfl dX3_joiningsThatAreOr_23 ?_
        refine g_iload 26 O dX3_joiningsThatAreOr_26 0 rfl ?_
        refine g_zald 28 O 3 ((i + 1)) rfl (rfl) (by omega) (by decide) dX3_joiningsThatAreOr_28 ?_
        refine g_si (bi (y.2.2.2 (i + 1))) ((hy.2.2 _ hlt).2.2.2) ?_
        refine g_if_eq 29 O 49 dX3_joiningsThatAreOr_29 (by decide) (fun h29 => ?_) (fun h29 => ?_)
        · -- taken
          rw [show (nI (cn (fun j => y.2.2.2 (j + 1)) i) : Int32) = nI (cn (fun j => y.2.2.2 (j + 1)) (i + 1)) from cn_f' (p := (fun j => y.2.2.2 (j + 1))) (bi_f h29)]
          refine g_iinc 49 O (v := nI (i + 1 + 1)) (q := 0) (lv' := [(4, .int (nI (i + 1 + 1))), (3, .int (nI (cn (fun j => y.2.2.2 (j + 1)) (i + 1)))), (2, .int (nI v)), (0, .ref (a 0)), (1, .int p0)]) dX3_joiningsThatAreOr_49 rfl (nI_1 (i + 1)) (by decide) rfl ?_
          refine g_goto 52 O 7 dX3_joiningsThatAreOr_52 (by decide) ?_
          refine g_sub [0, 1, 2, 3, 4] (lv' := [(4, .int (nI (i + 1 + 1))), (3, .int (nI (cn (fun j => y.2.2.2 (j + 1)) (i + 1)))), (2, .int (nI v)), (0, .ref (a 0)), (1, .int p0)]) rfl ?_
          exact ih7 (i + 1) v (by omega) (jo_step (by omega) hv hb (x := 0) (by rw [if_neg]; rw [jo, bi_f h29, Bool.false_and]; decide)).1 (jo_step (by omega) hv hb (x := 0) (by rw [if_neg]; rw [jo, bi_f h29, Bool.false_and]; decide)).2 (by omega)
        · -- not taken
          refine g_iload_n 32 O dX3_joiningsThatAreOr_32 rfl 2 rfl ?_
          refine g_iload_n 33 O dX3_joiningsThatAreOr_33 rfl 4 rfl ?_
          refine g_i2l 34 O dX3_joiningsThatAreOr_34 ?_
          refine g_iload_n 35 O dX3_joiningsThatAreOr_35 rfl 1 rfl ?_
          refine g_callN 36 O (na := 2) (av := [.long p0.toInt64, .int (nI (cn (fun j => y.2.2.2 (j + 1)) i))]) (c_X5_bitOf l E _ _ p0.toInt64 (nI (cn (fun j => y.2.2.2 (j + 1)) i))) (fun _ h => h.2.2.2.2.2.2.2.2.2.2.2.2.2.2.2.1) ks_X5_bitOf ki_X5 kc_X5_bitOf (by decide +kernel) rfl (Nat.le_of_ble_eq_true rfl) (Nat.le_of_ble_eq_true rfl) (fun _ h => h) (fun s => s) (fun _ _ _ _ h => h) rfl (Nat.le_of_ble_eq_true rfl) dX3_joiningsThatAreOr_36 (fun v9 s9 hv9 => ?_)
          obtain ⟨rfl, rfl⟩ := hv9
          refine g_iload 39 O dX3_joiningsThatAreOr_39 0 rfl ?_
          refine g_iconst 41 O (v := 1) dX3_joiningsThatAreOr_41 (by decide) ?_
          refine g_isub 42 O dX3_joiningsThatAreOr_42 ?_
          refine g_ishl 43 O dX3_joiningsThatAreOr_43 ?_
          refine g_ior 44 O dX3_joiningsThatAreOr_44 ?_
          refine g_si (nI (v + (if p.testBit (cn (fun j => y.2.2.2 (j + 1)) i) = true then 2 ^ i else 0))) (by rw [hp]; exact jo_or p hp8 _ hc3 i (by omega) v hv4 hv) ?_
          refine g_istore_n 45 O (lv' := [(2, .int (nI (v + (if p.testBit (cn (fun j => y.2.2.2 (j + 1)) i) = true then 2 ^ i else 0)))), (4, .int (nI (i + 1))), (3, .int (nI (cn (fun j => y.2.2.2 (j + 1)) i))), (0, .ref (a 0)), (1, .int p0)]) dX3_joiningsThatAreOr_45 rfl (by decide) rfl ?_
          refine g_iinc 46 O (v := nI (cn (fun j => y.2.2.2 (j + 1)) (i + 1))) (q := 2) (lv' := [(3, .int (nI (cn (fun j => y.2.2.2 (j + 1)) (i + 1)))), (2, .int (nI (v + (if p.testBit (cn (fun j => y.2.2.2 (j + 1)) i) = true then 2 ^ i else 0)))), (4, .int (nI (i + 1))), (0, .ref (a 0)), (1, .int p0)]) dX3_joiningsThatAreOr_46 rfl (cn_t (p := (fun j => y.2.2.2 (j + 1))) (bi_t h29)) (by decide) rfl ?_
          refine g_iinc 49 O (v := nI (i + 1 + 1)) (q := 2) (lv' := [(4, .int (nI (i + 1 + 1))), (3, .int (nI (cn (fun j => y.2.2.2 (j + 1)) (i + 1)))), (2, .int (nI (v + (if p.testBit (cn (fun j => y.2.2.2 (j + 1)) i) = true then 2 ^ i else 0)))), (0, .ref (a 0)), (1, .int p0)]) dX3_joiningsThatAreOr_49 rfl (nI_1 (i + 1)) (by decide) rfl ?_
          refine g_goto 52 O 7 dX3_joiningsThatAreOr_52 (by decide) ?_
          refine g_sub [0, 1, 2, 3, 4] (lv' := [(4, .int (nI (i + 1 + 1))), (3, .int (nI (cn (fun j => y.2.2.2 (j + 1)) (i + 1)))), (2, .int (nI (v + (if p.testBit (cn (fun j => y.2.2.2 (j + 1)) i) = true then 2 ^ i else 0)))), (0, .ref (a 0)), (1, .int p0)]) rfl ?_
          exact ih7 (i + 1) (v + (if p.testBit (cn (fun j => y.2.2.2 (j + 1)) i) = true then 2 ^ i else 0)) (by omega) (jo_step (by omega) hv hb (by rw [jo, bi_t h29, Bool.true_and])).1 (jo_step (by omega) hv hb (by rw [jo, bi_t h29, Bool.true_and])).2 (by omega)
  exact L7 _ 0 0 (Nat.zero_le _) Nat.zero_lt_one (fun k h => absurd h (Nat.not_lt_zero _)) (Nat.lt_succ_self _)

set_option maxRecDepth 100000 in
set_option maxHeartbeats 4000000 in
theorem c_X3_wordTruth (l : Launch) (E : Ev) (a : Nat → Nat) (R : va_W) (wd rd wi na : Int32) (so : Int64) (lt ng pl : Nat → Int32) (t1 t2 tr : Nat → Int64) (p0 p1 : Int32) (k c : Nat) (hp : p0 = nI k) (hk : k < 4) (hq : p1 = nI c) (hc : c < 16) : Ctr l yX3_wordTruth cX3_wordTruth 3 (some .long) 0 0 E (fun s => wS E a s ++ R) [.ref (a 0), .int p0, .int p1] (((wd, rd, wi, na, so), lt, ng, pl, t1, t2, tr)) (fun v8 s8 => v8 = some (.long (if c.testBit k = true then t2 k else t1 k)) ∧ s8 = ((wd, rd, wi, na, so), lt, ng, pl, t1, t2, tr)) := by
  refine Ctr.of' (by decide +kernel) (Nat.le_of_ble_eq_true rfl) (fun X P0 hP0 O => ?_)
  refine g_sub [0, 1, 2] (lv' := [(0, .ref (a 0)), (1, .int p0), (2, .int p1)]) rfl ?_
  refine g_iload_n 0 O dX3_wordTruth_0 rfl 1 rfl ?_
  refine g_if_lt 1 O 9 dX3_wordTruth_1 (by decide) (fun h1 => False.elim (absurd h1 (by rw [hp]; exact nI_pos (by omega)))) (fun h1 => ?_)
  refine g_iload_n 4 O dX3_wordTruth_4 rfl 1 rfl ?_
  refine g_iconst 5 O (v := 4) dX3_wordTruth_5 (by decide) ?_
  refine g_icmp_lt 6 O 11 dX3_wordTruth_6 (by decide) (fun h6 => ?_) (fun h6 => False.elim (h6 (by rw [hp]; exact nI_lt (b := 4) hk (by decide))))
  refine g_iload_n 11 O dX3_wordTruth_11 rfl 2 rfl ?_
  refine g_iconst 12 O (v := 1) dX3_wordTruth_12 (by decide) ?_
  refine g_iload_n 13 O dX3_wordTruth_13 rfl 1 rfl ?_
  refine g_ishl 14 O dX3_wordTruth_14 ?_
  refine g_iand 15 O dX3_wordTruth_15 ?_
  refine g_if_eq 16 O 28 dX3_wordTruth_16 (by decide) (fun h16 => ?_) (fun h16 => ?_)
  · -- taken
    refine g_aload_n 28 O dX3_wordTruth_28 rfl 0 rfl ?_
    refine g_get 29 O (v := .ref (a 4)) inX3 0 rfl rfl 3 (by decide) kf_X3_22 rfl dX3_wordTruth_29 ?_
    refine g_iload_n 32 O dX3_wordTruth_32 rfl 1 rfl ?_
    refine g_lald 33 O 4 k rfl (hp) (hk) (by decide) dX3_wordTruth_33 ?_
    exact g_lret 34 O dX3_wordTruth_34 (by rw [hP0]; rw [if_neg (by rw [(bit16 c hc k hk).mp (by rw [hp, hq] at h16; exact h16)]; decide)]; exact ⟨rfl, rfl⟩)
  · -- not taken
    refine g_aload_n 19 O dX3_wordTruth_19 rfl 0 rfl ?_
    refine g_get 20 O (v := .ref (a 5)) inX3 0 rfl rfl 4 (by decide) kf_X3_26 rfl dX3_wordTruth_20 ?_
    refine g_iload_n 23 O dX3_wordTruth_23 rfl 1 rfl ?_
    refine g_lald 24 O 5 k rfl (hp) (hk) (by decide) dX3_wordTruth_24 ?_
    refine g_goto 25 O 34 dX3_wordTruth_25 (by decide) ?_
    exact g_lret 34 O dX3_wordTruth_34 (by rw [hP0]; rw [if_pos (by cases e : c.testBit k with | true => rfl | false => exact absurd (by rw [hp, hq]; exact (bit16 c hc k hk).mpr e) h16)]; exact ⟨rfl, rfl⟩)

theorem c_X3_jb (l : Launch) (E : Ev) {T : Type} (w : T → va_W) (σ : T) (p0 p1 : Int32) (p2 p3 : Int64) (v k : Nat) (hv : v < 16) (hk : k < 4) (h0 : p0 = nI v) (h1 : p1 = nI k) : Ctr l yX3_joined cX3_joined 6 (some .long) 0 0 E w [.int p0, .int p1, .long p2, .long p3] σ (fun r s => r = some (.long (jn (v.testBit k) p2 p3)) ∧ s = σ) :=
  (c_X3_joined l E w σ p0 p1 p2 p3).mono (fun r s h => ⟨by rw [h.1, jn_ite hv hk h0 h1], h.2⟩)

set_option maxRecDepth 100000 in
set_option maxHeartbeats 4000000 in
theorem c_X3_truthOfThree (l : Launch) (E : Ev) (a : Nat → Nat) (R : va_W) (wd rd wi na : Int32) (so : Int64) (lt ng pl : Nat → Int32) (t1 t2 tr : Nat → Int64) (p0 p1 p2 : Int32) (b v c : Nat) (hb : p0 = nI b) (hb5 : b < 5) (hv : p1 = nI v) (hv8 : v < 8) (hq : p2 = nI c) (hc : c < 16) : Ctr l yX3_truthOfThree cX3_truthOfThree 10 (some .long) 1 25 E (fun s => wS E a s ++ R) [.ref (a 0), .int p0, .int p1, .int p2] (((wd, rd, wi, na, so), lt, ng, pl, t1, t2, tr)) (fun v8 s8 => v8 = some (.long (br3 b (fun k => v.testBit k) (fun k => if c.testBit k = true then t2 k else t1 k))) ∧ s8 = ((wd, rd, wi, na, so), lt, ng, pl, t1, t2, tr)) := by
  refine Ctr.of' (by decide +kernel) (Nat.le_of_ble_eq_true rfl) (fun X P0 hP0 O => ?_)
  refine g_sub [0, 1, 2, 3] (lv' := [(0, .ref (a 0)), (1, .int p0), (2, .int p1), (3, .int p2)]) rfl ?_
  refine g_aload_n 0 O dX3_truthOfThree_0 rfl 0 rfl ?_
  refine g_iconst 1 O (v := 0) dX3_truthOfThree_1 (by decide) ?_
  refine g_iload_n 2 O dX3_truthOfThree_2 rfl 3 rfl ?_
  refine g_callV 3 O (na := 2) (av := [.int 0, .int p2]) (c_X3_wordTruth l E a R wd rd wi na so lt ng pl t1 t2 tr 0 p2 0 c rfl (by decide) hq (by omega)) kl_X3_94 km_X3_wordTruth kv_X3_wordTruth ki_X3 kc_X3_wordTruth (by decide +kernel) rfl (Nat.le_of_ble_eq_true rfl) (Nat.le_of_ble_eq_true rfl) (fun _ h => h) 0 rfl rfl (fun s => s) (fun _ _ _ _ h => h) rfl (Nat.le_of_ble_eq_true rfl) dX3_truthOfThree_3 (fun v9 s9 hv9 => ?_)
  obtain ⟨rfl, rfl⟩ := hv9
  refine g_lstore 6 O (lv' := [(4, .long (if c.testBit 0 = true then t2 0 else t1 0)), (0, .ref (a 0)), (1, .int p0), (2, .int p1), (3, .int p2)]) dX3_truthOfThree_6 (by decide) rfl ?_
  refine g_aload_n 8 O dX3_truthOfThree_8 rfl 1 rfl ?_
  refine g_iconst 9 O (v := 1) dX3_truthOfThree_9 (by decide) ?_
  refine g_iload_n 10 O dX3_truthOfThree_10 rfl 4 rfl ?_
  refine g_callV 11 O (na := 2) (av := [.int 1, .int p2]) (c_X3_wordTruth l E a R wd rd wi na so lt ng pl t1 t2 tr 1 p2 1 c rfl (by decide) hq (by omega)) kl_X3_94 km_X3_wordTruth kv_X3_wordTruth ki_X3 kc_X3_wordTruth (by decide +kernel) rfl (Nat.le_of_ble_eq_true rfl) (Nat.le_of_ble_eq_true rfl) (fun _ h => h) 0 rfl rfl (fun s => s) (fun _ _ _ _ h => h) rfl (Nat.le_of_ble_eq_true rfl) dX3_truthOfThree_11 (fun v9 s9 hv9 => ?_)
  obtain ⟨rfl, rfl⟩ := hv9
  refine g_lstore 14 O (lv' := [(6, .long (if c.testBit 1 = true then t2 1 else t1 1)), (4, .long (if c.testBit 0 = true then t2 0 else t1 0)), (0, .ref (a 0)), (1, .int p0), (2, .int p1), (3, .int p2)]) dX3_truthOfThree_14 (by decide) rfl ?_
  refine g_aload_n 16 O dX3_truthOfThree_16 rfl 2 rfl ?_
  refine g_iconst 17 O (v := 2) dX3_truthOfThree_17 (by decide) ?_
  refine g_iload_n 18 O dX3_truthOfThree_18 rfl 5 rfl ?_
  refine g_callV 19 O (na := 2) (av := [.int 2, .int p2]) (c_X3_wordTruth l E a R wd rd wi na so lt ng pl t1 t2 tr 2 p2 2 c rfl (by decide) hq (by omega)) kl_X3_94 km_X3_wordTruth kv_X3_wordTruth ki_X3 kc_X3_wordTruth (by decide +kernel) rfl (Nat.le_of_ble_eq_true rfl) (Nat.le_of_ble_eq_true rfl) (fun _ h => h) 0 rfl rfl (fun s => s) (fun _ _ _ _ h => h) rfl (Nat.le_of_ble_eq_true rfl) dX3_truthOfThree_19 (fun v9 s9 hv9 => ?_)
  obtain ⟨rfl, rfl⟩ := hv9
  refine g_lstore 22 O (lv' := [(8, .long (if c.testBit 2 = true then t2 2 else t1 2)), (6, .long (if c.testBit 1 = true then t2 1 else t1 1)), (4, .long (if c.testBit 0 = true then t2 0 else t1 0)), (0, .ref (a 0)), (1, .int p0), (2, .int p1), (3, .int p2)]) dX3_truthOfThree_22 (by decide) rfl ?_
  refine g_iload_n 24 O dX3_truthOfThree_24 rfl 4 rfl ?_
  refine g_if_ne 25 O 45 dX3_truthOfThree_25 (by decide) (fun h25 => ?_) (fun h25 => ?_)
  · -- taken
    refine g_iload_n 45 O dX3_truthOfThree_45 rfl 5 rfl ?_
    refine g_iconst 46 O (v := 0) dX3_truthOfThree_46 (by decide) ?_
    refine g_lload 47 O dX3_truthOfThree_47 2 rfl ?_
    refine g_iload_n 49 O dX3_truthOfThree_49 rfl 5 rfl ?_
    refine g_iconst 50 O (v := 1) dX3_truthOfThree_50 (by decide) ?_
    refine g_lload 51 O dX3_truthOfThree_51 1 rfl ?_
    refine g_lload 53 O dX3_truthOfThree_53 0 rfl ?_
    refine g_callS 55 O (na := 4) (av := [.int p1, .int 1, .long (if c.testBit 1 = true then t2 1 else t1 1), .long (if c.testBit 2 = true then t2 2 else t1 2)]) (c_X3_jb l E _ _ p1 1 (if c.testBit 1 = true then t2 1 else t1 1) (if c.testBit 2 = true then t2 2 else t1 2) v 1 (by omega) (by decide) hv rfl) kl_X3_98 ks_X3_joined ki_X3 kc_X3_joined (by decide +kernel) rfl (Nat.le_of_ble_eq_true rfl) (Nat.le_of_ble_eq_true rfl) (fun _ h => h) (fun s => s) (fun _ _ _ _ h => h) rfl (Nat.le_of_ble_eq_true rfl) dX3_truthOfThree_55 (fun v9 s9 hv9 => ?_)
    obtain ⟨rfl, rfl⟩ := hv9
    refine g_callS 58 O (na := 4) (av := [.int p1, .int 0, .long (if c.testBit 0 = true then t2 0 else t1 0), .long (jn (v.testBit 1) (if c.testBit 1 = true then t2 1 else t1 1) (if c.testBit 2 = true then t2 2 else t1 2))]) (c_X3_jb l E _ _ p1 0 (if c.testBit 0 = true then t2 0 else t1 0) (jn (v.testBit 1) (if c.testBit 1 = true then t2 1 else t1 1) (if c.testBit 2 = true then t2 2 else t1 2)) v 0 (by omega) (by decide) hv rfl) kl_X3_98 ks_X3_joined ki_X3 kc_X3_joined (by decide +kernel) rfl (Nat.le_of_ble_eq_true rfl) (Nat.le_of_ble_eq_true rfl) (fun _ h => h) (fun s => s) (fun _ _ _ _ h => h) rfl (Nat.le_of_ble_eq_true rfl) dX3_truthOfThree_58 (fun v9 s9 hv9 => ?_)
    obtain ⟨rfl, rfl⟩ := hv9
    exact g_lret 61 O dX3_truthOfThree_61 (by rw [hP0, br3, if_neg (fun e => h25 (by rw [hb, e]; rfl))]; exact ⟨rfl, rfl⟩)
  · -- not taken
    refine g_iload_n 28 O dX3_truthOfThree_28 rfl 5 rfl ?_
    refine g_iconst 29 O (v := 1) dX3_truthOfThree_29 (by decide) ?_
    refine g_iload_n 30 O dX3_truthOfThree_30 rfl 5 rfl ?_
    refine g_iconst 31 O (v := 0) dX3_truthOfThree_31 (by decide) ?_
    refine g_lload 32 O dX3_truthOfThree_32 2 rfl ?_
    refine g_lload 34 O dX3_truthOfThree_34 1 rfl ?_
    refine g_callS 36 O (na := 4) (av := [.int p1, .int 0, .long (if c.testBit 0 = true then t2 0 else t1 0), .long (if c.testBit 1 = true then t2 1 else t1 1)]) (c_X3_jb l E _ _ p1 0 (if c.testBit 0 = true then t2 0 else t1 0) (if c.testBit 1 = true then t2 1 else t1 1) v 0 (by omega) (by decide) hv rfl) kl_X3_98 ks_X3_joined ki_X3 kc_X3_joined (by decide +kernel) rfl (Nat.le_of_ble_eq_true rfl) (Nat.le_of_ble_eq_true rfl) (fun _ h => h) (fun s => s) (fun _ _ _ _ h => h) rfl (Nat.le_of_ble_eq_true rfl) dX3_truthOfThree_36 (fun v9 s9 hv9 => ?_)
    obtain ⟨rfl, rfl⟩ := hv9
    refine g_lload 39 O dX3_truthOfThree_39 0 rfl ?_
    refine g_callS 41 O (na := 4) (av := [.int p1, .int 1, .long (jn (v.testBit 0) (if c.testBit 0 = true then t2 0 else t1 0) (if c.testBit 1 = true then t2 1 else t1 1)), .long (if c.testBit 2 = true then t2 2 else t1 2)]) (c_X3_jb l E _ _ p1 1 (jn (v.testBit 0) (if c.testBit 0 = true then t2 0 else t1 0) (if c.testBit 1 = true then t2 1 else t1 1)) (if c.testBit 2 = true then t2 2 else t1 2) v 1 (by omega) (by decide) hv rfl) kl_X3_98 ks_X3_joined ki_X3 kc_X3_joined (by decide +kernel) rfl (Nat.le_of_ble_eq_true rfl) (Nat.le_of_ble_eq_true rfl) (fun _ h => h) (fun s => s) (fun _ _ _ _ h => h) rfl (Nat.le_of_ble_eq_true rfl) dX3_truthOfThree_41 (fun v9 s9 hv9 => ?_)
    obtain ⟨rfl, rfl⟩ := hv9
    exact g_lret 44 O dX3_truthOfThree_44 (by rw [hP0, br3, if_pos (by rw [hb] at h25; exact (nI_eq (b := 0) (by omega) (by decide)).mp h25)]; exact ⟨rfl, rfl⟩)

set_option maxRecDepth 100000 in
set_option maxHeartbeats 4000000 in
theorem c_X3_truthOfFour (l : Launch) (E : Ev) (a : Nat → Nat) (R : va_W) (wd rd wi na : Int32) (so : Int64) (lt ng pl : Nat → Int32) (t1 t2 tr : Nat → Int64) (p0 p1 p2 : Int32) (b v c : Nat) (hb : p0 = nI b) (hb5 : b < 5) (hv : p1 = nI v) (hv8 : v < 8) (hq : p2 = nI c) (hc : c < 16) : Ctr l yX3_truthOfFour cX3_truthOfFour 12 (some .long) 1 25 E (fun s => wS E a s ++ R) [.ref (a 0), .int p0, .int p1, .int p2] (((wd, rd, wi, na, so), lt, ng, pl, t1, t2, tr)) (fun v8 s8 => v8 = some (.long (br4 b (fun k => v.testBit k) (fun k => if c.testBit k = true then t2 k else t1 k))) ∧ s8 = ((wd, rd, wi, na, so), lt, ng, pl, t1, t2, tr)) := by
  refine Ctr.of' (by decide +kernel) (Nat.le_of_ble_eq_true rfl) (fun X P0 hP0 O => ?_)
  refine g_sub [0, 1, 2, 3] (lv' := [(0, .ref (a 0)), (1, .int p0), (2, .int p1), (3, .int p2)]) rfl ?_
  refine g_aload_n 0 O dX3_truthOfFour_0 rfl 0 rfl ?_
  refine g_iconst 1 O (v := 0) dX3_truthOfFour_1 (by decide) ?_
  refine g_iload_n 2 O dX3_truthOfFour_2 rfl 3 rfl ?_
  refine g_callV 3 O (na := 2) (av := [.int 0, .int p2]) (c_X3_wordTruth l E a R wd rd wi na so lt ng pl t1 t2 tr 0 p2 0 c rfl (by decide) hq (by omega)) kl_X3_94 km_X3_wordTruth kv_X3_wordTruth ki_X3 kc_X3_wordTruth (by decide +kernel) rfl (Nat.le_of_ble_eq_true rfl) (Nat.le_of_ble_eq_true rfl) (fun _ h => h) 0 rfl rfl (fun s => s) (fun _ _ _ _ h => h) rfl (Nat.le_of_ble_eq_true rfl) dX3_truthOfFour_3 (fun v9 s9 hv9 => ?_)
  obtain ⟨rfl, rfl⟩ := hv9
  refine g_lstore 6 O (lv' := [(4, .long (if c.testBit 0 = true then t2 0 else t1 0)), (0, .ref (a 0)), (1, .int p0), (2, .int p1), (3, .int p2)]) dX3_truthOfFour_6 (by decide) rfl ?_
  refine g_aload_n 8 O dX3_truthOfFour_8 rfl 1 rfl ?_
  refine g_iconst 9 O (v := 1) dX3_truthOfFour_9 (by decide) ?_
  refine g_iload_n 10 O dX3_truthOfFour_10 rfl 4 rfl ?_
  refine g_callV 11 O (na := 2) (av := [.int 1, .int p2]) (c_X3_wordTruth l E a R wd rd wi na so lt ng pl t1 t2 tr 1 p2 1 c rfl (by decide) hq (by omega)) kl_X3_94 km_X3_wordTruth kv_X3_wordTruth ki_X3 kc_X3_wordTruth (by decide +kernel) rfl (Nat.le_of_ble_eq_true rfl) (Nat.le_of_ble_eq_true rfl) (fun _ h => h) 0 rfl rfl (fun s => s) (fun _ _ _ _ h => h) rfl (Nat.le_of_ble_eq_true rfl) dX3_truthOfFour_11 (fun v9 s9 hv9 => ?_)
  obtain ⟨rfl, rfl⟩ := hv9
  refine g_lstore 14 O (lv' := [(6, .long (if c.testBit 1 = true then t2 1 else t1 1)), (4, .long (if c.testBit 0 = true then t2 0 else t1 0)), (0, .ref (a 0)), (1, .int p0), (2, .int p1), (3, .int p2)]) dX3_truthOfFour_14 (by decide) rfl ?_
  refine g_aload_n 16 O dX3_truthOfFour_16 rfl 2 rfl ?_
  refine g_iconst 17 O (v := 2) dX3_truthOfFour_17 (by decide) ?_
  refine g_iload_n 18 O dX3_truthOfFour_18 rfl 5 rfl ?_
  refine g_callV 19 O (na := 2) (av := [.int 2, .int p2]) (c_X3_wordTruth l E a R wd rd wi na so lt ng pl t1 t2 tr 2 p2 2 c rfl (by decide) hq (by omega)) kl_X3_94 km_X3_wordTruth kv_X3_wordTruth ki_X3 kc_X3_wordTruth (by decide +kernel) rfl (Nat.le_of_ble_eq_true rfl) (Nat.le_of_ble_eq_true rfl) (fun _ h => h) 0 rfl rfl (fun s => s) (fun _ _ _ _ h => h) rfl (Nat.le_of_ble_eq_true rfl) dX3_truthOfFour_19 (fun v9 s9 hv9 => ?_)
  obtain ⟨rfl, rfl⟩ := hv9
  refine g_lstore 22 O (lv' := [(8, .long (if c.testBit 2 = true then t2 2 else t1 2)), (6, .long (if c.testBit 1 = true then t2 1 else t1 1)), (4, .long (if c.testBit 0 = true then t2 0 else t1 0)), (0, .ref (a 0)), (1, .int p0), (2, .int p1), (3, .int p2)]) dX3_truthOfFour_22 (by decide) rfl ?_
  refine g_aload_n 24 O dX3_truthOfFour_24 rfl 3 rfl ?_
  refine g_iconst 25 O (v := 3) dX3_truthOfFour_25 (by decide) ?_
  refine g_iload_n 26 O dX3_truthOfFour_26 rfl 6 rfl ?_
  refine g_callV 27 O (na := 2) (av := [.int 3, .int p2]) (c_X3_wordTruth l E a R wd rd wi na so lt ng pl t1 t2 tr 3 p2 3 c rfl (by decide) hq (by omega)) kl_X3_94 km_X3_wordTruth kv_X3_wordTruth ki_X3 kc_X3_wordTruth (by decide +kernel) rfl (Nat.le_of_ble_eq_true rfl) (Nat.le_of_ble_eq_true rfl) (fun _ h => h) 0 rfl rfl (fun s => s) (fun _ _ _ _ h => h) rfl (Nat.le_of_ble_eq_true rfl) dX3_truthOfFour_27 (fun v9 s9 hv9 => ?_)
  obtain ⟨rfl, rfl⟩ := hv9
  refine g_lstore 30 O (lv' := [(10, .long (if c.testBit 3 = true then t2 3 else t1 3)), (8, .long (if c.testBit 2 = true then t2 2 else t1 2)), (6, .long (if c.testBit 1 = true then t2 1 else t1 1)), (4, .long (if c.testBit 0 = true then t2 0 else t1 0)), (0, .ref (a 0)), (1, .int p0), (2, .int p1), (3, .int p2)]) dX3_truthOfFour_30 (by decide) rfl ?_
  refine g_iload_n 32 O dX3_truthOfFour_32 rfl 5 rfl ?_
  have h5 : b = 0 ∨ b = 1 ∨ b = 2 ∨ b = 3 ∨ b = 4 := by omega
  rcases h5 with rfl | rfl | rfl | rfl | rfl
  ·
    refine g_si 0 (hb) ?_
    refine g_tabIn 33 O 64 dX3_truthOfFour_33 (by decide) (by decide) rfl (by decide) ?_
    refine g_iload_n 64 O dX3_truthOfFour_64 rfl 6 rfl ?_
    refine g_iconst 65 O (v := 2) dX3_truthOfFour_65 (by decide) ?_
    refine g_iload_n 66 O dX3_truthOfFour_66 rfl 6 rfl ?_
    refine g_iconst 67 O (v := 1) dX3_truthOfFour_67 (by decide) ?_
    refine g_iload_n 68 O dX3_truthOfFour_68 rfl 6 rfl ?_
    refine g_iconst 69 O (v := 0) dX3_truthOfFour_69 (by decide) ?_
    refine g_lload 70 O dX3_truthOfFour_70 3 rfl ?_
    refine g_lload 72 O dX3_truthOfFour_72 2 rfl ?_
    refine g_callS 74 O (na := 4) (av := [.int p1, .int 0, .long (if c.testBit 0 = true then t2 0 else t1 0), .long (if c.testBit 1 = true then t2 1 else t1 1)]) (c_X3_jb l E _ _ p1 0 (if c.testBit 0 = true then t2 0 else t1 0) (if c.testBit 1 = true then t2 1 else t1 1) v 0 (by omega) (by decide) hv rfl) kl_X3_98 ks_X3_joined ki_X3 kc_X3_joined (by decide +kernel) rfl (Nat.le_of_ble_eq_true rfl) (Nat.le_of_ble_eq_true rfl) (fun _ h => h) (fun s => s) (fun _ _ _ _ h => h) rfl (Nat.le_of_ble_eq_true rfl) dX3_truthOfFour_74 (fun v9 s9 hv9 => ?_)
    obtain ⟨rfl, rfl⟩ := hv9
    refine g_lload 77 O dX3_truthOfFour_77 1 rfl ?_
    refine g_callS 79 O (na := 4) (av := [.int p1, .int 1, .long (jn (v.testBit 0) (if c.testBit 0 = true then t2 0 else t1 0) (if c.testBit 1 = true then t2 1 else t1 1)), .long (if c.testBit 2 = true then t2 2 else t1 2)]) (c_X3_jb l E _ _ p1 1 (jn (v.testBit 0) (if c.testBit 0 = true then t2 0 else t1 0) (if c.testBit 1 = true then t2 1 else t1 1)) (if c.testBit 2 = true then t2 2 else t1 2) v 1 (by omega) (by decide) hv rfl) kl_X3_98 ks_X3_joined ki_X3 kc_X3_joined (by decide +kernel) rfl (Nat.le_of_ble_eq_true rfl) (Nat.le_of_ble_eq_true rfl) (fun _ h => h) (fun s => s) (fun _ _ _ _ h => h) rfl (Nat.le_of_ble_eq_true rfl) dX3_truthOfFour_79 (fun v9 s9 hv9 => ?_)
    obtain ⟨rfl, rfl⟩ := hv9
    refine g_lload 82 O dX3_truthOfFour_82 0 rfl ?_
    refine g_callS 84 O (na := 4) (av := [.int p1, .int 2, .long (jn (v.testBit 1) (jn (v.testBit 0) (if c.testBit 0 = true then t2 0 else t1 0) (if c.testBit 1 = true then t2 1 else t1 1)) (if c.testBit 2 = true then t2 2 else t1 2)), .long (if c.testBit 3 = true then t2 3 else t1 3)]) (c_X3_jb l E _ _ p1 2 (jn (v.testBit 1) (jn (v.testBit 0) (if c.testBit 0 = true then t2 0 else t1 0) (if c.testBit 1 = true then t2 1 else t1 1)) (if c.testBit 2 = true then t2 2 else t1 2)) (if c.testBit 3 = true then t2 3 else t1 3) v 2 (by omega) (by decide) hv rfl) kl_X3_98 ks_X3_joined ki_X3 kc_X3_joined (by decide +kernel) rfl (Nat.le_of_ble_eq_true rfl) (Nat.le_of_ble_eq_true rfl) (fun _ h => h) (fun s => s) (fun _ _ _ _ h => h) rfl (Nat.le_of_ble_eq_true rfl) dX3_truthOfFour_84 (fun v9 s9 hv9 => ?_)
    obtain ⟨rfl, rfl⟩ := hv9
    exact g_lret 87 O dX3_truthOfFour_87 (by rw [hP0]; exact ⟨rfl, rfl⟩)
  ·
    refine g_si 1 (hb) ?_
    refine g_tabIn 33 O 88 dX3_truthOfFour_33 (by decide) (by decide) rfl (by decide) ?_
    refine g_iload_n 88 O dX3_truthOfFour_88 rfl 6 rfl ?_
    refine g_iconst 89 O (v := 2) dX3_truthOfFour_89 (by decide) ?_
    refine g_iload_n 90 O dX3_truthOfFour_90 rfl 6 rfl ?_
    refine g_iconst 91 O (v := 0) dX3_truthOfFour_91 (by decide) ?_
    refine g_lload 92 O dX3_truthOfFour_92 3 rfl ?_
    refine g_iload_n 94 O dX3_truthOfFour_94 rfl 6 rfl ?_
    refine g_iconst 95 O (v := 1) dX3_truthOfFour_95 (by decide) ?_
    refine g_lload 96 O dX3_truthOfFour_96 2 rfl ?_
    refine g_lload 98 O dX3_truthOfFour_98 1 rfl ?_
    refine g_callS 100 O (na := 4) (av := [.int p1, .int 1, .long (if c.testBit 1 = true then t2 1 else t1 1), .long (if c.testBit 2 = true then t2 2 else t1 2)]) (c_X3_jb l E _ _ p1 1 (if c.testBit 1 = true then t2 1 else t1 1) (if c.testBit 2 = true then t2 2 else t1 2) v 1 (by omega) (by decide) hv rfl) kl_X3_98 ks_X3_joined ki_X3 kc_X3_joined (by decide +kernel) rfl (Nat.le_of_ble_eq_true rfl) (Nat.le_of_ble_eq_true rfl) (fun _ h => h) (fun s => s) (fun _ _ _ _ h => h) rfl (Nat.le_of_ble_eq_true rfl) dX3_truthOfFour_100 (fun v9 s9 hv9 => ?_)
    obtain ⟨rfl, rfl⟩ := hv9
    refine g_callS 103 O (na := 4) (av := [.int p1, .int 0, .long (if c.testBit 0 = true then t2 0 else t1 0), .long (jn (v.testBit 1) (if c.testBit 1 = true then t2 1 else t1 1) (if c.testBit 2 = true then t2 2 else t1 2))]) (c_X3_jb l E _ _ p1 0 (if c.testBit 0 = true then t2 0 else t1 0) (jn (v.testBit 1) (if c.testBit 1 = true then t2 1 else t1 1) (if c.testBit 2 = true then t2 2 else t1 2)) v 0 (by omega) (by decide) hv rfl) kl_X3_98 ks_X3_joined ki_X3 kc_X3_joined (by decide +kernel) rfl (Nat.le_of_ble_eq_true rfl) (Nat.le_of_ble_eq_true rfl) (fun _ h => h) (fun s => s) (fun _ _ _ _ h => h) rfl (Nat.le_of_ble_eq_true rfl) dX3_truthOfFour_103 (fun v9 s9 hv9 => ?_)
    obtain ⟨rfl, rfl⟩ := hv9
    refine g_lload 106 O dX3_truthOfFour_106 0 rfl ?_
    refine g_callS 108 O (na := 4) (av := [.int p1, .int 2, .long (jn (v.testBit 0) (if c.testBit 0 = true then t2 0 else t1 0) (jn (v.testBit 1) (if c.testBit 1 = true then t2 1 else t1 1) (if c.testBit 2 = true then t2 2 else t1 2))), .long (if c.testBit 3 = true then t2 3 else t1 3)]) (c_X3_jb l E _ _ p1 2 (jn (v.testBit 0) (if c.testBit 0 = true then t2 0 else t1 0) (jn (v.testBit 1) (if c.testBit 1 = true then t2 1 else t1 1) (if c.testBit 2 = true then t2 2 else t1 2))) (if c.testBit 3 = true then t2 3 else t1 3) v 2 (by omega) (by decide) hv rfl) kl_X3_98 ks_X3_joined ki_X3 kc_X3_joined (by decide +kernel) rfl (Nat.le_of_ble_eq_true rfl) (Nat.le_of_ble_eq_true rfl) (fun _ h => h) (fun s => s) (fun _ _ _ _ h => h) rfl (Nat.le_of_ble_eq_true rfl) dX3_truthOfFour_108 (fun v9 s9 hv9 => ?_)
    obtain ⟨rfl, rfl⟩ := hv9
    exact g_lret 111 O dX3_truthOfFour_111 (by rw [hP0]; exact ⟨rfl, rfl⟩)
  ·
    refine g_si 2 (hb) ?_
    refine g_tabIn 33 O 112 dX3_truthOfFour_33 (by decide) (by decide) rfl (by decide) ?_
    refine g_iload_n 112 O dX3_truthOfFour_112 rfl 6 rfl ?_
    refine g_iconst 113 O (v := 1) dX3_truthOfFour_113 (by decide) ?_
    refine g_iload_n 114 O dX3_truthOfFour_114 rfl 6 rfl ?_
    refine g_iconst 115 O (v := 0) dX3_truthOfFour_115 (by decide) ?_
    refine g_lload 116 O dX3_truthOfFour_116 3 rfl ?_
    refine g_lload 118 O dX3_truthOfFour_118 2 rfl ?_
    refine g_callS 120 O (na := 4) (av := [.int p1, .int 0, .long (if c.testBit 0 = true then t2 0 else t1 0), .long (if c.testBit 1 = true then t2 1 else t1 1)]) (c_X3_jb l E _ _ p1 0 (if c.testBit 0 = true then t2 0 else t1 0) (if c.testBit 1 = true then t2 1 else t1 1) v 0 (by omega) (by decide) hv rfl) kl_X3_98 ks_X3_joined ki_X3 kc_X3_joined (by decide +kernel) rfl (Nat.le_of_ble_eq_true rfl) (Nat.le_of_ble_eq_true rfl) (fun _ h => h) (fun s => s) (fun _ _ _ _ h => h) rfl (Nat.le_of_ble_eq_true rfl) dX3_truthOfFour_120 (fun v9 s9 hv9 => ?_)
    obtain ⟨rfl, rfl⟩ := hv9
    refine g_iload_n 123 O dX3_truthOfFour_123 rfl 6 rfl ?_
    refine g_iconst 124 O (v := 2) dX3_truthOfFour_124 (by decide) ?_
    refine g_lload 125 O dX3_truthOfFour_125 1 rfl ?_
    refine g_lload 127 O dX3_truthOfFour_127 0 rfl ?_
    refine g_callS 129 O (na := 4) (av := [.int p1, .int 2, .long (if c.testBit 2 = true then t2 2 else t1 2), .long (if c.testBit 3 = true then t2 3 else t1 3)]) (c_X3_jb l E _ _ p1 2 (if c.testBit 2 = true then t2 2 else t1 2) (if c.testBit 3 = true then t2 3 else t1 3) v 2 (by omega) (by decide) hv rfl) kl_X3_98 ks_X3_joined ki_X3 kc_X3_joined (by decide +kernel) rfl (Nat.le_of_ble_eq_true rfl) (Nat.le_of_ble_eq_true rfl) (fun _ h => h) (fun s => s) (fun _ _ _ _ h => h) rfl (Nat.le_of_ble_eq_true rfl) dX3_truthOfFour_129 (fun v9 s9 hv9 => ?_)
    obtain ⟨rfl, rfl⟩ := hv9
    refine g_callS 132 O (na := 4) (av := [.int p1, .int 1, .long (jn (v.testBit 0) (if c.testBit 0 = true then t2 0 else t1 0) (if c.testBit 1 = true then t2 1 else t1 1)), .long (jn (v.testBit 2) (if c.testBit 2 = true then t2 2 else t1 2) (if c.testBit 3 = true then t2 3 else t1 3))]) (c_X3_jb l E _ _ p1 1 (jn (v.testBit 0) (if c.testBit 0 = true then t2 0 else t1 0) (if c.testBit 1 = true then t2 1 else t1 1)) (jn (v.testBit 2) (if c.testBit 2 = true then t2 2 else t1 2) (if c.testBit 3 = true then t2 3 else t1 3)) v 1 (by omega) (by decide) hv rfl) kl_X3_98 ks_X3_joined ki_X3 kc_X3_joined (by decide +kernel) rfl (Nat.le_of_ble_eq_true rfl) (Nat.le_of_ble_eq_true rfl) (fun _ h => h) (fun s => s) (fun _ _ _ _ h => h) rfl (Nat.le_of_ble_eq_true rfl) dX3_truthOfFour_132 (fun v9 s9 hv9 => ?_)
    obtain ⟨rfl, rfl⟩ := hv9
    exact g_lret 135 O dX3_truthOfFour_135 (by rw [hP0]; exact ⟨rfl, rfl⟩)
  ·
    refine g_si 3 (hb) ?_
    refine g_tabIn 33 O 136 dX3_truthOfFour_33 (by decide) (by decide) rfl (by decide) ?_
    refine g_iload_n 136 O dX3_truthOfFour_136 rfl 6 rfl ?_
    refine g_iconst 137 O (v := 0) dX3_truthOfFour_137 (by decide) ?_
    refine g_lload 138 O dX3_truthOfFour_138 3 rfl ?_
    refine g_iload_n 140 O dX3_truthOfFour_140 rfl 6 rfl ?_
    refine g_iconst 141 O (v := 2) dX3_truthOfFour_141 (by decide) ?_
    refine g_iload_n 142 O dX3_truthOfFour_142 rfl 6 rfl ?_
    refine g_iconst 143 O (v := 1) dX3_truthOfFour_143 (by decide) ?_
    refine g_lload 144 O dX3_truthOfFour_144 2 rfl ?_
    refine g_lload 146 O dX3_truthOfFour_146 1 rfl ?_
    refine g_callS 148 O (na := 4) (av := [.int p1, .int 1, .long (if c.testBit 1 = true then t2 1 else t1 1), .long (if c.testBit 2 = true then t2 2 else t1 2)]) (c_X3_jb l E _ _ p1 1 (if c.testBit 1 = true then t2 1 else t1 1) (if c.testBit 2 = true then t2 2 else t1 2) v 1 (by omega) (by decide) hv rfl) kl_X3_98 ks_X3_joined ki_X3 kc_X3_joined (by decide +kernel) rfl (Nat.le_of_ble_eq_true rfl) (Nat.le_of_ble_eq_true rfl) (fun _ h => h) (fun s => s) (fun _ _ _ _ h => h) rfl (Nat.le_of_ble_eq_true rfl) dX3_truthOfFour_148 (fun v9 s9 hv9 => ?_)
    obtain ⟨rfl, rfl⟩ := hv9
    refine g_lload 151 O dX3_truthOfFour_151 0 rfl ?_
    refine g_callS 153 O (na := 4) (av := [.int p1, .int 2, .long (jn (v.testBit 1) (if c.testBit 1 = true then t2 1 else t1 1) (if c.testBit 2 = true then t2 2 else t1 2)), .long (if c.testBit 3 = true then t2 3 else t1 3)]) (c_X3_jb l E _ _ p1 2 (jn (v.testBit 1) (if c.testBit 1 = true then t2 1 else t1 1) (if c.testBit 2 = true then t2 2 else t1 2)) (if c.testBit 3 = true then t2 3 else t1 3) v 2 (by omega) (by decide) hv rfl) kl_X3_98 ks_X3_joined ki_X3 kc_X3_joined (by decide +kernel) rfl (Nat.le_of_ble_eq_true rfl) (Nat.le_of_ble_eq_true rfl) (fun _ h => h) (fun s => s) (fun _ _ _ _ h => h) rfl (Nat.le_of_ble_eq_true rfl) dX3_truthOfFour_153 (fun v9 s9 hv9 => ?_)
    obtain ⟨rfl, rfl⟩ := hv9
    refine g_callS 156 O (na := 4) (av := [.int p1, .int 0, .long (if c.testBit 0 = true then t2 0 else t1 0), .long (jn (v.testBit 2) (jn (v.testBit 1) (if c.testBit 1 = true then t2 1 else t1 1) (if c.testBit 2 = true then t2 2 else t1 2)) (if c.testBit 3 = true then t2 3 else t1 3))]) (c_X3_jb l E _ _ p1 0 (if c.testBit 0 = true then t2 0 else t1 0) (jn (v.testBit 2) (jn (v.testBit 1) (if c.testBit 1 = true then t2 1 else t1 1) (if c.testBit 2 = true then t2 2 else t1 2)) (if c.testBit 3 = true then t2 3 else t1 3)) v 0 (by omega) (by decide) hv rfl) kl_X3_98 ks_X3_joined ki_X3 kc_X3_joined (by decide +kernel) rfl (Nat.le_of_ble_eq_true rfl) (Nat.le_of_ble_eq_true rfl) (fun _ h => h) (fun s => s) (fun _ _ _ _ h => h) rfl (Nat.le_of_ble_eq_true rfl) dX3_truthOfFour_156 (fun v9 s9 hv9 => ?_)
    obtain ⟨rfl, rfl⟩ := hv9
    exact g_lret 159 O dX3_truthOfFour_159 (by rw [hP0]; exact ⟨rfl, rfl⟩)
  ·
    refine g_tabOut 33 O 160 dX3_truthOfFour_33 (Or.inr (by rw [hb]; decide)) (by decide) ?_
    refine g_iload_n 160 O dX3_truthOfFour_160 rfl 6 rfl ?_
    refine g_iconst 161 O (v := 0) dX3_truthOfFour_161 (by decide) ?_
    refine g_lload 162 O dX3_truthOfFour_162 3 rfl ?_
    refine g_iload_n 164 O dX3_truthOfFour_164 rfl 6 rfl ?_
    refine g_iconst 165 O (v := 1) dX3_truthOfFour_165 (by decide) ?_
    refine g_lload 166 O dX3_truthOfFour_166 2 rfl ?_
    refine g_iload_n 168 O dX3_truthOfFour_168 rfl 6 rfl ?_
    refine g_iconst 169 O (v := 2) dX3_truthOfFour_169 (by decide) ?_
    refine g_lload 170 O dX3_truthOfFour_170 1 rfl ?_
    refine g_lload 172 O dX3_truthOfFour_172 0 rfl ?_
    refine g_callS 174 O (na := 4) (av := [.int p1, .int 2, .long (if c.testBit 2 = true then t2 2 else t1 2), .long (if c.testBit 3 = true then t2 3 else t1 3)]) (c_X3_jb l E _ _ p1 2 (if c.testBit 2 = true then t2 2 else t1 2) (if c.testBit 3 = true then t2 3 else t1 3) v 2 (by omega) (by decide) hv rfl) kl_X3_98 ks_X3_joined ki_X3 kc_X3_joined (by decide +kernel) rfl (Nat.le_of_ble_eq_true rfl) (Nat.le_of_ble_eq_true rfl) (fun _ h => h) (fun s => s) (fun _ _ _ _ h => h) rfl (Nat.le_of_ble_eq_true rfl) dX3_truthOfFour_174 (fun v9 s9 hv9 => ?_)
    obtain ⟨rfl, rfl⟩ := hv9
    refine g_callS 177 O (na := 4) (av := [.int p1, .int 1, .long (if c.testBit 1 = true then t2 1 else t1 1), .long (jn (v.testBit 2) (if c.testBit 2 = true then t2 2 else t1 2) (if c.testBit 3 = true then t2 3 else t1 3))]) (c_X3_jb l E _ _ p1 1 (if c.testBit 1 = true then t2 1 else t1 1) (jn (v.testBit 2) (if c.testBit 2 = true then t2 2 else t1 2) (if c.testBit 3 = true then t2 3 else t1 3)) v 1 (by omega) (by decide) hv rfl) kl_X3_98 ks_X3_joined ki_X3 kc_X3_joined (by decide +kernel) rfl (Nat.le_of_ble_eq_true rfl) (Nat.le_of_ble_eq_true rfl) (fun _ h => h) (fun s => s) (fun _ _ _ _ h => h) rfl (Nat.le_of_ble_eq_true rfl) dX3_truthOfFour_177 (fun v9 s9 hv9 => ?_)
    obtain ⟨rfl, rfl⟩ := hv9
    refine g_callS 180 O (na := 4) (av := [.int p1, .int 0, .long (if c.testBit 0 = true then t2 0 else t1 0), .long (jn (v.testBit 1) (if c.testBit 1 = true then t2 1 else t1 1) (jn (v.testBit 2) (if c.testBit 2 = true then t2 2 else t1 2) (if c.testBit 3 = true then t2 3 else t1 3)))]) (c_X3_jb l E _ _ p1 0 (if c.testBit 0 = true then t2 0 else t1 0) (jn (v.testBit 1) (if c.testBit 1 = true then t2 1 else t1 1) (jn (v.testBit 2) (if c.testBit 2 = true then t2 2 else t1 2) (if c.testBit 3 = true then t2 3 else t1 3))) v 0 (by omega) (by decide) hv rfl) kl_X3_98 ks_X3_joined ki_X3 kc_X3_joined (by decide +kernel) rfl (Nat.le_of_ble_eq_true rfl) (Nat.le_of_ble_eq_true rfl) (fun _ h => h) (fun s => s) (fun _ _ _ _ h => h) rfl (Nat.le_of_ble_eq_true rfl) dX3_truthOfFour_180 (fun v9 s9 hv9 => ?_)
    obtain ⟨rfl, rfl⟩ := hv9
    exact g_lret 183 O dX3_truthOfFour_183 (by rw [hP0]; exact ⟨rfl, rfl⟩)

set_option maxRecDepth 100000 in
set_option maxHeartbeats 4000000 in
theorem c_X3_truthOf (l : Launch) (E : Ev) (a : Nat → Nat) (R : va_W) (wd rd wi na : Int32) (so : Int64) (lt ng pl : Nat → Int32) (t1 t2 tr : Nat → Int64) (p0 p1 p2 : Int32) (n : Nat) (hwd : wd = nI n) (h0 : 0 < n) (hn4 : n ≤ 4) (b v c : Nat) (hb : p0 = nI b) (hb5 : b < 5) (hv : p1 = nI v) (hv8 : v < 8) (hq : p2 = nI c) (hc : c < 16) : Ctr l yX3_truthOf cX3_truthOf 4 (some .long) 2 56 E (fun s => wS E a s ++ R) [.ref (a 0), .int p0, .int p1, .int p2] (((wd, rd, wi, na, so), lt, ng, pl, t1, t2, tr)) (fun v8 s8 => v8 = some (.long (brk n b (fun k => v.testBit k) (fun k => if c.testBit k = true then t2 k else t1 k))) ∧ s8 = ((wd, rd, wi, na, so), lt, ng, pl, t1, t2, tr)) := by
  refine Ctr.of' (by decide +kernel) (Nat.le_of_ble_eq_true rfl) (fun X P0 hP0 O => ?_)
  refine g_sub [0, 1, 2, 3] (lv' := [(0, .ref (a 0)), (1, .int p0), (2, .int p1), (3, .int p2)]) rfl ?_
  refine g_aload_n 0 O dX3_truthOf_0 rfl 0 rfl ?_
  refine g_get 1 O (v := .int wd) inX3 0 rfl rfl 6 (by decide) kf_X3_32 rfl dX3_truthOf_1 ?_
  have h5 : n = 1 ∨ n = 2 ∨ n = 3 ∨ n = 4 := by omega
  rcases h5 with rfl | rfl | rfl | rfl
  ·
    refine g_si 1 (hwd) ?_
    refine g_tabIn 4 O 32 dX3_truthOf_4 (by decide) (by decide) rfl (by decide) ?_
    refine g_aload_n 32 O dX3_truthOf_32 rfl 0 rfl ?_
    refine g_iconst 33 O (v := 0) dX3_truthOf_33 (by decide) ?_
    refine g_iload_n 34 O dX3_truthOf_34 rfl 3 rfl ?_
    refine g_callV 35 O (na := 2) (av := [.int 0, .int p2]) (c_X3_wordTruth l E a R wd rd wi na so lt ng pl t1 t2 tr 0 p2 0 c rfl (by decide) hq (by omega)) kl_X3_94 km_X3_wordTruth kv_X3_wordTruth ki_X3 kc_X3_wordTruth (by decide +kernel) rfl (Nat.le_of_ble_eq_true rfl) (Nat.le_of_ble_eq_true rfl) (fun _ h => h) 0 rfl rfl (fun s => s) (fun _ _ _ _ h => h) rfl (Nat.le_of_ble_eq_true rfl) dX3_truthOf_35 (fun v9 s9 hv9 => ?_)
    obtain ⟨rfl, rfl⟩ := hv9
    exact g_lret 38 O dX3_truthOf_38 (by rw [hP0]; exact ⟨rfl, rfl⟩)
  ·
    refine g_si 2 (hwd) ?_
    refine g_tabIn 4 O 39 dX3_truthOf_4 (by decide) (by decide) rfl (by decide) ?_
    refine g_iload_n 39 O dX3_truthOf_39 rfl 2 rfl ?_
    refine g_iconst 40 O (v := 0) dX3_truthOf_40 (by decide) ?_
    refine g_aload_n 41 O dX3_truthOf_41 rfl 0 rfl ?_
    refine g_iconst 42 O (v := 0) dX3_truthOf_42 (by decide) ?_
    refine g_iload_n 43 O dX3_truthOf_43 rfl 3 rfl ?_
    refine g_callV 44 O (na := 2) (av := [.int 0, .int p2]) (c_X3_wordTruth l E a R wd rd wi na so lt ng pl t1 t2 tr 0 p2 0 c rfl (by decide) hq (by omega)) kl_X3_94 km_X3_wordTruth kv_X3_wordTruth ki_X3 kc_X3_wordTruth (by decide +kernel) rfl (Nat.le_of_ble_eq_true rfl) (Nat.le_of_ble_eq_true rfl) (fun _ h => h) 0 rfl rfl (fun s => s) (fun _ _ _ _ h => h) rfl (Nat.le_of_ble_eq_true rfl) dX3_truthOf_44 (fun v9 s9 hv9 => ?_)
    obtain ⟨rfl, rfl⟩ := hv9
    refine g_aload_n 47 O dX3_truthOf_47 rfl 0 rfl ?_
    refine g_iconst 48 O (v := 1) dX3_truthOf_48 (by decide) ?_
    refine g_iload_n 49 O dX3_truthOf_49 rfl 3 rfl ?_
    refine g_callV 50 O (na := 2) (av := [.int 1, .int p2]) (c_X3_wordTruth l E a R wd rd wi na so lt ng pl t1 t2 tr 1 p2 1 c rfl (by decide) hq (by omega)) kl_X3_94 km_X3_wordTruth kv_X3_wordTruth ki_X3 kc_X3_wordTruth (by decide +kernel) rfl (Nat.le_of_ble_eq_true rfl) (Nat.le_of_ble_eq_true rfl) (fun _ h => h) 0 rfl rfl (fun s => s) (fun _ _ _ _ h => h) rfl (Nat.le_of_ble_eq_true rfl) dX3_truthOf_50 (fun v9 s9 hv9 => ?_)
    obtain ⟨rfl, rfl⟩ := hv9
    refine g_callS 53 O (na := 4) (av := [.int p1, .int 0, .long (if c.testBit 0 = true then t2 0 else t1 0), .long (if c.testBit 1 = true then t2 1 else t1 1)]) (c_X3_jb l E _ _ p1 0 (if c.testBit 0 = true then t2 0 else t1 0) (if c.testBit 1 = true then t2 1 else t1 1) v 0 (by omega) (by decide) hv rfl) kl_X3_98 ks_X3_joined ki_X3 kc_X3_joined (by decide +kernel) rfl (Nat.le_of_ble_eq_true rfl) (Nat.le_of_ble_eq_true rfl) (fun _ h => h) (fun s => s) (fun _ _ _ _ h => h) rfl (Nat.le_of_ble_eq_true rfl) dX3_truthOf_53 (fun v9 s9 hv9 => ?_)
    obtain ⟨rfl, rfl⟩ := hv9
    exact g_lret 56 O dX3_truthOf_56 (by rw [hP0]; exact ⟨rfl, rfl⟩)
  ·
    refine g_si 3 (hwd) ?_
    refine g_tabIn 4 O 57 dX3_truthOf_4 (by decide) (by decide) rfl (by decide) ?_
    refine g_aload_n 57 O dX3_truthOf_57 rfl 0 rfl ?_
    refine g_iload_n 58 O dX3_truthOf_58 rfl 1 rfl ?_
    refine g_iload_n 59 O dX3_truthOf_59 rfl 2 rfl ?_
    refine g_iload_n 60 O dX3_truthOf_60 rfl 3 rfl ?_
    refine g_callV 61 O (na := 3) (av := [.int p0, .int p1, .int p2]) (c_X3_truthOfThree l E a R wd rd wi na so lt ng pl t1 t2 tr p0 p1 p2 b v c hb hb5 hv hv8 hq hc) kl_X3_102 km_X3_truthOfThree kv_X3_truthOfThree ki_X3 kc_X3_truthOfThree (by decide +kernel) rfl (Nat.le_of_ble_eq_true rfl) (Nat.le_of_ble_eq_true rfl) (fun _ h => h) 0 rfl rfl (fun s => s) (fun _ _ _ _ h => h) rfl (Nat.le_of_ble_eq_true rfl) dX3_truthOf_61 (fun v9 s9 hv9 => ?_)
    obtain ⟨rfl, rfl⟩ := hv9
    exact g_lret 64 O dX3_truthOf_64 (by rw [hP0]; exact ⟨rfl, rfl⟩)
  ·
    refine g_tabOut 4 O 65 dX3_truthOf_4 (Or.inr (by rw [hwd]; decide)) (by decide) ?_
    refine g_aload_n 65 O dX3_truthOf_65 rfl 0 rfl ?_
    refine g_iload_n 66 O dX3_truthOf_66 rfl 1 rfl ?_
    refine g_iload_n 67 O dX3_truthOf_67 rfl 2 rfl ?_
    refine g_iload_n 68 O dX3_truthOf_68 rfl 3 rfl ?_
    refine g_callV 69 O (na := 3) (av := [.int p0, .int p1, .int p2]) (c_X3_truthOfFour l E a R wd rd wi na so lt ng pl t1 t2 tr p0 p1 p2 b v c hb hb5 hv hv8 hq hc) kl_X3_105 km_X3_truthOfFour kv_X3_truthOfFour ki_X3 kc_X3_truthOfFour (by decide +kernel) rfl (Nat.le_of_ble_eq_true rfl) (Nat.le_of_ble_eq_true rfl) (fun _ h => h) 0 rfl rfl (fun s => s) (fun _ _ _ _ h => h) rfl (Nat.le_of_ble_eq_true rfl) dX3_truthOf_69 (fun v9 s9 hv9 => ?_)
    obtain ⟨rfl, rfl⟩ := hv9
    exact g_lret 72 O dX3_truthOf_72 (by rw [hP0]; exact ⟨rfl, rfl⟩)
end
section
/-! 18: bits of longs (family wb_ pasted from kit/laws/BITS.to-paste), digits, the count of bits -/
/-! ===== lN n to 2^64: shifts, and, or, masks, one bit ===== -/
theorem wb_tb (n : Nat) : (lN n).toBitVec = BitVec.ofNat 64 n := rfl
theorem wb_inj {a b : Int64} (h : a.toBitVec = b.toBitVec) : a = b := Int64.toBitVec_inj.mp h
theorem wb_tn {n : Nat} (h : n < 2 ^ 64) : (lN n).toBitVec.toNat = n := by rw [wb_tb, BitVec.toNat_ofNat, Nat.mod_eq_of_lt h]
theorem wb_of (x : Int64) : ∃ n, n < 2 ^ 64 ∧ x = lN n := ⟨x.toBitVec.toNat, x.toBitVec.isLt, wb_inj (by rw [wb_tb]; simp)⟩
theorem wb_of32 (x : Int32) : ∃ n, n < 2 ^ 32 ∧ x = nI n := ⟨x.toBitVec.toNat, x.toBitVec.isLt, Int32.toBitVec_inj.mp (by show _ = BitVec.ofNat 32 _; simp)⟩
theorem wb_c : ∀ k, k < 64 → ((nI k).toInt64 &&& 63) = lN k := by decide +kernel
theorem wb_cu : ∀ k, k < 64 → ((nI k).toInt64.toUInt64 &&& Int64.toUInt64 63) = UInt64.ofNat k := by decide +kernel
theorem wb_sm : ∀ k, k < 64 → (BitVec.ofNat 64 k).smod 64 = BitVec.ofNat 64 k := by decide +kernel
theorem wb_pw {a b : Nat} (h : a ≤ b) : 2 ^ b = 2 ^ a * 2 ^ (b - a) := by rw [← Nat.pow_add]; congr 1; omega
theorem wb_lt2 {a b : Nat} (h : a < b) : 2 ^ a < 2 ^ b := Nat.pow_lt_pow_right (by decide) h
theorem wb_mod (n : Nat) : lN n = lN (n % 2 ^ 64) := wb_inj (by rw [wb_tb, wb_tb]; apply BitVec.eq_of_toNat_eq; rw [BitVec.toNat_ofNat, BitVec.toNat_ofNat, Nat.mod_mod])
theorem wb_shr {n k : Nat} (hn : n < 2 ^ 64) (hk : k < 64) : ((lN n).toUInt64 >>> ((nI k).toInt64.toUInt64 &&& Int64.toUInt64 63)).toInt64 = lN (n / 2 ^ k) := by
  rw [wb_cu k hk]
  apply wb_inj
  apply BitVec.eq_of_toNat_eq
  show ((lN n).toUInt64 >>> UInt64.ofNat k).toNat = (BitVec.ofNat 64 _).toNat
  have h1 : (UInt64.ofNat k).toNat = k := by
    show (BitVec.ofNat 64 k).toNat = k
    rw [BitVec.toNat_ofNat, Nat.mod_eq_of_lt (by omega)]
  have h2 : (lN n).toUInt64.toNat = n := wb_tn hn
  rw [UInt64.toNat_shiftRight, h1, h2, Nat.mod_eq_of_lt hk, Nat.shiftRight_eq_div_pow, BitVec.toNat_ofNat, Nat.mod_eq_of_lt (Nat.lt_of_le_of_lt (Nat.div_le_self _ _) hn)]
theorem wb_shl (n : Nat) {k : Nat} (hk : k < 64) : lN n <<< ((nI k).toInt64 &&& 63) = lN (n * 2 ^ k) := by
  rw [wb_c k hk]
  apply wb_inj
  rw [Int64.toBitVec_shiftLeft, wb_tb, wb_tb, wb_tb, wb_sm k hk]
  apply BitVec.eq_of_toNat_eq
  rw [BitVec.shiftLeft_eq', BitVec.toNat_shiftLeft, BitVec.toNat_ofNat, BitVec.toNat_ofNat, BitVec.toNat_ofNat, Nat.mod_eq_of_lt (show k < 2 ^ 64 by omega), Nat.shiftLeft_eq, Nat.mul_mod, Nat.mod_mod, ← Nat.mul_mod]
theorem wb_and {a b : Nat} (ha : a < 2 ^ 64) (hb : b < 2 ^ 64) : lN a &&& lN b = lN (a &&& b) := by
  apply wb_inj
  rw [Int64.toBitVec_and, wb_tb, wb_tb, wb_tb]
  apply BitVec.eq_of_toNat_eq
  rw [BitVec.toNat_and, BitVec.toNat_ofNat, BitVec.toNat_ofNat, BitVec.toNat_ofNat, Nat.mod_eq_of_lt ha, Nat.mod_eq_of_lt hb, Nat.mod_eq_of_lt (Nat.and_lt_two_pow _ hb)]
theorem wb_or {a b : Nat} (ha : a < 2 ^ 64) (hb : b < 2 ^ 64) : lN a ||| lN b = lN (a ||| b) := by
  apply wb_inj
  rw [Int64.toBitVec_or, wb_tb, wb_tb, wb_tb]
  apply BitVec.eq_of_toNat_eq
  rw [BitVec.toNat_or, BitVec.toNat_ofNat, BitVec.toNat_ofNat, BitVec.toNat_ofNat, Nat.mod_eq_of_lt ha, Nat.mod_eq_of_lt hb, Nat.mod_eq_of_lt (Nat.or_lt_two_pow ha hb)]
theorem wb_mask {n k : Nat} (hn : n < 2 ^ 64) (hk : k < 64) : lN n &&& lN (2 ^ k - 1) = lN (n % 2 ^ k) := by
  rw [wb_and hn (by have := wb_lt2 hk; omega), Nat.and_two_pow_sub_one_eq_mod]
theorem wb_a1 {n : Nat} (hn : n < 2 ^ 64) : lN n &&& 1 = lN (n % 2) := wb_mask (k := 1) hn (by decide)
theorem wb_bit {n k : Nat} (hn : n < 2 ^ 64) (hk : k < 64) : ((lN n).toUInt64 >>> ((nI k).toInt64.toUInt64 &&& Int64.toUInt64 63)).toInt64 &&& 1 = lN (n / 2 ^ k % 2) := by
  rw [wb_shr hn hk, wb_a1 (Nat.lt_of_le_of_lt (Nat.div_le_self _ _) hn)]
/-- digits, the least first -/
def dg (B : Nat) (f : Nat → Nat) : Nat → Nat
  | 0 => 0
  | n + 1 => f 0 + B * dg B (fun j => f (j + 1)) n
theorem dg_cong {B : Nat} : ∀ {n : Nat} {f g : Nat → Nat}, (∀ j, j < n → f j = g j) → dg B f n = dg B g n
  | 0, _, _, _ => rfl
  | n + 1, f, g, h => by rw [dg, dg, h 0 (by omega), dg_cong (fun j hj => h (j + 1) (by omega))]
theorem dg_add {B : Nat} : ∀ {n : Nat} {f g : Nat → Nat}, dg B f n + dg B g n = dg B (fun j => f j + g j) n
  | 0, _, _ => rfl
  | n + 1, f, g => by
    rw [dg, dg, dg, ← dg_add (n := n), Nat.mul_add]; omega
theorem dg_le {B : Nat} : ∀ {n : Nat} {f g : Nat → Nat}, (∀ j, j < n → g j ≤ f j) → dg B g n ≤ dg B f n
  | 0, _, _, _ => Nat.le_refl _
  | n + 1, f, g, h => by
    rw [dg, dg]
    exact Nat.add_le_add (h 0 (by omega)) (Nat.mul_le_mul_left _ (dg_le (fun j hj => h (j + 1) (by omega))))
theorem dg_sub {B n : Nat} {f g : Nat → Nat} (h : ∀ j, j < n → g j ≤ f j) : dg B f n - dg B g n = dg B (fun j => f j - g j) n := by
  have e : dg B (fun j => f j - g j) n + dg B g n = dg B f n := by
    rw [dg_add]; exact dg_cong (fun j hj => Nat.sub_add_cancel (h j hj))
  omega
theorem dg_push {B : Nat} : ∀ {n : Nat} {f : Nat → Nat}, f n = 0 → dg B f (n + 1) = dg B f n
  | 0, f, h => by rw [dg, dg, h]; simp [dg]
  | n + 1, f, h => by rw [dg, dg_push (n := n) (f := fun j => f (j + 1)) h]; rfl
theorem dg_div {B n : Nat} {f : Nat → Nat} (h0 : f 0 < B) (hn : f n = 0) : dg B f n / B = dg B (fun j => f (j + 1)) n := by
  cases n with
  | zero => rw [dg, dg]; exact Nat.zero_div _
  | succ n =>
    rw [dg_push (n := n) (f := fun j => f (j + 1)) hn, dg, Nat.add_mul_div_left _ _ (by omega), Nat.div_eq_of_lt h0, Nat.zero_add]
theorem and_dg {b x y X Y : Nat} (hx : x < 2 ^ b) (hy : y < 2 ^ b) : (x + 2 ^ b * X) &&& (y + 2 ^ b * Y) = (x &&& y) + 2 ^ b * (X &&& Y) := by
  apply Nat.eq_of_testBit_eq
  intro i
  have hxy : x &&& y < 2 ^ b := Nat.and_lt_two_pow _ hy
  rw [Nat.testBit_and, Nat.add_comm x, Nat.add_comm y, Nat.add_comm (x &&& y), Nat.testBit_two_pow_mul_add _ hx, Nat.testBit_two_pow_mul_add _ hy, Nat.testBit_two_pow_mul_add _ hxy]
  split
  · rw [Nat.testBit_and]
  · rw [Nat.testBit_and]
theorem dg_and {b : Nat} : ∀ {n : Nat} {f g : Nat → Nat}, (∀ j, j < n → f j < 2 ^ b) → (∀ j, j < n → g j < 2 ^ b) → dg (2 ^ b) f n &&& dg (2 ^ b) g n = dg (2 ^ b) (fun j => f j &&& g j) n
  | 0, _, _, _, _ => by simp [dg]
  | n + 1, f, g, hf, hg => by
    rw [dg, dg, dg, and_dg (hf 0 (by omega)) (hg 0 (by omega)), dg_and (fun j hj => hf (j + 1) (by omega)) (fun j hj => hg (j + 1) (by omega))]
theorem dg_pair {B : Nat} : ∀ {n : Nat} {f : Nat → Nat}, dg B f (2 * n) = dg (B * B) (fun j => f (2 * j) + B * f (2 * j + 1)) n
  | 0, _ => rfl
  | n + 1, f => by
    rw [show 2 * (n + 1) = 2 * n + 1 + 1 by omega, dg, dg, dg, dg_pair (n := n)]
    rw [Nat.mul_add, ← Nat.mul_assoc, ← Nat.add_assoc]
    rfl
theorem dg_bits : ∀ (n m : Nat), m < 2 ^ n → m = dg 2 (fun i => (m.testBit i).toNat) n
  | 0, m, h => by rw [dg]; omega
  | n + 1, m, h => by
    have ih := dg_bits n (m / 2) (by rw [Nat.pow_succ] at h; omega)
    rw [dg]
    have e : (fun j => (m.testBit (j + 1)).toNat) = (fun i => ((m / 2).testBit i).toNat) := by
      funext j; rw [Nat.testBit_succ]
    rw [e, ← ih, Nat.testBit_zero]
    have : (decide (m % 2 = 1)).toNat = m % 2 := by
      rcases Nat.mod_two_eq_zero_or_one m with q | q <;> rw [q] <;> rfl
    rw [this]; omega
theorem cn_sum (t : Nat → Bool) : cn t 64 = ((((t 0).toNat + (t 1).toNat + ((t 2).toNat + (t 3).toNat)) + ((t 4).toNat + (t 5).toNat + ((t 6).toNat + (t 7).toNat))) + (((t 8).toNat + (t 9).toNat + ((t 10).toNat + (t 11).toNat)) + ((t 12).toNat + (t 13).toNat + ((t 14).toNat + (t 15).toNat))) + ((((t 16).toNat + (t 17).toNat + ((t 18).toNat + (t 19).toNat)) + ((t 20).toNat + (t 21).toNat + ((t 22).toNat + (t 23).toNat))) + (((t 24).toNat + (t 25).toNat + ((t 26).toNat + (t 27).toNat)) + ((t 28).toNat + (t 29).toNat + ((t 30).toNat + (t 31).toNat))))) +
    ((((t 32).toNat + (t 33).toNat + ((t 34).toNat + (t 35).toNat)) + ((t 36).toNat + (t 37).toNat + ((t 38).toNat + (t 39).toNat))) + (((t 40).toNat + (t 41).toNat + ((t 42).toNat + (t 43).toNat)) + ((t 44).toNat + (t 45).toNat + ((t 46).toNat + (t 47).toNat))) + ((((t 48).toNat + (t 49).toNat + ((t 50).toNat + (t 51).toNat)) + ((t 52).toNat + (t 53).toNat + ((t 54).toNat + (t 55).toNat))) + (((t 56).toNat + (t 57).toNat + ((t 58).toNat + (t 59).toNat)) + ((t 60).toNat + (t 61).toNat + ((t 62).toNat + (t 63).toNat))))) := by
  have e : ∀ b : Bool, (if b = true then 1 else 0) = b.toNat := fun b => by cases b <;> rfl
  simp only [cn, e]
  omega
theorem and_lo1 : ∀ a, a < 2 → ∀ b, b < 2 → (a + 2 * b) &&& 1 = a := by decide
theorem and_lo3 : ∀ a, a < 4 → ∀ b, b < 4 → (a + 4 * b) &&& 3 = a := by decide
theorem and_lo15 : ∀ a, a < 16 → ∀ b, b < 16 → (a + 16 * b) &&& 15 = a := by decide +kernel
/-- the counting of Long.bitCount, over numbers -/
theorem bc_nat (m : Nat) (hm : m < 2 ^ 64) : ∀ x1 x2 x3 x4 x5 x6 : Nat, x1 = m - (m / 2 &&& 6148914691236517205) → x2 = (x1 &&& 3689348814741910323) + (x1 / 4 &&& 3689348814741910323) → x3 = (x2 + x2 / 16) &&& 1085102592571150095 → x4 = x3 + x3 / 256 → x5 = x4 + x4 / 65536 → x6 = x5 + x5 / 4294967296 →
    (m / 2 &&& 6148914691236517205) ≤ m ∧ x1 < 2 ^ 64 ∧ x2 < 2 ^ 64 ∧ x2 + x2 / 16 < 2 ^ 64 ∧ x3 < 2 ^ 60 ∧ x6 % 128 = cn (fun i => m.testBit i) 64 := by
  intro x1 x2 x3 x4 x5 x6 e1 e2 e3 e4 e5 e6
  obtain ⟨t, ht⟩ : ∃ t : Nat → Nat, t = fun i => (m.testBit i).toNat := ⟨_, rfl⟩
  have t2 : ∀ i, t i < 2 := fun i => by rw [ht]; show (m.testBit i).toNat < 2; cases m.testBit i <;> decide
  have t64 : ∀ i, 64 ≤ i → t i = 0 := fun i hi => by
    rw [ht]; show (m.testBit i).toNat = 0
    rw [Nat.testBit_lt_two_pow (Nat.lt_of_lt_of_le hm (Nat.pow_le_pow_right (by decide) hi))]; rfl
  have h0 : m = dg 2 t 64 := by rw [ht]; exact dg_bits 64 m hm
  have h4 : m = dg 4 (fun j => t (2 * j) + 2 * t (2 * j + 1)) 32 := by rw [h0]; exact dg_pair (B := 2) (n := 32) (f := t)
  have g4 : m / 2 = dg 4 (fun j => t (2 * j + 1) + 2 * t (2 * j + 1 + 1)) 32 := by
    rw [h0, dg_div (t2 0) (t64 64 (by omega))]; exact dg_pair (B := 2) (n := 32) (f := fun j => t (j + 1))
  have a1 : m / 2 &&& 6148914691236517205 = dg 4 (fun j => t (2 * j + 1)) 32 := by
    rw [g4, show 6148914691236517205 = dg (2 ^ 2) (fun _ => 1) 32 by decide +kernel]
    rw [show (4 : Nat) = 2 ^ 2 from rfl, dg_and (fun j _ => by have := t2 (2 * j + 1); have := t2 (2 * j + 1 + 1); omega) (fun j _ => by decide)]
    exact dg_cong (fun j _ => and_lo1 _ (t2 _) _ (t2 _))
  obtain ⟨s, hs⟩ : ∃ s : Nat → Nat, s = fun j => t (2 * j) + t (2 * j + 1) := ⟨_, rfl⟩
  have s3 : ∀ j, s j ≤ 2 := fun j => by rw [hs]; show t (2 * j) + t (2 * j + 1) ≤ 2; have := t2 (2 * j); have := t2 (2 * j + 1); omega
  have s32 : ∀ j, 32 ≤ j → s j = 0 := fun j hj => by rw [hs]; show t (2 * j) + t (2 * j + 1) = 0; rw [t64 _ (by omega), t64 _ (by omega)]
  have f1 : x1 = dg 4 s 32 := by
    rw [e1, a1, h4, dg_sub (fun j _ => by omega), hs]
    exact dg_cong (fun j _ => by omega)
  have r1 : x1 = dg 16 (fun j => s (2 * j) + 4 * s (2 * j + 1)) 16 := by rw [f1]; exact dg_pair (B := 4) (n := 16) (f := s)
  have r2 : x1 / 4 = dg 16 (fun j => s (2 * j + 1) + 4 * s (2 * j + 1 + 1)) 16 := by
    rw [f1, dg_div (by have := s3 0; omega) (s32 32 (by omega))]; exact dg_pair (B := 4) (n := 16) (f := fun j => s (j + 1))
  have m3 : 3689348814741910323 = dg (2 ^ 4) (fun _ => 3) 16 := by decide +kernel
  obtain ⟨q, hq⟩ : ∃ q : Nat → Nat, q = fun j => s (2 * j) + s (2 * j + 1) := ⟨_, rfl⟩
  have q4 : ∀ j, q j ≤ 4 := fun j => by rw [hq]; show s (2 * j) + s (2 * j + 1) ≤ 4; have := s3 (2 * j); have := s3 (2 * j + 1); omega
  have q16 : ∀ j, 16 ≤ j → q j = 0 := fun j hj => by rw [hq]; show s (2 * j) + s (2 * j + 1) = 0; rw [s32 _ (by omega), s32 _ (by omega)]
  have f2 : x2 = dg 16 q 16 := by
    rw [e2, r2, r1, m3, show (16 : Nat) = 2 ^ 4 from rfl, dg_and (fun j _ => by have := s3 (2 * j); have := s3 (2 * j + 1); omega) (fun j _ => by decide), dg_and (fun j _ => by have := s3 (2 * j + 1); have := s3 (2 * j + 1 + 1); omega) (fun j _ => by decide), dg_add, hq]
    exact dg_cong (fun j _ => by
      rw [and_lo3 _ (by have := s3 (2 * j); omega) _ (by have := s3 (2 * j + 1); omega), and_lo3 _ (by have := s3 (2 * j + 1); omega) _ (by have := s3 (2 * j + 1 + 1); omega)])
  have r3 : x2 + x2 / 16 = dg 256 (fun j => (q (2 * j) + q (2 * j + 1)) + 16 * (q (2 * j + 1) + q (2 * j + 1 + 1))) 8 := by
    rw [f2, dg_div (by have := q4 0; omega) (q16 16 (by omega)), dg_add]; exact dg_pair (B := 16) (n := 8) (f := fun j => q j + q (j + 1))
  obtain ⟨c, hc⟩ : ∃ c : Nat → Nat, c = fun j => q (2 * j) + q (2 * j + 1) := ⟨_, rfl⟩
  have c8 : ∀ j, c j ≤ 8 := fun j => by rw [hc]; show q (2 * j) + q (2 * j + 1) ≤ 8; have := q4 (2 * j); have := q4 (2 * j + 1); omega
  have f3 : x3 = dg 256 c 8 := by
    rw [e3, r3, show 1085102592571150095 = dg (2 ^ 8) (fun _ => 15) 8 by decide +kernel, show (256 : Nat) = 2 ^ 8 from rfl, dg_and (fun j _ => by have := q4 (2 * j); have := q4 (2 * j + 1); have := q4 (2 * j + 1 + 1); omega) (fun j _ => by decide), hc]
    exact dg_cong (fun j _ => and_lo15 _ (by have := q4 (2 * j); have := q4 (2 * j + 1); omega) _ (by have := q4 (2 * j + 1); have := q4 (2 * j + 1 + 1); omega))
  have cz : ∀ j, 8 ≤ j → c j = 0 := fun j hj => by rw [hc]; show q (2 * j) + q (2 * j + 1) = 0; rw [q16 _ (by omega), q16 _ (by omega)]
  obtain ⟨d, hd⟩ : ∃ d : Nat → Nat, d = fun j => c j + c (j + 1) := ⟨_, rfl⟩
  have dz : ∀ j, 8 ≤ j → d j = 0 := fun j hj => by rw [hd]; show c j + c (j + 1) = 0; rw [cz _ hj, cz _ (by omega)]
  have d16 : ∀ j, d j ≤ 16 := fun j => by rw [hd]; show c j + c (j + 1) ≤ 16; have := c8 j; have := c8 (j + 1); omega
  have f4 : x4 = dg 256 d 8 := by rw [e4, f3, dg_div (by have := c8 0; omega) (cz 8 (by omega)), dg_add, hd]
  obtain ⟨e, he⟩ : ∃ e : Nat → Nat, e = fun j => d j + d (j + 2) := ⟨_, rfl⟩
  have ez : ∀ j, 8 ≤ j → e j = 0 := fun j hj => by rw [he]; show d j + d (j + 2) = 0; rw [dz _ hj, dz _ (by omega)]
  have e32 : ∀ j, e j ≤ 32 := fun j => by rw [he]; show d j + d (j + 2) ≤ 32; have := d16 j; have := d16 (j + 2); omega
  have f5 : x5 = dg 256 e 8 := by
    rw [e5, f4, show 65536 = 256 * 256 from rfl, ← Nat.div_div_eq_div_mul, dg_div (by have := d16 0; omega) (dz 8 (by omega)), dg_div (f := fun j => d (j + 1)) (by show d 1 < 256; have := d16 1; omega) (dz 9 (by omega)), dg_add, he]
  have f6 : x6 = dg 256 (fun j => e j + e (j + 4)) 8 := by
    rw [e6, f5, show 4294967296 = 256 * 256 * 256 * 256 from rfl, ← Nat.div_div_eq_div_mul, ← Nat.div_div_eq_div_mul, ← Nat.div_div_eq_div_mul, dg_div (by have := e32 0; omega) (ez 8 (by omega)), dg_div (f := fun j => e (j + 1)) (by show e 1 < 256; have := e32 1; omega) (ez 9 (by omega)), dg_div (f := fun j => e (j + 1 + 1)) (by show e 2 < 256; have := e32 2; omega) (ez 10 (by omega)), dg_div (f := fun j => e (j + 1 + 1 + 1)) (by show e 3 < 256; have := e32 3; omega) (ez 11 (by omega)), dg_add]
  have f60 : x6 = (e 0 + e 4) + 256 * dg 256 (fun j => e (j + 1) + e (j + 1 + 4)) 7 := by rw [f6]; rfl
  have e0 : e 0 + e 4 = c 0 + c 1 + (c 2 + c 3) + (c 4 + c 5 + (c 6 + c 7)) := by rw [he, hd]
  have k0 := c8 0; have k1 := c8 1; have k2 := c8 2; have k3 := c8 3; have k4 := c8 4; have k5 := c8 5; have k6 := c8 6; have k7 := c8 7
  have hsum : cn (fun i => m.testBit i) 64 = c 0 + c 1 + (c 2 + c 3) + (c 4 + c 5 + (c 6 + c 7)) := by
    rw [cn_sum, hc, hq, hs, ht]
  have b2 : x2 ≤ dg 16 (fun _ => 4) 16 := by rw [f2]; exact dg_le (fun j _ => q4 j)
  have b2' : dg 16 (fun _ => 4) 16 = 4919131752989213764 := by decide +kernel
  have b3 : x3 ≤ dg 256 (fun _ => 8) 8 := by rw [f3]; exact dg_le (fun j _ => c8 j)
  have b3' : dg 256 (fun _ => 8) 8 = 578721382704613384 := by decide +kernel
  have b1 : x1 ≤ m := by rw [e1]; exact Nat.sub_le _ _
  refine ⟨by rw [a1, h4]; exact dg_le (fun j _ => by omega), Nat.lt_of_le_of_lt b1 hm, by omega, by omega, by omega, ?_⟩
  rw [hsum, ← e0, f60]
  omega
theorem bc_ok (a x1 x2 x3 x4 x5 x6 : Int64) (e1 : x1 = a - ((a.toUInt64 >>> ((1 : Int32).toInt64.toUInt64 &&& Int64.toUInt64 63)).toInt64 &&& 6148914691236517205)) (e2 : x2 = (x1 &&& 3689348814741910323) + ((x1.toUInt64 >>> ((2 : Int32).toInt64.toUInt64 &&& Int64.toUInt64 63)).toInt64 &&& 3689348814741910323))
    (e3 : x3 = (x2 + (x2.toUInt64 >>> ((4 : Int32).toInt64.toUInt64 &&& Int64.toUInt64 63)).toInt64) &&& 1085102592571150095) (e4 : x4 = x3 + (x3.toUInt64 >>> ((8 : Int32).toInt64.toUInt64 &&& Int64.toUInt64 63)).toInt64) (e5 : x5 = x4 + (x4.toUInt64 >>> ((16 : Int32).toInt64.toUInt64 &&& Int64.toUInt64 63)).toInt64) (e6 : x6 = x5 + (x5.toUInt64 >>> ((32 : Int32).toInt64.toUInt64 &&& Int64.toUInt64 63)).toInt64) : x6.toInt32 &&& 127 = nI (pcn a) := by
  obtain ⟨m, hm, rfl⟩ := wb_of a
  obtain ⟨h1, h2, h3, h4, h5, h6⟩ := bc_nat m hm _ _ _ _ _ _ rfl rfl rfl rfl rfl rfl
  have sh : ∀ (n k : Nat), n < 2 ^ 64 → k < 64 → ((lN n).toUInt64 >>> ((nI k).toInt64.toUInt64 &&& Int64.toUInt64 63)).toInt64 = lN (n / 2 ^ k) := fun n k h h' => wb_shr h h'
  have d : ∀ n k : Nat, n < 2 ^ 64 → n / 2 ^ k < 2 ^ 64 := fun n k h => Nat.lt_of_le_of_lt (Nat.div_le_self _ _) h
  have c1 : (lN m - (((lN m).toUInt64 >>> ((1 : Int32).toInt64.toUInt64 &&& Int64.toUInt64 63)).toInt64 &&& 6148914691236517205)) = lN (m - (m / 2 &&& 6148914691236517205)) := by
    rw [show ((lN m).toUInt64 >>> ((1 : Int32).toInt64.toUInt64 &&& Int64.toUInt64 63)).toInt64 = lN (m / 2) from sh m 1 hm (by decide), show (6148914691236517205 : Int64) = lN 6148914691236517205 from rfl, wb_and (d m 1 hm) (by decide), lN_sub h1]
  rw [c1] at e1
  obtain ⟨n1, hn1⟩ : ∃ n1, n1 = m - (m / 2 &&& 6148914691236517205) := ⟨_, rfl⟩
  rw [← hn1] at e1 h2 h3 h4 h5 h6
  subst e1
  have c2 : ((lN n1 &&& 3689348814741910323) + (((lN n1).toUInt64 >>> ((2 : Int32).toInt64.toUInt64 &&& Int64.toUInt64 63)).toInt64 &&& 3689348814741910323)) = lN ((n1 &&& 3689348814741910323) + (n1 / 4 &&& 3689348814741910323)) := by
    rw [show ((lN n1).toUInt64 >>> ((2 : Int32).toInt64.toUInt64 &&& Int64.toUInt64 63)).toInt64 = lN (n1 / 4) from sh n1 2 h2 (by decide), show (3689348814741910323 : Int64) = lN 3689348814741910323 from rfl, wb_and h2 (by decide), wb_and (d n1 2 h2) (by decide), lN_add]
  rw [c2] at e2
  obtain ⟨n2, hn2⟩ : ∃ n2, n2 = (n1 &&& 3689348814741910323) + (n1 / 4 &&& 3689348814741910323) := ⟨_, rfl⟩
  rw [← hn2] at e2 h3 h4 h5 h6
  subst e2
  have c3 : ((lN n2 + ((lN n2).toUInt64 >>> ((4 : Int32).toInt64.toUInt64 &&& Int64.toUInt64 63)).toInt64) &&& 1085102592571150095) = lN ((n2 + n2 / 16) &&& 1085102592571150095) := by
    rw [show ((lN n2).toUInt64 >>> ((4 : Int32).toInt64.toUInt64 &&& Int64.toUInt64 63)).toInt64 = lN (n2 / 16) from sh n2 4 h3 (by decide), lN_add, show (1085102592571150095 : Int64) = lN 1085102592571150095 from rfl, wb_and h4 (by decide)]
  rw [c3] at e3
  obtain ⟨n3, hn3⟩ : ∃ n3, n3 = (n2 + n2 / 16) &&& 1085102592571150095 := ⟨_, rfl⟩
  rw [← hn3] at e3 h5 h6
  subst e3
  have g3 : n3 < 2 ^ 64 := by omega
  have c4 : (lN n3 + ((lN n3).toUInt64 >>> ((8 : Int32).toInt64.toUInt64 &&& Int64.toUInt64 63)).toInt64) = lN (n3 + n3 / 256) := by
    rw [show ((lN n3).toUInt64 >>> ((8 : Int32).toInt64.toUInt64 &&& Int64.toUInt64 63)).toInt64 = lN (n3 / 256) from sh n3 8 g3 (by decide), lN_add]
  rw [c4] at e4
  obtain ⟨n4, hn4⟩ : ∃ n4, n4 = n3 + n3 / 256 := ⟨_, rfl⟩
  rw [← hn4] at e4 h6
  subst e4
  have g4 : n4 < 2 ^ 61 := by omega
  have c5 : (lN n4 + ((lN n4).toUInt64 >>> ((16 : Int32).toInt64.toUInt64 &&& Int64.toUInt64 63)).toInt64) = lN (n4 + n4 / 65536) := by
    rw [show ((lN n4).toUInt64 >>> ((16 : Int32).toInt64.toUInt64 &&& Int64.toUInt64 63)).toInt64 = lN (n4 / 65536) from sh n4 16 (by omega) (by decide), lN_add]
  rw [c5] at e5
  obtain ⟨n5, hn5⟩ : ∃ n5, n5 = n4 + n4 / 65536 := ⟨_, rfl⟩
  rw [← hn5] at e5 h6
  subst e5
  have c6 : (lN n5 + ((lN n5).toUInt64 >>> ((32 : Int32).toInt64.toUInt64 &&& Int64.toUInt64 63)).toInt64) = lN (n5 + n5 / 4294967296) := by
    rw [show ((lN n5).toUInt64 >>> ((32 : Int32).toInt64.toUInt64 &&& Int64.toUInt64 63)).toInt64 = lN (n5 / 4294967296) from sh n5 32 (by omega) (by decide), lN_add]
  rw [e6, c6, lN_i]
  have e7 : (nI (n5 + n5 / 4294967296) &&& 127) = nI ((n5 + n5 / 4294967296) % 2 ^ 7) := by
    have h32 : nI (n5 + n5 / 4294967296) = nI ((n5 + n5 / 4294967296) % 2 ^ 32) := by
      apply Int32.toBitVec_inj.mp
      show BitVec.ofNat 32 _ = BitVec.ofNat 32 _
      apply BitVec.eq_of_toNat_eq
      rw [BitVec.toNat_ofNat, BitVec.toNat_ofNat, Nat.mod_mod]
    rw [h32, pk_andN (Nat.mod_lt _ (by decide)) 7 rfl, Nat.mod_mod_of_dvd _ (by decide)]
  rw [e7, h6]
  apply congrArg
  unfold pcn
  exact cn_cong (fun k hk => by
    show m.testBit k = (lN m).toBitVec.getLsbD k
    rw [wb_tb, BitVec.getLsbD_ofNat]
    simp [hk])
end
section
set_option maxRecDepth 100000 in
set_option maxHeartbeats 4000000 in
theorem c_J13_bitCount_95d88 (l : Launch) (E : Ev) {T : Type} (w : T → va_W) (σ : T) (p0 : Int64)  : Ctr l yJ13_bitCount_95d88 cJ13_bitCount_95d88 2 (some .int) 0 0 E (w) [.long p0] σ (fun v8 s8 => v8 = some (.int (nI (pcn p0))) ∧ s8 = σ) := by
  refine Ctr.of' (by decide +kernel) (Nat.le_of_ble_eq_true rfl) (fun X P0 hP0 O => ?_)
  refine g_sub [0] (lv' := [(0, .long p0)]) rfl ?_
  refine g_lload_n 0 O dJ13_bitCount_95d88_0 rfl 0 rfl ?_
  refine g_lload_n 1 O dJ13_bitCount_95d88_1 rfl 0 rfl ?_
  refine g_iconst 2 O (v := 1) dJ13_bitCount_95d88_2 (by decide) ?_
  refine g_lushr 3 O dJ13_bitCount_95d88_3 ?_
  refine g_ldc2 4 O (v := 6148914691236517205) dJ13_bitCount_95d88_4 kk_J13_314 ?_
  refine g_land 7 O dJ13_bitCount_95d88_7 ?_
  refine g_lsub 8 O dJ13_bitCount_95d88_8 ?_
  refine g_topl (fun x1 ex1 => ?_)
  refine g_lstore_n 9 O (lv' := [(0, .long x1)]) dJ13_bitCount_95d88_9 rfl (by decide) rfl ?_
  refine g_lload_n 10 O dJ13_bitCount_95d88_10 rfl 0 rfl ?_
  refine g_ldc2 11 O (v := 3689348814741910323) dJ13_bitCount_95d88_11 kk_J13_316 ?_
  refine g_land 14 O dJ13_bitCount_95d88_14 ?_
  refine g_lload_n 15 O dJ13_bitCount_95d88_15 rfl 0 rfl ?_
  refine g_iconst 16 O (v := 2) dJ13_bitCount_95d88_16 (by decide) ?_
  refine g_lushr 17 O dJ13_bitCount_95d88_17 ?_
  refine g_ldc2 18 O (v := 3689348814741910323) dJ13_bitCount_95d88_18 kk_J13_316 ?_
  refine g_land 21 O dJ13_bitCount_95d88_21 ?_
  refine g_ladd 22 O dJ13_bitCount_95d88_22 ?_
  refine g_topl (fun x2 ex2 => ?_)
  refine g_lstore_n 23 O (lv' := [(0, .long x2)]) dJ13_bitCount_95d88_23 rfl (by decide) rfl ?_
  refine g_lload_n 24 O dJ13_bitCount_95d88_24 rfl 0 rfl ?_
  refine g_lload_n 25 O dJ13_bitCount_95d88_25 rfl 0 rfl ?_
  refine g_iconst 26 O (v := 4) dJ13_bitCount_95d88_26 (by decide) ?_
  refine g_lushr 27 O dJ13_bitCount_95d88_27 ?_
  refine g_ladd 28 O dJ13_bitCount_95d88_28 ?_
  refine g_ldc2 29 O (v := 1085102592571150095) dJ13_bitCount_95d88_29 kk_J13_318 ?_
  refine g_land 32 O dJ13_bitCount_95d88_32 ?_
  refine g_topl (fun x3 ex3 => ?_)
  refine g_lstore_n 33 O (lv' := [(0, .long x3)]) dJ13_bitCount_95d88_33 rfl (by decide) rfl ?_
  refine g_lload_n 34 O dJ13_bitCount_95d88_34 rfl 0 rfl ?_
  refine g_lload_n 35 O dJ13_bitCount_95d88_35 rfl 0 rfl ?_
  refine g_bipush 36 O (v := 8) dJ13_bitCount_95d88_36 (by decide) ?_
  refine g_lushr 38 O dJ13_bitCount_95d88_38 ?_
  refine g_ladd 39 O dJ13_bitCount_95d88_39 ?_
  refine g_topl (fun x4 ex4 => ?_)
  refine g_lstore_n 40 O (lv' := [(0, .long x4)]) dJ13_bitCount_95d88_40 rfl (by decide) rfl ?_
  refine g_lload_n 41 O dJ13_bitCount_95d88_41 rfl 0 rfl ?_
  refine g_lload_n 42 O dJ13_bitCount_95d88_42 rfl 0 rfl ?_
  refine g_bipush 43 O (v := 16) dJ13_bitCount_95d88_43 (by decide) ?_
  refine g_lushr 45 O dJ13_bitCount_95d88_45 ?_
  refine g_ladd 46 O dJ13_bitCount_95d88_46 ?_
  refine g_topl (fun x5 ex5 => ?_)
  refine g_lstore_n 47 O (lv' := [(0, .long x5)]) dJ13_bitCount_95d88_47 rfl (by decide) rfl ?_
  refine g_lload_n 48 O dJ13_bitCount_95d88_48 rfl 0 rfl ?_
  refine g_lload_n 49 O dJ13_bitCount_95d88_49 rfl 0 rfl ?_
  refine g_bipush 50 O (v := 32) dJ13_bitCount_95d88_50 (by decide) ?_
  refine g_lushr 52 O dJ13_bitCount_95d88_52 ?_
  refine g_ladd 53 O dJ13_bitCount_95d88_53 ?_
  refine g_topl (fun x6 ex6 => ?_)
  refine g_lstore_n 54 O (lv' := [(0, .long x6)]) dJ13_bitCount_95d88_54 rfl (by decide) rfl ?_
  refine g_lload_n 55 O dJ13_bitCount_95d88_55 rfl 0 rfl ?_
  refine g_l2i 56 O dJ13_bitCount_95d88_56 ?_
  refine g_bipush 57 O (v := 127) dJ13_bitCount_95d88_57 (by decide) ?_
  refine g_iand 59 O dJ13_bitCount_95d88_59 ?_
  exact g_iret 60 O dJ13_bitCount_95d88_60 (by rw [hP0, ← bc_ok p0 x1 x2 x3 x4 x5 x6 ex1 ex2 ex3 ex4 ex5 ex6]; exact ⟨rfl, rfl⟩)

set_option maxRecDepth 100000 in
set_option maxHeartbeats 4000000 in
theorem c_J9_max_7cf53 (l : Launch) (E : Ev) {T : Type} (w : T → va_W) (σ : T) (p0 p1 : Int32)  : Ctr l yJ9_max_7cf53 cJ9_max_7cf53 2 (some .int) 0 0 E (w) [.int p0, .int p1] σ (fun v8 s8 => v8 = some (.int (if p0 < p1 then p1 else p0)) ∧ s8 = σ) := by
  refine Ctr.ofF' (by decide +kernel) (Nat.le_of_ble_eq_true rfl) (fun X P0 hP0 O => ?_)
  refine g_sub [0, 1] (lv' := [(0, .int p0), (1, .int p1)]) rfl ?_
  refine g_iload_n 0 O dJ9_max_7cf53_0 rfl 0 rfl ?_
  refine g_iload_n 1 O dJ9_max_7cf53_1 rfl 1 rfl ?_
  refine g_icmp_lt 2 O 9 dJ9_max_7cf53_2 (by decide) (fun h2 => ?_) (fun h2 => ?_)
  · -- taken
    refine g_iload_n 9 O dJ9_max_7cf53_9 rfl 1 rfl ?_
    exact g_iret 10 O dJ9_max_7cf53_10 (by rw [hP0]; exact ⟨by rw [if_pos (h2)], rfl⟩)
  · -- not taken
    refine g_iload_n 5 O dJ9_max_7cf53_5 rfl 0 rfl ?_
    refine g_goto 6 O 10 dJ9_max_7cf53_6 (by decide) ?_
    exact g_iret 10 O dJ9_max_7cf53_10 (by rw [hP0]; exact ⟨by rw [if_neg (h2)], rfl⟩)

set_option maxRecDepth 100000 in
set_option maxHeartbeats 4000000 in
theorem c_X3_workOutReadings (l : Launch) (E : Ev) (a : Nat → Nat) (b : Nat) (R : va_W) (sn : Nat → Int32) (wd rd wi na : Int32) (so : Int64) (lt ng pl : Nat → Int32) (t1 t2 tr : Nat → Int64) (y : Sy) (hy : SyW wd lt ng pl y) (z : Nat → Nat) (hz : SnW sn z) : Ctr l yX3_workOutReadings cX3_workOutReadings 8 none 3 79 E (fun s => wS E a s ++ ((b, .inl (E.cI, 6, .inl sn)) :: R)) [.ref (a 0), .ref b] (((wd, rd, wi, na, so), lt, ng, pl, t1, t2, tr)) (pV (fun s => ∃ t1' t2' tr' : Nat → Int64, s = ((wd, nI (NR y), wi, na, so), lt, ng, pl, t1', t2', tr') ∧ ∀ r, r < NR y → tr' r = TR z y r)) := by
  refine Ctr.of' (by decide +kernel) (Nat.le_of_ble_eq_true rfl) (fun X P0 hP0 O => ?_)
  refine g_sub [0, 1] (lv' := [(0, .ref (a 0)), (1, .ref b)]) rfl ?_
  refine g_aload_n 0 O dX3_workOutReadings_0 rfl 0 rfl ?_
  refine g_iconst 1 O (v := 0) dX3_workOutReadings_1 (by decide) ?_
  refine g_put 2 O inX3 tyX3_ok nmX3 (((wd, 0, wi, na, so), lt, ng, pl, t1, t2, tr)) 0 rfl rfl 7 (by decide) kf_X3_36 rfl (rfl) (rfl) (Nat.le_of_ble_eq_true rfl) rfl dX3_workOutReadings_2 ?_
  refine g_aload_n 5 O dX3_workOutReadings_5 rfl 0 rfl ?_
  refine g_callV 6 O (na := 0) (av := []) (c_X3_isNone l E a ((b, .inl (E.cI, 6, .inl sn)) :: R) wd 0 wi na so lt ng pl t1 t2 tr) kl_X3_63 km_X3_isNone kv_X3_isNone ki_X3 kc_X3_isNone (by decide +kernel) rfl (Nat.le_of_ble_eq_true rfl) (Nat.le_of_ble_eq_true rfl) (fun _ h => h) 0 rfl rfl (fun s => s) (fun _ _ _ _ h => h) rfl (Nat.le_of_ble_eq_true rfl) dX3_workOutReadings_6 (fun v9 s9 hv9 => ?_)
  obtain ⟨rfl, rfl⟩ := hv9
  refine g_if_eq 9 O 13 dX3_workOutReadings_9 (by decide) (fun h9 => ?_) (fun h9 => ?_)
  · -- taken
    have h0 : 0 < y.1 := Nat.pos_of_ne_zero (fun e => ite_f h9 (by rw [hy.1, e]; rfl))
    have hy4 := hy.2.1
    obtain ⟨Q, hQ⟩ : ∃ Q, Q = 2 ^ npl y.2.2.2 y.1 := ⟨_, rfl⟩
    obtain ⟨Z, hZ⟩ : ∃ Z, Z = 2 ^ y.1 := ⟨_, rfl⟩
    have hq3 := npl_le y.2.2.2 y.1
    have hNR : NR y = nbr y.1 * Q * Z := by rw [NR, if_neg (by omega), hQ, hZ]
    have hN6 := NR_le (y := y) hy4
    have hQ8 : Q ≤ 8 := by rw [hQ]; exact Nat.pow_le_pow_right (by decide) (show npl y.2.2.2 y.1 ≤ 3 by omega)
    have hZ16 : Z ≤ 16 := by rw [hZ]; exact Nat.pow_le_pow_right (by decide) (show y.1 ≤ 4 by omega)
    refine g_aload_n 13 O dX3_workOutReadings_13 rfl 0 rfl ?_
    refine g_aload_n 14 O dX3_workOutReadings_14 rfl 1 rfl ?_
    refine g_callV 15 O (na := 1) (av := [.ref b]) (c_X3_workOutWords l E a b R sn wd 0 wi na so lt ng pl t1 t2 tr y hy z hz) kl_X3_67 km_X3_workOutWords kv_X3_workOutWords ki_X3 kc_X3_workOutWords (by decide +kernel) rfl (Nat.le_of_ble_eq_true rfl) (Nat.le_of_ble_eq_true rfl) (fun _ h => h) 0 rfl rfl (fun s => s) (fun _ _ _ _ h => h) rfl (Nat.le_of_ble_eq_true rfl) dX3_workOutReadings_15 (fun v9 s9 hv9 => ?_)
    obtain ⟨rfl, t1', t2', rfl, h12⟩ := hv9
    refine g_iconst 18 O (v := 1) dX3_workOutReadings_18 (by decide) ?_
    refine g_aload_n 19 O dX3_workOutReadings_19 rfl 0 rfl ?_
    refine g_callV 20 O (na := 0) (av := []) (c_X3_countPluses l E a ((b, .inl (E.cI, 6, .inl sn)) :: R) wd 0 wi na so lt ng pl t1' t2' tr y hy h0) kl_X3_70 km_X3_countPluses kv_X3_countPluses ki_X3 kc_X3_countPluses (by decide +kernel) rfl (Nat.le_of_ble_eq_true rfl) (Nat.le_of_ble_eq_true rfl) (fun _ h => h) 0 rfl rfl (fun s => s) (fun _ _ _ _ h => h) rfl (Nat.le_of_ble_eq_true rfl) dX3_workOutReadings_20 (fun v9 s9 hv9 => ?_)
    obtain ⟨rfl, rfl⟩ := hv9
    refine g_ishl 23 O dX3_workOutReadings_23 ?_
    refine g_si (nI Q) (by rw [hQ]; exact sh1 _ (by omega)) ?_
    refine g_istore_n 24 O (lv' := [(2, .int (nI Q)), (0, .ref (a 0)), (1, .ref b)]) dX3_workOutReadings_24 rfl (by decide) rfl ?_
    refine g_iconst 25 O (v := 1) dX3_workOutReadings_25 (by decide) ?_
    refine g_aload_n 26 O dX3_workOutReadings_26 rfl 1 rfl ?_
    refine g_get 27 O (v := .int wd) inX3 0 rfl rfl 6 (by decide) kf_X3_32 rfl dX3_workOutReadings_27 ?_
    refine g_si (nI y.1) (hy.1) ?_
    refine g_ishl 30 O dX3_workOutReadings_30 ?_
    refine g_si (nI Z) (by rw [hZ]; exact sh1 _ (by omega)) ?_
    refine g_istore_n 31 O (lv' := [(3, .int (nI Z)), (2, .int (nI Q)), (0, .ref (a 0)), (1, .ref b)]) dX3_workOutReadings_31 rfl (by decide) rfl ?_
    refine g_iconst 32 O (v := 0) dX3_workOutReadings_32 (by decide) ?_
    refine g_istore 33 O (lv' := [(4, .int 0), (3, .int (nI Z)), (2, .int (nI Q)), (0, .ref (a 0)), (1, .ref b)]) dX3_workOutReadings_33 (by decide) rfl ?_
    refine g_sub [0, 1, 2, 3, 4] (lv' := [(4, .int 0), (3, .int (nI Z)), (2, .int (nI Q)), (0, .ref (a 0)), (1, .ref b)]) rfl ?_
    have L35 : ∀ (fuel : Nat) (bb r : Nat) (tr' : Nat → Int64) (hbb : bb ≤ nbr y.1) (hr : r = bb * Q * Z) (htr : ∀ j, j < r → tr' j = TR z y j), nbr y.1 - bb < fuel → G l E (fun s => wS E a s ++ ((b, .inl (E.cI, 6, .inl sn)) :: R)) P0 X 8 (((wd, nI r, wi, na, so), lt, ng, pl, t1', t2', tr')) 35 [(4, .int (nI bb)), (3, .int (nI Z)), (2, .int (nI Q)), (0, .ref (a 0)), (1, .ref b)] [] := by
      intro fuel
      induction fuel with
      | zero => intro bb r tr' hbb hr htr hfu; exact absurd hfu (Nat.not_lt_zero _)
      | succ fuel ih35 =>
        intro bb r tr' hbb hr htr hfu
        refine g_iload 35 O dX3_workOutReadings_35 0 rfl ?_
        refine g_aload_n 37 O dX3_workOutReadings_37 rfl 3 rfl ?_
        refine g_callV 38 O (na := 0) (av := []) (c_X3_bracketings l E a ((b, .inl (E.cI, 6, .inl sn)) :: R) wd (nI r) wi na so lt ng pl t1' t2' tr' y hy) kl_X3_74 km_X3_bracketings kv_X3_bracketings ki_X3 kc_X3_bracketings (by decide +kernel) rfl (Nat.le_of_ble_eq_true rfl) (Nat.le_of_ble_eq_true rfl) (fun _ h => h) 0 rfl rfl (fun s => s) (fun _ _ _ _ h => h) rfl (Nat.le_of_ble_eq_true rfl) dX3_workOutReadings_38 (fun v9 s9 hv9 => ?_)
        obtain ⟨rfl, rfl⟩ := hv9
        refine g_icmp_ge 41 O 129 dX3_workOutReadings_41 (by decide) (fun h41 => ?_) (fun h41 => ?_)
        · -- taken
          have e : bb = nbr y.1 := by have := ge_of_le (by have := nbr_le hy4; omega) (by have := nbr_le hy4; omega) h41; omega
          subst e
          exact g_vret 129 O dX3_workOutReadings_129 (by rw [hP0]; exact ⟨rfl, t1', t2', tr', by rw [hNR, hr], fun r' hr' => htr r' (by rw [hr, ← hNR]; exact hr')⟩)
        · -- not taken
          have hbl : bb < nbr y.1 := lt_of_nge (by have := nbr_le hy4; omega) h41
          refine g_iconst 44 O (v := 0) dX3_workOutReadings_44 (by decide) ?_
          refine g_istore 45 O (lv' := [(5, .int 0), (4, .int (nI bb)), (3, .int (nI Z)), (2, .int (nI Q)), (0, .ref (a 0)), (1, .ref b)]) dX3_workOutReadings_45 (by decide) rfl ?_
          refine g_sub [0, 1, 2, 3, 4, 5] (lv' := [(5, .int 0), (4, .int (nI bb)), (3, .int (nI Z)), (2, .int (nI Q)), (0, .ref (a 0)), (1, .ref b)]) rfl ?_
          have L47 : ∀ (fuel : Nat) (w r : Nat) (tr' : Nat → Int64) (hw : w ≤ Q) (hr : r = (bb * Q + w) * Z) (htr : ∀ j, j < r → tr' j = TR z y j), Q - w < fuel → G l E (fun s => wS E a s ++ ((b, .inl (E.cI, 6, .inl sn)) :: R)) P0 X 8 (((wd, nI r, wi, na, so), lt, ng, pl, t1', t2', tr')) 47 [(5, .int (nI w)), (4, .int (nI bb)), (3, .int (nI Z)), (2, .int (nI Q)), (0, .ref (a 0)), (1, .ref b)] [] := by
            intro fuel
            induction fuel with
            | zero => intro w r tr' hw hr htr hfu; exact absurd hfu (Nat.not_lt_zero _)
            | succ fuel ih47 =>
              intro w r tr' hw hr htr hfu
              refine g_iload 47 O dX3_workOutReadings_47 0 rfl ?_
              refine g_iload_n 49 O dX3_workOutReadings_49 rfl 3 rfl ?_
              refine g_icmp_ge 50 O 123 dX3_workOutReadings_50 (by decide) (fun h50 => ?_) (fun h50 => ?_)
              · -- taken
                have e := ge_of_le (by omega) (by omega) h50
                refine g_iinc 123 O (v := nI (bb + 1)) (q := 1) (lv' := [(4, .int (nI (bb + 1))), (5, .int (nI w)), (3, .int (nI Z)), (2, .int (nI Q)), (0, .ref (a 0)), (1, .ref b)]) dX3_workOutReadings_123 rfl (nI_1 bb) (by decide) rfl ?_
                refine g_goto 126 O 35 dX3_workOutReadings_126 (by decide) ?_
                refine g_sub [0, 2, 3, 4, 5] (lv' := [(4, .int (nI (bb + 1))), (3, .int (nI Z)), (2, .int (nI Q)), (0, .ref (a 0)), (1, .ref b)]) rfl ?_
                exact ih35 (bb + 1) r tr' (by omega) (by rw [hr, show w = Q by omega, Nat.succ_mul bb Q]) htr (by omega)
              · -- not taken
                have hwQ : w < Q := lt_of_nge (by omega) h50
                refine g_aload_n 53 O dX3_workOutReadings_53 rfl 4 rfl ?_
                refine g_iload 54 O dX3_workOutReadings_54 0 rfl ?_
                refine g_callV 56 O (na := 1) (av := [.int (nI w)]) (c_X3_joiningsThatAreOr l E a ((b, .inl (E.cI, 6, .inl sn)) :: R) wd (nI r) wi na so lt ng pl t1' t2' tr' (nI w) y hy h0 w rfl (by omega)) kl_X3_77 km_X3_joiningsThatAreOr kv_X3_joiningsThatAreOr ki_X3 kc_X3_joiningsThatAreOr (by decide +kernel) rfl (Nat.le_of_ble_eq_true rfl) (Nat.le_of_ble_eq_true rfl) (fun _ h => h) 0 rfl rfl (fun s => s) (fun _ _ _ _ h => h) rfl (Nat.le_of_ble_eq_true rfl) dX3_workOutReadings_56 (fun v9 s9 hv9 => ?_)
                obtain ⟨r9, rfl, rfl, v, rfl, hv8, hvb⟩ := hv9
                refine g_istore 59 O (lv' := [(6, .int (nI v)), (5, .int (nI w)), (4, .int (nI bb)), (3, .int (nI Z)), (2, .int (nI Q)), (0, .ref (a 0)), (1, .ref b)]) dX3_workOutReadings_59 (by decide) rfl ?_
                refine g_iconst 61 O (v := 0) dX3_workOutReadings_61 (by decide) ?_
                refine g_istore 62 O (lv' := [(7, .int 0), (6, .int (nI v)), (5, .int (nI w)), (4, .int (nI bb)), (3, .int (nI Z)), (2, .int (nI Q)), (0, .ref (a 0)), (1, .ref b)]) dX3_workOutReadings_62 (by decide) rfl ?_
                refine g_sub [0, 1, 2, 3, 4, 5, 6, 7] (lv' := [(7, .int 0), (6, .int (nI v)), (5, .int (nI w)), (4, .int (nI bb)), (3, .int (nI Z)), (2, .int (nI Q)), (0, .ref (a 0)), (1, .ref b)]) rfl ?_
                have L64 : ∀ (fuel : Nat) (s r : Nat) (tr' : Nat → Int64) (hs : s ≤ Z) (hr : r = (bb * Q + w) * Z + s) (htr : ∀ j, j < r → tr' j = TR z y j), Z - s < fuel → G l E (fun s => wS E a s ++ ((b, .inl (E.cI, 6, .inl sn)) :: R)) P0 X 8 (((wd, nI r, wi, na, so), lt, ng, pl, t1', t2', tr')) 64 [(7, .int (nI s)), (6, .int (nI v)), (5, .int (nI w)), (4, .int (nI bb)), (3, .int (nI Z)), (2, .int (nI Q)), (0, .ref (a 0)), (1, .ref b)] [] := by
                  intro fuel
                  induction fuel with
                  | zero => intro s r tr' hs hr htr hfu; exact absurd hfu (Nat.not_lt_zero _)
                  | succ fuel ih64 =>
                    intro s r tr' hs hr htr hfu
                    refine g_iload 64 O dX3_workOutReadings_64 0 rfl ?_
                    refine g_iload_n 66 O dX3_workOutReadings_66 rfl 4 rfl ?_
                    refine g_icmp_ge 67 O 117 dX3_workOutReadings_67 (by decide) (fun h67 => ?_) (fun h67 => ?_)
                    · -- taken
                      have e := ge_of_le (by omega) (by omega) h67
                      refine g_iinc 117 O (v := nI (w + 1)) (q := 2) (lv' := [(5, .int (nI (w + 1))), (7, .int (nI s)), (6, .int (nI v)), (4, .int (nI bb)), (3, .int (nI Z)), (2, .int (nI Q)), (0, .ref (a 0)), (1, .ref b)]) dX3_workOutReadings_117 rfl (nI_1 w) (by decide) rfl ?_
                      refine g_goto 120 O 47 dX3_workOutReadings_120 (by decide) ?_
                      refine g_sub [0, 3, 4, 5, 6, 7] (lv' := [(5, .int (nI (w + 1))), (4, .int (nI bb)), (3, .int (nI Z)), (2, .int (nI Q)), (0, .ref (a 0)), (1, .ref b)]) rfl ?_
                      exact ih47 (w + 1) r tr' (by omega) (by rw [hr, show s = Z by omega]; exact (Nat.succ_mul (bb * Q + w) Z).symm) htr (by omega)
                    · -- not taken
                      have hsZ : s < Z := lt_of_nge (by omega) h67
                      have hrN : r < NR y := by rw [hNR, hr]; exact ix_lt hbl hwQ hsZ
                      refine g_aload_n 70 O dX3_workOutReadings_70 rfl 6 rfl ?_
                      refine g_get 71 O (v := .int (nI r)) inX3 0 rfl rfl 7 (by decide) kf_X3_36 rfl dX3_workOutReadings_71 ?_
                      refine g_aload_n 74 O dX3_workOutReadings_74 rfl 6 rfl ?_
                      refine g_get 75 O (v := .ref (a 6)) inX3 0 rfl rfl 5 (by decide) kf_X3_29 rfl dX3_workOutReadings_75 ?_
                      refine g_alen 78 O (v := 640) 6 2 rfl rfl rfl dX3_workOutReadings_78 ?_
                      refine g_icmp_ge 79 O 117 dX3_workOutReadings_79 (by decide) (fun h79 => False.elim (absurd h79 (nI_ge (b := 640) (by omega) (by decide)))) (fun h79 => ?_)
                      refine g_aload_n 82 O dX3_workOutReadings_82 rfl 6 rfl ?_
                      refine g_get 83 O (v := .ref (a 6)) inX3 0 rfl rfl 5 (by decide) kf_X3_29 rfl dX3_workOutReadings_83 ?_
                      refine g_aload_n 86 O dX3_workOutReadings_86 rfl 6 rfl ?_
                      refine g_get 87 O (v := .int (nI r)) inX3 0 rfl rfl 7 (by decide) kf_X3_36 rfl dX3_workOutReadings_87 ?_
                      refine g_aload_n 90 O dX3_workOutReadings_90 rfl 6 rfl ?_
                      refine g_iload 91 O dX3_workOutReadings_91 3 rfl ?_
                      refine g_iload 93 O dX3_workOutReadings_93 1 rfl ?_
                      refine g_iload 95 O dX3_workOutReadings_95 0 rfl ?_
                      refine g_callV 97 O (na := 3) (av := [.int (nI bb), .int (nI v), .int (nI s)]) (c_X3_truthOf l E a ((b, .inl (E.cI, 6, .inl sn)) :: R) wd (nI r) wi na so lt ng pl t1' t2' tr' (nI bb) (nI v) (nI s) y.1 hy.1 h0 hy4 bb v s rfl (by have := nbr_le hy4; omega) rfl hv8 rfl (by omega)) kl_X3_80 km_X3_truthOf kv_X3_truthOf ki_X3 kc_X3_truthOf (by decide +kernel) rfl (Nat.le_of_ble_eq_true rfl) (Nat.le_of_ble_eq_true rfl) (fun _ h => h) 0 rfl rfl (fun s => s) (fun _ _ _ _ h => h) rfl (Nat.le_of_ble_eq_true rfl) dX3_workOutReadings_97 (fun v9 s9 hv9 => ?_)
                      obtain ⟨rfl, rfl⟩ := hv9
                      refine g_last 100 O (((wd, nI r, wi, na, so), lt, ng, pl, t1', t2', vp_updL tr' r (brk y.1 bb (fun k => v.testBit k) (fun k => if s.testBit k = true then t2' k else t1' k)))) 6 r rfl (rfl) (by omega) (by decide) rfl dX3_workOutReadings_100 ?_
                      refine g_aload_n 101 O dX3_workOutReadings_101 rfl 6 rfl ?_
                      refine g_dup 102 O dX3_workOutReadings_102 rfl ?_
                      refine g_get 103 O (v := .int (nI r)) inX3 0 rfl rfl 7 (by decide) kf_X3_36 rfl dX3_workOutReadings_103 ?_
                      refine g_iconst 106 O (v := 1) dX3_workOutReadings_106 (by decide) ?_
                      refine g_iadd 107 O dX3_workOutReadings_107 ?_
                      refine g_si (nI (r + 1)) (nI_1 r) ?_
                      refine g_put 108 O inX3 tyX3_ok nmX3 (((wd, nI (r + 1), wi, na, so), lt, ng, pl, t1', t2', vp_updL tr' r (brk y.1 bb (fun k => v.testBit k) (fun k => if s.testBit k = true then t2' k else t1' k)))) 0 rfl rfl 7 (by decide) kf_X3_36 rfl (rfl) (rfl) (Nat.le_of_ble_eq_true rfl) rfl dX3_workOutReadings_108 ?_
                      refine g_iinc 111 O (v := nI (s + 1)) (q := 0) (lv' := [(7, .int (nI (s + 1))), (6, .int (nI v)), (5, .int (nI w)), (4, .int (nI bb)), (3, .int (nI Z)), (2, .int (nI Q)), (0, .ref (a 0)), (1, .ref b)]) dX3_workOutReadings_111 rfl (nI_1 s) (by decide) rfl ?_
                      refine g_goto 114 O 64 dX3_workOutReadings_114 (by decide) ?_
                      refine g_sub [0, 1, 2, 3, 4, 5, 6, 7] (lv' := [(7, .int (nI (s + 1))), (6, .int (nI v)), (5, .int (nI w)), (4, .int (nI bb)), (3, .int (nI Z)), (2, .int (nI Q)), (0, .ref (a 0)), (1, .ref b)]) rfl ?_
                      exact ih64 (s + 1) (r + 1) (vp_updL tr' r (brk y.1 bb (fun k => v.testBit k) (fun k => if s.testBit k = true then t2' k else t1' k))) (by omega) (by rw [hr, Nat.add_assoc]) (fun j hj => by
              rcases Nat.lt_or_ge j r with q | q
              · rw [updL_n _ _ (by omega : j ≠ r)]; exact htr j q
              · have e : j = r := by omega
                subst e
                rw [updL_s, hr, hQ, hZ, TR_at (by rw [← hQ]; exact hwQ) (by rw [← hZ]; exact hsZ)]
                exact brk_cong h0 hy4 hvb (fun k hk => by rw [wv, (h12 k hk).1, (h12 k hk).2])) (by omega)
                exact L64 _ 0 r tr' (Nat.zero_le _) (by rw [hr, Nat.add_zero]) htr (Nat.lt_succ_self _)
          exact L47 _ 0 r tr' (Nat.zero_le _) (by rw [hr, Nat.add_zero]) htr (Nat.lt_succ_self _)
    exact L35 _ 0 0 tr (Nat.zero_le _) (by rw [Nat.zero_mul, Nat.zero_mul]) (fun j h => absurd h (Nat.not_lt_zero _)) (Nat.lt_succ_self _)
  · -- not taken
    exact g_vret 12 O dX3_workOutReadings_12 (by rw [hP0, show NR y = 0 by rw [NR, if_pos]; have hy4 := hy.2.1; exact (nI_eq (b := 0) (by omega) (by decide)).mp (by rw [← hy.1]; exact ite_t h9)]; exact ⟨rfl, t1, t2, tr, rfl, fun r hr => absurd hr (Nat.not_lt_zero _)⟩)
end
section
def WG (f : Nat → Int64) (i : Nat) (so : Int64) (wi na mo fe : Int32) : Prop := so = orN f i ∧ wi = nI (mx (fun r => pcn (f r)) i) ∧ na = nI (mn (fun r => pcn (f r)) i) ∧ ((i = 0 ∧ mo = -1 ∧ fe = 65) ∨ (0 < i ∧ mo = nI (pcn (f (mx (fun r => pcn (f r)) i))) ∧ fe = nI (pcn (f (mn (fun r => pcn (f r)) i)))))
theorem pcn_le (x : Int64) : pcn x ≤ 64 := cn_le _ _
theorem WG_hi {f : Nat → Int64} {i : Nat} {so : Int64} {wi na mo fe : Int32} (h : WG f i so wi na mo fe) (hc : ¬ nI (pcn (f i)) ≤ mo) : mx (fun r => pcn (f r)) (i + 1) = i := by
  rcases h.2.2.2 with ⟨rfl, -, -⟩ | ⟨-, e, -⟩
  · rw [mx]; split <;> rfl
  · rw [e] at hc
    have := pcn_le (f (mx (fun r => pcn (f r)) i))
    rw [mx, if_pos (lt_of_nge (by omega) (fun q => hc q))]
theorem WG_hn {f : Nat → Int64} {i : Nat} {so : Int64} {wi na mo fe : Int32} (h : WG f i so wi na mo fe) (hc : nI (pcn (f i)) ≤ mo) : 0 < i ∧ mx (fun r => pcn (f r)) (i + 1) = mx (fun r => pcn (f r)) i := by
  have h1 := pcn_le (f i)
  rcases h.2.2.2 with ⟨rfl, e, -⟩ | ⟨h0, e, -⟩
  · rw [e] at hc
    exact absurd (Int32.le_trans (nI_pos' (by omega)) hc) (by decide)
  · rw [e] at hc
    have := pcn_le (f (mx (fun r => pcn (f r)) i))
    have := ge_of_le (by omega) (by omega) hc
    exact ⟨h0, by rw [mx, if_neg (by omega)]⟩
theorem WG_lo {f : Nat → Int64} {i : Nat} {so : Int64} {wi na mo fe : Int32} (h : WG f i so wi na mo fe) (hc : ¬ fe ≤ nI (pcn (f i))) : mn (fun r => pcn (f r)) (i + 1) = i := by
  have h1 := pcn_le (f i)
  rcases h.2.2.2 with ⟨rfl, -, -⟩ | ⟨-, -, e⟩
  · rw [mn]; split <;> rfl
  · rw [e] at hc
    rw [mn, if_pos (lt_of_nge (by omega) (fun q => hc q))]
theorem WG_ln {f : Nat → Int64} {i : Nat} {so : Int64} {wi na mo fe : Int32} (h : WG f i so wi na mo fe) (hc : fe ≤ nI (pcn (f i))) : 0 < i ∧ mn (fun r => pcn (f r)) (i + 1) = mn (fun r => pcn (f r)) i := by
  have h1 := pcn_le (f i)
  rcases h.2.2.2 with ⟨rfl, -, e⟩ | ⟨h0, -, e⟩
  · rw [e] at hc
    have := ge_of_le (n := 65) (by omega) (by decide) hc
    omega
  · rw [e] at hc
    have := pcn_le (f (mn (fun r => pcn (f r)) i))
    have := ge_of_le (by omega) (by omega) hc
    exact ⟨h0, by rw [mn, if_neg (by omega)]⟩

set_option maxRecDepth 100000 in
set_option maxHeartbeats 4000000 in
theorem c_X3_weigh (l : Launch) (E : Ev) (a : Nat → Nat) (R : va_W) (wd rd wi na : Int32) (so : Int64) (lt ng pl : Nat → Int32) (t1 t2 tr : Nat → Int64) (N : Nat) (hrd : rd = nI N) (hN : N ≤ 640) : Ctr l yX3_weigh cX3_weigh 5 none 1 21 E (fun s => wS E a s ++ R) [.ref (a 0)] (((wd, rd, wi, na, so), lt, ng, pl, t1, t2, tr)) (fun v8 s8 => v8 = none ∧ s8 = ((wd, rd, nI (mx (fun r => pcn (tr r)) N), nI (mn (fun r => pcn (tr r)) N), orN tr N), lt, ng, pl, t1, t2, tr)) := by
  refine Ctr.of' (by decide +kernel) (Nat.le_of_ble_eq_true rfl) (fun X P0 hP0 O => ?_)
  refine g_sub [0] (lv' := [(0, .ref (a 0))]) rfl ?_
  refine g_aload_n 0 O dX3_weigh_0 rfl 0 rfl ?_
  refine g_lconst 1 O (v := 0) dX3_weigh_1 (by decide) ?_
  refine g_put 2 O inX3 tyX3_ok nmX3 (((wd, rd, wi, na, 0), lt, ng, pl, t1, t2, tr)) 0 rfl rfl 10 (by decide) kf_X3_108 rfl (rfl) (rfl) (Nat.le_of_ble_eq_true rfl) rfl dX3_weigh_2 ?_
  refine g_aload_n 5 O dX3_weigh_5 rfl 0 rfl ?_
  refine g_iconst 6 O (v := 0) dX3_weigh_6 (by decide) ?_
  refine g_put 7 O inX3 tyX3_ok nmX3 (((wd, rd, 0, na, 0), lt, ng, pl, t1, t2, tr)) 0 rfl rfl 8 (by decide) kf_X3_112 rfl (rfl) (rfl) (Nat.le_of_ble_eq_true rfl) rfl dX3_weigh_7 ?_
  refine g_aload_n 10 O dX3_weigh_10 rfl 0 rfl ?_
  refine g_iconst 11 O (v := 0) dX3_weigh_11 (by decide) ?_
  refine g_put 12 O inX3 tyX3_ok nmX3 (((wd, rd, 0, 0, 0), lt, ng, pl, t1, t2, tr)) 0 rfl rfl 9 (by decide) kf_X3_115 rfl (rfl) (rfl) (Nat.le_of_ble_eq_true rfl) rfl dX3_weigh_12 ?_
  refine g_iconst 15 O (v := (-1)) dX3_weigh_15 (by decide) ?_
  refine g_istore_n 16 O (lv' := [(1, .int ((-1))), (0, .ref (a 0))]) dX3_weigh_16 rfl (by decide) rfl ?_
  refine g_bipush 17 O (v := 65) dX3_weigh_17 (by decide) ?_
  refine g_istore_n 19 O (lv' := [(2, .int 65), (1, .int ((-1))), (0, .ref (a 0))]) dX3_weigh_19 rfl (by decide) rfl ?_
  refine g_iconst 20 O (v := 0) dX3_weigh_20 (by decide) ?_
  refine g_istore_n 21 O (lv' := [(3, .int 0), (2, .int 65), (1, .int ((-1))), (0, .ref (a 0))]) dX3_weigh_21 rfl (by decide) rfl ?_
  refine g_sub [0, 1, 2, 3] (lv' := [(3, .int 0), (2, .int 65), (1, .int ((-1))), (0, .ref (a 0))]) rfl ?_
  have L22 : ∀ (fuel : Nat) (i : Nat) (so' : Int64) (wi' na' mo fe : Int32) (hi : i ≤ N) (hW : WG tr i so' wi' na' mo fe), N - i < fuel → G l E (fun s => wS E a s ++ R) P0 X 5 (((wd, rd, wi', na', so'), lt, ng, pl, t1, t2, tr)) 22 [(3, .int (nI i)), (2, .int fe), (1, .int mo), (0, .ref (a 0))] [] := by
    intro fuel
    induction fuel with
    | zero => intro i so' wi' na' mo fe hi hW hfu; exact absurd hfu (Nat.not_lt_zero _)
    | succ fuel ih22 =>
      intro i so' wi' na' mo fe hi hW hfu
      refine g_iload_n 22 O dX3_weigh_22 rfl 0 rfl ?_
      refine g_aload_n 23 O dX3_weigh_23 rfl 3 rfl ?_
      refine g_get 24 O (v := .int rd) inX3 0 rfl rfl 7 (by decide) kf_X3_36 rfl dX3_weigh_24 ?_
      refine g_icmp_ge 27 O 99 dX3_weigh_27 (by decide) (fun h27 => ?_) (fun h27 => ?_)
      · -- taken
        have e : i = N := by rw [hrd] at h27; have := ge_of_le (by omega) (by omega) h27; omega
        subst e
        exact g_vret 99 O dX3_weigh_99 (by rw [hP0, ← hW.1, ← hW.2.1, ← hW.2.2.1]; exact ⟨rfl, rfl⟩)
      · -- not taken
        have hlt : i < N := by rw [hrd] at h27; exact lt_of_nge (by omega) h27
        refine g_iload_n 30 O dX3_weigh_30 rfl 0 rfl ?_
        refine g_aload_n 31 O dX3_weigh_31 rfl 3 rfl ?_
        refine g_get 32 O (v := .ref (a 6)) inX3 0 rfl rfl 5 (by decide) kf_X3_29 rfl dX3_weigh_32 ?_
        refine g_alen 35 O (v := 640) 6 2 rfl rfl rfl dX3_weigh_35 ?_
        refine g_icmp_ge 36 O 99 dX3_weigh_36 (by decide) (fun h36 => False.elim (absurd h36 (nI_ge (b := 640) (by omega) (by decide)))) (fun h36 => ?_)
        refine g_aload_n 39 O dX3_weigh_39 rfl 3 rfl ?_
        refine g_dup 40 O dX3_weigh_40 rfl ?_
        refine g_get 41 O (v := .long so') inX3 0 rfl rfl 10 (by decide) kf_X3_108 rfl dX3_weigh_41 ?_
        refine g_aload_n 44 O dX3_weigh_44 rfl 3 rfl ?_
        refine g_get 45 O (v := .ref (a 6)) inX3 0 rfl rfl 5 (by decide) kf_X3_29 rfl dX3_weigh_45 ?_
        refine g_iload_n 48 O dX3_weigh_48 rfl 0 rfl ?_
        refine g_lald 49 O 6 i rfl (rfl) (by omega) (by decide) dX3_weigh_49 ?_
        refine g_lor 50 O dX3_weigh_50 ?_
        refine g_put 51 O inX3 tyX3_ok nmX3 (((wd, rd, wi', na', so' ||| (tr i)), lt, ng, pl, t1, t2, tr)) 0 rfl rfl 10 (by decide) kf_X3_108 rfl (rfl) (rfl) (Nat.le_of_ble_eq_true rfl) rfl dX3_weigh_51 ?_
        refine g_aload_n 54 O dX3_weigh_54 rfl 3 rfl ?_
        refine g_get 55 O (v := .ref (a 6)) inX3 0 rfl rfl 5 (by decide) kf_X3_29 rfl dX3_weigh_55 ?_
        refine g_iload_n 58 O dX3_weigh_58 rfl 0 rfl ?_
        refine g_lald 59 O 6 i rfl (rfl) (by omega) (by decide) dX3_weigh_59 ?_
        refine g_callX 60 O (na := 1) (av := [.long (tr i)]) (c_J13_bitCount_95d88 l E _ _ (tr i)) kl_X3_118 ks_J13_bitCount_95d88 ki_J13 kc_J13_bitCount_95d88 (by decide +kernel) rfl (Nat.le_of_ble_eq_true rfl) (Nat.le_of_ble_eq_true rfl) (fun _ h => h) (fun s => s) (fun _ _ _ _ h => h) rfl (Nat.le_of_ble_eq_true rfl) dX3_weigh_60 (fun v9 s9 hv9 => ?_)
        obtain ⟨rfl, rfl⟩ := hv9
        refine g_istore 63 O (lv' := [(4, .int (nI (pcn (tr i)))), (3, .int (nI i)), (2, .int fe), (1, .int mo), (0, .ref (a 0))]) dX3_weigh_63 (by decide) rfl ?_
        refine g_iload 65 O dX3_weigh_65 0 rfl ?_
        refine g_iload_n 67 O dX3_weigh_67 rfl 3 rfl ?_
        refine g_icmp_le 68 O 79 dX3_weigh_68 (by decide) (fun h68 => ?_) (fun h68 => ?_)
        · -- taken
          refine g_iload 79 O dX3_weigh_79 0 rfl ?_
          refine g_iload_n 81 O dX3_weigh_81 rfl 2 rfl ?_
          refine g_icmp_ge 82 O 93 dX3_weigh_82 (by decide) (fun h82 => ?_) (fun h82 => ?_)
          · -- taken
            refine g_iinc 93 O (v := nI (i + 1)) (q := 1) (lv' := [(3, .int (nI (i + 1))), (4, .int (nI (pcn (tr i)))), (2, .int fe), (1, .int mo), (0, .ref (a 0))]) dX3_weigh_93 rfl (nI_1 i) (by decide) rfl ?_
            refine g_goto 96 O 22 dX3_weigh_96 (by decide) ?_
            refine g_sub [0, 2, 3, 4] (lv' := [(3, .int (nI (i + 1))), (2, .int fe), (1, .int mo), (0, .ref (a 0))]) rfl ?_
            exact ih22 (i + 1) (so' ||| tr i) wi' na' mo fe (by omega) ⟨by rw [hW.1]; rfl, by rw [(WG_hn hW h68).2]; exact hW.2.1, by rw [(WG_ln hW h82).2]; exact hW.2.2.1, Or.inr ⟨by omega, by rw [(WG_hn hW h68).2]; exact (hW.2.2.2.resolve_left (fun q => absurd q.1 (by have := (WG_hn hW h68).1; omega))).2.1, by rw [(WG_ln hW h82).2]; exact (hW.2.2.2.resolve_left (fun q => absurd q.1 (by have := (WG_ln hW h82).1; omega))).2.2⟩⟩ (by omega)
          · -- not taken
            refine g_iload 85 O dX3_weigh_85 0 rfl ?_
            refine g_istore_n 87 O (lv' := [(2, .int (nI (pcn (tr i)))), (4, .int (nI (pcn (tr i)))), (3, .int (nI i)), (1, .int mo), (0, .ref (a 0))]) dX3_weigh_87 rfl (by decide) rfl ?_
            refine g_aload_n 88 O dX3_weigh_88 rfl 4 rfl ?_
            refine g_iload_n 89 O dX3_weigh_89 rfl 2 rfl ?_
            refine g_put 90 O inX3 tyX3_ok nmX3 (((wd, rd, wi', nI i, so' ||| (tr i)), lt, ng, pl, t1, t2, tr)) 0 rfl rfl 9 (by decide) kf_X3_115 rfl (rfl) (rfl) (Nat.le_of_ble_eq_true rfl) rfl dX3_weigh_90 ?_
            refine g_iinc 93 O (v := nI (i + 1)) (q := 2) (lv' := [(3, .int (nI (i + 1))), (2, .int (nI (pcn (tr i)))), (4, .int (nI (pcn (tr i)))), (1, .int mo), (0, .ref (a 0))]) dX3_weigh_93 rfl (nI_1 i) (by decide) rfl ?_
            refine g_goto 96 O 22 dX3_weigh_96 (by decide) ?_
            refine g_sub [0, 1, 3, 4] (lv' := [(3, .int (nI (i + 1))), (2, .int (nI (pcn (tr i)))), (1, .int mo), (0, .ref (a 0))]) rfl ?_
            exact ih22 (i + 1) (so' ||| tr i) wi' (nI i) mo (nI (pcn (tr i))) (by omega) ⟨by rw [hW.1]; rfl, by rw [(WG_hn hW h68).2]; exact hW.2.1, by rw [WG_lo hW h82], Or.inr ⟨by omega, by rw [(WG_hn hW h68).2]; exact (hW.2.2.2.resolve_left (fun q => absurd q.1 (by have := (WG_hn hW h68).1; omega))).2.1, by rw [WG_lo hW h82]⟩⟩ (by omega)
        · -- not taken
          refine g_iload 71 O dX3_weigh_71 0 rfl ?_
          refine g_istore_n 73 O (lv' := [(1, .int (nI (pcn (tr i)))), (4, .int (nI (pcn (tr i)))), (3, .int (nI i)), (2, .int fe), (0, .ref (a 0))]) dX3_weigh_73 rfl (by decide) rfl ?_
          refine g_aload_n 74 O dX3_weigh_74 rfl 4 rfl ?_
          refine g_iload_n 75 O dX3_weigh_75 rfl 2 rfl ?_
          refine g_put 76 O inX3 tyX3_ok nmX3 (((wd, rd, nI i, na', so' ||| (tr i)), lt, ng, pl, t1, t2, tr)) 0 rfl rfl 8 (by decide) kf_X3_112 rfl (rfl) (rfl) (Nat.le_of_ble_eq_true rfl) rfl dX3_weigh_76 ?_
          refine g_iload 79 O dX3_weigh_79 1 rfl ?_
          refine g_iload_n 81 O dX3_weigh_81 rfl 3 rfl ?_
          refine g_icmp_ge 82 O 93 dX3_weigh_82 (by decide) (fun h82 => ?_) (fun h82 => ?_)
          · -- taken
            refine g_iinc 93 O (v := nI (i + 1)) (q := 2) (lv' := [(3, .int (nI (i + 1))), (1, .int (nI (pcn (tr i)))), (4, .int (nI (pcn (tr i)))), (2, .int fe), (0, .ref (a 0))]) dX3_weigh_93 rfl (nI_1 i) (by decide) rfl ?_
            refine g_goto 96 O 22 dX3_weigh_96 (by decide) ?_
            refine g_sub [0, 3, 1, 4] (lv' := [(3, .int (nI (i + 1))), (2, .int fe), (1, .int (nI (pcn (tr i)))), (0, .ref (a 0))]) rfl ?_
            exact ih22 (i + 1) (so' ||| tr i) (nI i) na' (nI (pcn (tr i))) fe (by omega) ⟨by rw [hW.1]; rfl, by rw [WG_hi hW h68], by rw [(WG_ln hW h82).2]; exact hW.2.2.1, Or.inr ⟨by omega, by rw [WG_hi hW h68], by rw [(WG_ln hW h82).2]; exact (hW.2.2.2.resolve_left (fun q => absurd q.1 (by have := (WG_ln hW h82).1; omega))).2.2⟩⟩ (by omega)
          · -- not taken
            refine g_iload 85 O dX3_weigh_85 1 rfl ?_
            refine g_istore_n 87 O (lv' := [(2, .int (nI (pcn (tr i)))), (1, .int (nI (pcn (tr i)))), (4, .int (nI (pcn (tr i)))), (3, .int (nI i)), (0, .ref (a 0))]) dX3_weigh_87 rfl (by decide) rfl ?_
            refine g_aload_n 88 O dX3_weigh_88 rfl 4 rfl ?_
            refine g_iload_n 89 O dX3_weigh_89 rfl 3 rfl ?_
            refine g_put 90 O inX3 tyX3_ok nmX3 (((wd, rd, nI i, nI i, so' ||| (tr i)), lt, ng, pl, t1, t2, tr)) 0 rfl rfl 9 (by decide) kf_X3_115 rfl (rfl) (rfl) (Nat.le_of_ble_eq_true rfl) rfl dX3_weigh_90 ?_
            refine g_iinc 93 O (v := nI (i + 1)) (q := 3) (lv' := [(3, .int (nI (i + 1))), (2, .int (nI (pcn (tr i)))), (1, .int (nI (pcn (tr i)))), (4, .int (nI (pcn (tr i)))), (0, .ref (a 0))]) dX3_weigh_93 rfl (nI_1 i) (by decide) rfl ?_
            refine g_goto 96 O 22 dX3_weigh_96 (by decide) ?_
            refine g_sub [0, 1, 2, 4] (lv' := [(3, .int (nI (i + 1))), (2, .int (nI (pcn (tr i)))), (1, .int (nI (pcn (tr i)))), (0, .ref (a 0))]) rfl ?_
            exact ih22 (i + 1) (so' ||| tr i) (nI i) (nI i) (nI (pcn (tr i))) (nI (pcn (tr i))) (by omega) ⟨by rw [hW.1]; rfl, by rw [WG_hi hW h68], by rw [WG_lo hW h82], Or.inr ⟨by omega, by rw [WG_hi hW h68], by rw [WG_lo hW h82]⟩⟩ (by omega)
  exact L22 _ 0 0 0 0 (-1) 65 (Nat.zero_le _) ⟨rfl, rfl, rfl, Or.inl ⟨rfl, rfl, rfl⟩⟩ (Nat.lt_succ_self _)

/-- all of a Saying, worked out -/
def SyA (s : Sc) (z : Nat → Nat) (y : Sy) : Prop := SyW s.1.1 s.2.1 s.2.2.1 s.2.2.2.1 y ∧ s.1.2.1 = nI (NR y) ∧ (∀ r, r < NR y → s.2.2.2.2.2.2 r = TR z y r) ∧ s.1.2.2.1 = nI (mx (fun r => pcn (TR z y r)) (NR y)) ∧ s.1.2.2.2.1 = nI (mn (fun r => pcn (TR z y r)) (NR y)) ∧ s.1.2.2.2.2 = orN (TR z y) (NR y)
theorem SyA_of {wd : Int32} {lt ng pl : Nat → Int32} {t1 t2 tr : Nat → Int64} {z : Nat → Nat} {y : Sy} (hy : SyW wd lt ng pl y) (h : ∀ r, r < NR y → tr r = TR z y r) : SyA ((wd, nI (NR y), nI (mx (fun r => pcn (tr r)) (NR y)), nI (mn (fun r => pcn (tr r)) (NR y)), orN tr (NR y)), lt, ng, pl, t1, t2, tr) z y :=
  ⟨hy, rfl, h, by rw [mx_cong (fun r hr => by rw [h r hr])], by rw [mn_cong (fun r hr => by rw [h r hr])], orN_cong h⟩

set_option maxRecDepth 100000 in
set_option maxHeartbeats 4000000 in
theorem c_X3_workOut (l : Launch) (E : Ev) (a : Nat → Nat) (b : Nat) (R : va_W) (sn : Nat → Int32) (wd rd wi na : Int32) (so : Int64) (lt ng pl : Nat → Int32) (t1 t2 tr : Nat → Int64) (y : Sy) (hy : SyW wd lt ng pl y) (z : Nat → Nat) (hz : SnW sn z) : Ctr l yX3_workOut cX3_workOut 2 none 4 106 E (fun s => wS E a s ++ ((b, .inl (E.cI, 6, .inl sn)) :: R)) [.ref (a 0), .ref b] (((wd, rd, wi, na, so), lt, ng, pl, t1, t2, tr)) (pV (fun s => SyA s z y)) := by
  refine Ctr.of' (by decide +kernel) (Nat.le_of_ble_eq_true rfl) (fun X P0 hP0 O => ?_)
  refine g_sub [0, 1] (lv' := [(0, .ref (a 0)), (1, .ref b)]) rfl ?_
  refine g_aload_n 0 O dX3_workOut_0 rfl 0 rfl ?_
  refine g_aload_n 1 O dX3_workOut_1 rfl 1 rfl ?_
  refine g_callV 2 O (na := 1) (av := [.ref b]) (c_X3_workOutReadings l E a b R sn wd rd wi na so lt ng pl t1 t2 tr y hy z hz) kl_X3_56 km_X3_workOutReadings kv_X3_workOutReadings ki_X3 kc_X3_workOutReadings (by decide +kernel) rfl (Nat.le_of_ble_eq_true rfl) (Nat.le_of_ble_eq_true rfl) (fun _ h => h) 0 rfl rfl (fun s => s) (fun _ _ _ _ h => h) rfl (Nat.le_of_ble_eq_true rfl) dX3_workOut_2 (fun v9 s9 hv9 => ?_)
  obtain ⟨rfl, t1', t2', tr', rfl, h12⟩ := hv9
  refine g_aload_n 5 O dX3_workOut_5 rfl 0 rfl ?_
  refine g_callV 6 O (na := 0) (av := []) (c_X3_weigh l E a ((b, .inl (E.cI, 6, .inl sn)) :: R) wd (nI (NR y)) wi na so lt ng pl t1' t2' tr' (NR y) rfl (NR_le hy.2.1)) kl_X3_60 km_X3_weigh kv_X3_weigh ki_X3 kc_X3_weigh (by decide +kernel) rfl (Nat.le_of_ble_eq_true rfl) (Nat.le_of_ble_eq_true rfl) (fun _ h => h) 0 rfl rfl (fun s => s) (fun _ _ _ _ h => h) rfl (Nat.le_of_ble_eq_true rfl) dX3_workOut_6 (fun v9 s9 hv9 => ?_)
  obtain ⟨rfl, rfl⟩ := hv9
  exact g_vret 9 O dX3_workOut_9 (by rw [hP0]; exact ⟨rfl, SyA_of hy h12⟩)

theorem bit64 {x : Int64} {k : Nat} (hk : k < 64) : ((x.toUInt64 >>> ((nI k).toInt64.toUInt64 &&& Int64.toUInt64 63)).toInt64 &&& 1).toInt32 = bi (tb x k) := by
  obtain ⟨n, hn, rfl⟩ := wb_of x
  rw [wb_bit hn hk, lN_i]
  unfold tb
  rw [wb_tb, BitVec.getLsbD_ofNat]
  simp only [hk, decide_true, Bool.true_and]
  rw [Nat.testBit_eq_decide_div_mod_eq]
  rcases Nat.mod_two_eq_zero_or_one (n / 2 ^ k) with q | q <;> rw [q] <;> rfl
theorem bi_add {p : Nat → Bool} {n : Nat} : nI (cn p n) + bi (p n) = nI (cn p (n + 1)) := by
  cases e : p n with
  | true => exact cn_t e
  | false => exact cn_f e
theorem cn_mono {p : Nat → Bool} : ∀ {m n : Nat}, m ≤ n → cn p m ≤ cn p n
  | m, 0, h => by have : m = 0 := by omega
                  subst this; exact Nat.le_refl _
  | m, n + 1, h => by
    rcases Nat.lt_or_ge n m with q | q
    · have : m = n + 1 := by omega
      subst this; exact Nat.le_refl _
    · have := cn_mono (p := p) q; rw [cn]; omega

set_option maxRecDepth 100000 in
set_option maxHeartbeats 4000000 in
theorem c_X3_readingsSoIn (l : Launch) (E : Ev) (a : Nat → Nat) (R : va_W) (wd rd wi na : Int32) (so : Int64) (lt ng pl : Nat → Int32) (t1 t2 tr : Nat → Int64) (p0 : Int32) (N u : Nat) (hrd : rd = nI N) (hN : N ≤ 640) (hp : p0 = nI u) (hu : u < 64) : Ctr l yX3_readingsSoIn cX3_readingsSoIn 4 (some .int) 1 22 E (fun s => wS E a s ++ R) [.ref (a 0), .int p0] (((wd, rd, wi, na, so), lt, ng, pl, t1, t2, tr)) (fun v8 s8 => v8 = some (.int (nI (cn (fun r => tb (tr r) u) N))) ∧ s8 = ((wd, rd, wi, na, so), lt, ng, pl, t1, t2, tr)) := by
  refine Ctr.of' (by decide +kernel) (Nat.le_of_ble_eq_true rfl) (fun X P0 hP0 O => ?_)
  refine g_sub [0, 1] (lv' := [(0, .ref (a 0)), (1, .int p0)]) rfl ?_
  refine g_iconst 0 O (v := 0) dX3_readingsSoIn_0 (by decide) ?_
  refine g_istore_n 1 O (lv' := [(2, .int 0), (0, .ref (a 0)), (1, .int p0)]) dX3_readingsSoIn_1 rfl (by decide) rfl ?_
  refine g_iconst 2 O (v := 0) dX3_readingsSoIn_2 (by decide) ?_
  refine g_istore_n 3 O (lv' := [(3, .int 0), (2, .int 0), (0, .ref (a 0)), (1, .int p0)]) dX3_readingsSoIn_3 rfl (by decide) rfl ?_
  refine g_sub [0, 1, 2, 3] (lv' := [(3, .int 0), (2, .int 0), (0, .ref (a 0)), (1, .int p0)]) rfl ?_
  have L4 : ∀ (fuel : Nat) (i : Nat) (hi : i ≤ N), N - i < fuel → G l E (fun s => wS E a s ++ R) P0 X 4 (((wd, rd, wi, na, so), lt, ng, pl, t1, t2, tr)) 4 [(3, .int (nI i)), (2, .int (nI (cn (fun r => tb (tr r) u) i))), (0, .ref (a 0)), (1, .int p0)] [] := by
    intro fuel
    induction fuel with
    | zero => intro i hi hfu; exact absurd hfu (Nat.not_lt_zero _)
    | succ fuel ih4 =>
      intro i hi hfu
      refine g_iload_n 4 O dX3_readingsSoIn_4 rfl 0 rfl ?_
      refine g_aload_n 5 O dX3_readingsSoIn_5 rfl 2 rfl ?_
      refine g_get 6 O (v := .int rd) inX3 0 rfl rfl 7 (by decide) kf_X3_36 rfl dX3_readingsSoIn_6 ?_
      refine g_icmp_ge 9 O 30 dX3_readingsSoIn_9 (by decide) (fun h9 => ?_) (fun h9 => ?_)
      · -- taken
        have e : i = N := by rw [hrd] at h9; have := ge_of_le (by omega) (by omega) h9; omega
        subst e
        refine g_iload_n 30 O dX3_readingsSoIn_30 rfl 1 rfl ?_
        exact g_iret 31 O dX3_readingsSoIn_31 (by rw [hP0]; exact ⟨rfl, rfl⟩)
      · -- not taken
        have hlt : i < N := by rw [hrd] at h9; exact lt_of_nge (by omega) h9
        refine g_iload_n 12 O dX3_readingsSoIn_12 rfl 1 rfl ?_
        refine g_aload_n 13 O dX3_readingsSoIn_13 rfl 2 rfl ?_
        refine g_iload_n 14 O dX3_readingsSoIn_14 rfl 0 rfl ?_
        refine g_callV 15 O (na := 1) (av := [.int (nI i)]) (c_X3_truth l E a R wd rd wi na so lt ng pl t1 t2 tr (nI i) N i hrd hN rfl hlt) kl_X3_124 km_X3_truth kv_X3_truth ki_X3 kc_X3_truth (by decide +kernel) rfl (Nat.le_of_ble_eq_true rfl) (Nat.le_of_ble_eq_true rfl) (fun _ h => h) 0 rfl rfl (fun s => s) (fun _ _ _ _ h => h) rfl (Nat.le_of_ble_eq_true rfl) dX3_readingsSoIn_15 (fun v9 s9 hv9 => ?_)
        obtain ⟨rfl, rfl⟩ := hv9
        refine g_iload_n 18 O dX3_readingsSoIn_18 rfl 3 rfl ?_
        refine g_callN 19 O (na := 2) (av := [.long (tr i), .int p0]) (c_X5_bitOf l E _ _ (tr i) p0) (fun _ h => h.2.2.2.2.2.2.2.2.2.2.2.2.2.2.2.1) ks_X5_bitOf ki_X5 kc_X5_bitOf (by decide +kernel) rfl (Nat.le_of_ble_eq_true rfl) (Nat.le_of_ble_eq_true rfl) (fun _ h => h) (fun s => s) (fun _ _ _ _ h => h) rfl (Nat.le_of_ble_eq_true rfl) dX3_readingsSoIn_19 (fun v9 s9 hv9 => ?_)
        obtain ⟨rfl, rfl⟩ := hv9
        refine g_si (bi (tb (tr i) u)) (by rw [hp]; exact bit64 hu) ?_
        refine g_iadd 22 O dX3_readingsSoIn_22 ?_
        refine g_si (nI (cn (fun r => tb (tr r) u) (i + 1))) (bi_add (p := fun r => tb (tr r) u)) ?_
        refine g_istore_n 23 O (lv' := [(2, .int (nI (cn (fun r => tb (tr r) u) (i + 1)))), (3, .int (nI i)), (0, .ref (a 0)), (1, .int p0)]) dX3_readingsSoIn_23 rfl (by decide) rfl ?_
        refine g_iinc 24 O (v := nI (i + 1)) (q := 1) (lv' := [(3, .int (nI (i + 1))), (2, .int (nI (cn (fun r => tb (tr r) u) (i + 1)))), (0, .ref (a 0)), (1, .int p0)]) dX3_readingsSoIn_24 rfl (nI_1 i) (by decide) rfl ?_
        refine g_goto 27 O 4 dX3_readingsSoIn_27 (by decide) ?_
        refine g_sub [0, 1, 2, 3] (lv' := [(3, .int (nI (i + 1))), (2, .int (nI (cn (fun r => tb (tr r) u) (i + 1)))), (0, .ref (a 0)), (1, .int p0)]) rfl ?_
        exact ih4 (i + 1) (by omega) (by omega)
  exact L4 _ 0 (Nat.zero_le _) (Nat.lt_succ_self _)

theorem bi_1 {b : Bool} (h : bi b = 1) : b = true := by
  cases b with
  | true => rfl
  | false => exact absurd h (by decide)
theorem bi_n1 {b : Bool} (h : ¬ bi b = 1) : b = false := by
  cases b with
  | false => rfl
  | true => exact absurd rfl h
theorem fi_at {p : Nat → Bool} {i n : Nat} (hf : ∀ j, j < i → p j = false) (hi : p i = true) (hn : i < n) : fi p n = nI i := by
  have e : fp (fun k => !p k) n = i := fp_stop (fun j hj => by simp [hf j hj]) (by simp [hi]) (Nat.le_of_lt hn) hn
  rw [fi, e, if_pos hn]
theorem fi_no {p : Nat → Bool} {n : Nat} (hf : ∀ j, j < n → p j = false) : fi p n = -1 := by
  have e : fp (fun k => !p k) n = n := fp_all (fun j hj => by simp [hf j hj])
  rw [fi, e, if_neg (Nat.lt_irrefl _)]

set_option maxRecDepth 100000 in
set_option maxHeartbeats 4000000 in
theorem c_X3_firstReadingSoIn (l : Launch) (E : Ev) (a : Nat → Nat) (R : va_W) (wd rd wi na : Int32) (so : Int64) (lt ng pl : Nat → Int32) (t1 t2 tr : Nat → Int64) (p0 : Int32) (N u : Nat) (hrd : rd = nI N) (hN : N ≤ 640) (hp : p0 = nI u) (hu : u < 64) : Ctr l yX3_firstReadingSoIn cX3_firstReadingSoIn 3 (some .int) 1 22 E (fun s => wS E a s ++ R) [.ref (a 0), .int p0] (((wd, rd, wi, na, so), lt, ng, pl, t1, t2, tr)) (fun v8 s8 => v8 = some (.int (fi (fun r => tb (tr r) u) N)) ∧ s8 = ((wd, rd, wi, na, so), lt, ng, pl, t1, t2, tr)) := by
  refine Ctr.of' (by decide +kernel) (Nat.le_of_ble_eq_true rfl) (fun X P0 hP0 O => ?_)
  refine g_sub [0, 1] (lv' := [(0, .ref (a 0)), (1, .int p0)]) rfl ?_
  refine g_iconst 0 O (v := 0) dX3_firstReadingSoIn_0 (by decide) ?_
  refine g_istore_n 1 O (lv' := [(2, .int 0), (0, .ref (a 0)), (1, .int p0)]) dX3_firstReadingSoIn_1 rfl (by decide) rfl ?_
  refine g_sub [0, 1, 2] (lv' := [(2, .int 0), (0, .ref (a 0)), (1, .int p0)]) rfl ?_
  have L2 : ∀ (fuel : Nat) (i : Nat) (hi : i ≤ N) (hf : ∀ j, j < i → tb (tr j) u = false), N - i < fuel → G l E (fun s => wS E a s ++ R) P0 X 3 (((wd, rd, wi, na, so), lt, ng, pl, t1, t2, tr)) 2 [(2, .int (nI i)), (0, .ref (a 0)), (1, .int p0)] [] := by
    intro fuel
    induction fuel with
    | zero => intro i hi hf hfu; exact absurd hfu (Nat.not_lt_zero _)
    | succ fuel ih2 =>
      intro i hi hf hfu
      refine g_iload_n 2 O dX3_firstReadingSoIn_2 rfl 0 rfl ?_
      refine g_aload_n 3 O dX3_firstReadingSoIn_3 rfl 1 rfl ?_
      refine g_get 4 O (v := .int rd) inX3 0 rfl rfl 7 (by decide) kf_X3_36 rfl dX3_firstReadingSoIn_4 ?_
      refine g_icmp_ge 7 O 31 dX3_firstReadingSoIn_7 (by decide) (fun h7 => ?_) (fun h7 => ?_)
      · -- taken
        have e : i = N := by rw [hrd] at h7; have := ge_of_le (by omega) (by omega) h7; omega
        subst e
        refine g_iconst 31 O (v := (-1)) dX3_firstReadingSoIn_31 (by decide) ?_
        exact g_iret 32 O dX3_firstReadingSoIn_32 (by rw [hP0, fi_no (p := fun r => tb (tr r) u) hf]; exact ⟨rfl, rfl⟩)
      · -- not taken
        have hlt : i < N := by rw [hrd] at h7; exact lt_of_nge (by omega) h7
        refine g_aload_n 10 O dX3_firstReadingSoIn_10 rfl 1 rfl ?_
        refine g_iload_n 11 O dX3_firstReadingSoIn_11 rfl 0 rfl ?_
        refine g_callV 12 O (na := 1) (av := [.int (nI i)]) (c_X3_truth l E a R wd rd wi na so lt ng pl t1 t2 tr (nI i) N i hrd hN rfl hlt) kl_X3_124 km_X3_truth kv_X3_truth ki_X3 kc_X3_truth (by decide +kernel) rfl (Nat.le_of_ble_eq_true rfl) (Nat.le_of_ble_eq_true rfl) (fun _ h => h) 0 rfl rfl (fun s => s) (fun _ _ _ _ h => h) rfl (Nat.le_of_ble_eq_true rfl) dX3_firstReadingSoIn_12 (fun v9 s9 hv9 => ?_)
        obtain ⟨rfl, rfl⟩ := hv9
        refine g_iload_n 15 O dX3_firstReadingSoIn_15 rfl 2 rfl ?_
        refine g_callN 16 O (na := 2) (av := [.long (tr i), .int p0]) (c_X5_bitOf l E _ _ (tr i) p0) (fun _ h => h.2.2.2.2.2.2.2.2.2.2.2.2.2.2.2.1) ks_X5_bitOf ki_X5 kc_X5_bitOf (by decide +kernel) rfl (Nat.le_of_ble_eq_true rfl) (Nat.le_of_ble_eq_true rfl) (fun _ h => h) (fun s => s) (fun _ _ _ _ h => h) rfl (Nat.le_of_ble_eq_true rfl) dX3_firstReadingSoIn_16 (fun v9 s9 hv9 => ?_)
        obtain ⟨rfl, rfl⟩ := hv9
        refine g_si (bi (tb (tr i) u)) (by rw [hp]; exact bit64 hu) ?_
        refine g_iconst 19 O (v := 1) dX3_firstReadingSoIn_19 (by decide) ?_
        refine g_icmp_ne 20 O 25 dX3_firstReadingSoIn_20 (by decide) (fun h20 => ?_) (fun h20 => ?_)
        · -- taken
          refine g_iinc 25 O (v := nI (i + 1)) (q := 0) (lv' := [(2, .int (nI (i + 1))), (0, .ref (a 0)), (1, .int p0)]) dX3_firstReadingSoIn_25 rfl (nI_1 i) (by decide) rfl ?_
          refine g_goto 28 O 2 dX3_firstReadingSoIn_28 (by decide) ?_
          refine g_sub [0, 1, 2] (lv' := [(2, .int (nI (i + 1))), (0, .ref (a 0)), (1, .int p0)]) rfl ?_
          exact ih2 (i + 1) (by omega) (fun j h => by
            rcases Nat.lt_or_ge j i with q | q
            · exact hf j q
            · have e : j = i := by omega
              subst e; exact bi_n1 h20) (by omega)
        · -- not taken
          refine g_iload_n 23 O dX3_firstReadingSoIn_23 rfl 0 rfl ?_
          exact g_iret 24 O dX3_firstReadingSoIn_24 (by rw [hP0, fi_at (p := fun r => tb (tr r) u) hf (bi_1 h20) hlt]; exact ⟨rfl, rfl⟩)
  exact L2 _ 0 (Nat.zero_le _) (fun j h => absurd h (Nat.not_lt_zero _)) (Nat.lt_succ_self _)
end
section
/-! lenses: the world of AsWasSaid with one object (or two) in front -/
def r_s0 (E : Ev) (a : Nat → Nat) (m : Int32 × Int32 × Int32 × Int32) (pg : Pc) (sn : Nat → Int32) (s1 : Sc) (s2 : Sc) (h : Hc) (t : Tc) (im : Int32 × Int32 × Int32) (ih : Hc) (it : Tc) : va_W := wXm a m :: wP E (sh a 1) pg ++ (wXn E a sn :: wS E (sh a 11) s1 ++ (wS E (sh a 18) s2 ++ (wH E (sh a 25) h ++ (wT E (sh a 30) t ++ (wXi a im :: wH E (sh a 33) ih ++ (wT E (sh a 38) it))))))
set_option maxRecDepth 100000 in
set_option maxHeartbeats 4000000 in
theorem to_s0 (E : Ev) (a : Nat → Nat) (m : Int32 × Int32 × Int32 × Int32) (pg : Pc) (sn : Nat → Int32) (s0 : Sc) (s1 : Sc) (s2 : Sc) (h : Hc) (t : Tc) (im : Int32 × Int32 × Int32) (ih : Hc) (it : Tc) (H : Heap) (hw : Wo E (wX E a) (m, pg, sn, s0, s1, s2, h, t, im, ih, it) H) : Wo E (fun s => wS E (sh a 4) s ++ r_s0 E a m pg sn s1 s2 h t im ih it) s0 H := Wo.re [4, 5, 6, 7, 8, 9, 10, 0, 1, 2, 3, 11, 12, 13, 14, 15, 16, 17, 18, 19, 20, 21, 22, 23, 24, 25, 26, 27, 28, 29, 30, 31, 32, 33, 34, 35, 36, 37, 38, 39] rfl rfl H hw
set_option maxRecDepth 100000 in
set_option maxHeartbeats 4000000 in
theorem of_s0 (E : Ev) (a : Nat → Nat) (m : Int32 × Int32 × Int32 × Int32) (pg : Pc) (sn : Nat → Int32) (s1 : Sc) (s2 : Sc) (h : Hc) (t : Tc) (im : Int32 × Int32 × Int32) (ih : Hc) (it : Tc) (s : Sc) (H : Heap) (hw : Wo E (fun s => wS E (sh a 4) s ++ r_s0 E a m pg sn s1 s2 h t im ih it) s H) : Wo E (wX E a) (m, pg, sn, s, s1, s2, h, t, im, ih, it) H := Wo.re [7, 8, 9, 10, 0, 1, 2, 3, 4, 5, 6, 11, 12, 13, 14, 15, 16, 17, 18, 19, 20, 21, 22, 23, 24, 25, 26, 27, 28, 29, 30, 31, 32, 33, 34, 35, 36, 37, 38, 39] rfl rfl H hw
def r_s1 (E : Ev) (a : Nat → Nat) (m : Int32 × Int32 × Int32 × Int32) (pg : Pc) (sn : Nat → Int32) (s0 : Sc) (s2 : Sc) (h : Hc) (t : Tc) (im : Int32 × Int32 × Int32) (ih : Hc) (it : Tc) : va_W := wXm a m :: wP E (sh a 1) pg ++ (wXn E a sn :: wS E (sh a 4) s0 ++ (wS E (sh a 18) s2 ++ (wH E (sh a 25) h ++ (wT E (sh a 30) t ++ (wXi a im :: wH E (sh a 33) ih ++ (wT E (sh a 38) it))))))
set_option maxRecDepth 100000 in
set_option maxHeartbeats 4000000 in
theorem to_s1 (E : Ev) (a : Nat → Nat) (m : Int32 × Int32 × Int32 × Int32) (pg : Pc) (sn : Nat → Int32) (s0 : Sc) (s1 : Sc) (s2 : Sc) (h : Hc) (t : Tc) (im : Int32 × Int32 × Int32) (ih : Hc) (it : Tc) (H : Heap) (hw : Wo E (wX E a) (m, pg, sn, s0, s1, s2, h, t, im, ih, it) H) : Wo E (fun s => wS E (sh a 11) s ++ r_s1 E a m pg sn s0 s2 h t im ih it) s1 H := Wo.re [11, 12, 13, 14, 15, 16, 17, 0, 1, 2, 3, 4, 5, 6, 7, 8, 9, 10, 18, 19, 20, 21, 22, 23, 24, 25, 26, 27, 28, 29, 30, 31, 32, 33, 34, 35, 36, 37, 38, 39] rfl rfl H hw
set_option maxRecDepth 100000 in
set_option maxHeartbeats 4000000 in
theorem of_s1 (E : Ev) (a : Nat → Nat) (m : Int32 × Int32 × Int32 × Int32) (pg : Pc) (sn : Nat → Int32) (s0 : Sc) (s2 : Sc) (h : Hc) (t : Tc) (im : Int32 × Int32 × Int32) (ih : Hc) (it : Tc) (s : Sc) (H : Heap) (hw : Wo E (fun s => wS E (sh a 11) s ++ r_s1 E a m pg sn s0 s2 h t im ih it) s H) : Wo E (wX E a) (m, pg, sn, s0, s, s2, h, t, im, ih, it) H := Wo.re [7, 8, 9, 10, 11, 12, 13, 14, 15, 16, 17, 0, 1, 2, 3, 4, 5, 6, 18, 19, 20, 21, 22, 23, 24, 25, 26, 27, 28, 29, 30, 31, 32, 33, 34, 35, 36, 37, 38, 39] rfl rfl H hw
def r_s2 (E : Ev) (a : Nat → Nat) (m : Int32 × Int32 × Int32 × Int32) (pg : Pc) (sn : Nat → Int32) (s0 : Sc) (s1 : Sc) (h : Hc) (t : Tc) (im : Int32 × Int32 × Int32) (ih : Hc) (it : Tc) : va_W := wXm a m :: wP E (sh a 1) pg ++ (wXn E a sn :: wS E (sh a 4) s0 ++ (wS E (sh a 11) s1 ++ (wH E (sh a 25) h ++ (wT E (sh a 30) t ++ (wXi a im :: wH E (sh a 33) ih ++ (wT E (sh a 38) it))))))
set_option maxRecDepth 100000 in
set_option maxHeartbeats 4000000 in
theorem to_s2 (E : Ev) (a : Nat → Nat) (m : Int32 × Int32 × Int32 × Int32) (pg : Pc) (sn : Nat → Int32) (s0 : Sc) (s1 : Sc) (s2 : Sc) (h : Hc) (t : Tc) (im : Int32 × Int32 × Int32) (ih : Hc) (it : Tc) (H : Heap) (hw : Wo E (wX E a) (m, pg, sn, s0, s1, s2, h, t, im, ih, it) H) : Wo E (fun s => wS E (sh a 18) s ++ r_s2 E a m pg sn s0 s1 h t im ih it) s2 H := Wo.re [18, 19, 20, 21, 22, 23, 24, 0, 1, 2, 3, 4, 5, 6, 7, 8, 9, 10, 11, 12, 13, 14, 15, 16, 17, 25, 26, 27, 28, 29, 30, 31, 32, 33, 34, 35, 36, 37, 38, 39] rfl rfl H hw
set_option maxRecDepth 100000 in
set_option maxHeartbeats 4000000 in
theorem of_s2 (E : Ev) (a : Nat → Nat) (m : Int32 × Int32 × Int32 × Int32) (pg : Pc) (sn : Nat → Int32) (s0 : Sc) (s1 : Sc) (h : Hc) (t : Tc) (im : Int32 × Int32 × Int32) (ih : Hc) (it : Tc) (s : Sc) (H : Heap) (hw : Wo E (fun s => wS E (sh a 18) s ++ r_s2 E a m pg sn s0 s1 h t im ih it) s H) : Wo E (wX E a) (m, pg, sn, s0, s1, s, h, t, im, ih, it) H := Wo.re [7, 8, 9, 10, 11, 12, 13, 14, 15, 16, 17, 18, 19, 20, 21, 22, 23, 24, 0, 1, 2, 3, 4, 5, 6, 25, 26, 27, 28, 29, 30, 31, 32, 33, 34, 35, 36, 37, 38, 39] rfl rfl H hw
def r_h (E : Ev) (a : Nat → Nat) (m : Int32 × Int32 × Int32 × Int32) (pg : Pc) (sn : Nat → Int32) (s0 : Sc) (s1 : Sc) (s2 : Sc) (t : Tc) (im : Int32 × Int32 × Int32) (ih : Hc) (it : Tc) : va_W := wXm a m :: wP E (sh a 1) pg ++ (wXn E a sn :: wS E (sh a 4) s0 ++ (wS E (sh a 11) s1 ++ (wS E (sh a 18) s2 ++ (wT E (sh a 30) t ++ (wXi a im :: wH E (sh a 33) ih ++ (wT E (sh a 38) it))))))
set_option maxRecDepth 100000 in
set_option maxHeartbeats 4000000 in
theorem to_h (E : Ev) (a : Nat → Nat) (m : Int32 × Int32 × Int32 × Int32) (pg : Pc) (sn : Nat → Int32) (s0 : Sc) (s1 : Sc) (s2 : Sc) (h : Hc) (t : Tc) (im : Int32 × Int32 × Int32) (ih : Hc) (it : Tc) (H : Heap) (hw : Wo E (wX E a) (m, pg, sn, s0, s1, s2, h, t, im, ih, it) H) : Wo E (fun s => wH E (sh a 25) s ++ r_h E a m pg sn s0 s1 s2 t im ih it) h H := Wo.re [25, 26, 27, 28, 29, 0, 1, 2, 3, 4, 5, 6, 7, 8, 9, 10, 11, 12, 13, 14, 15, 16, 17, 18, 19, 20, 21, 22, 23, 24, 30, 31, 32, 33, 34, 35, 36, 37, 38, 39] rfl rfl H hw
set_option maxRecDepth 100000 in
set_option maxHeartbeats 4000000 in
theorem of_h (E : Ev) (a : Nat → Nat) (m : Int32 × Int32 × Int32 × Int32) (pg : Pc) (sn : Nat → Int32) (s0 : Sc) (s1 : Sc) (s2 : Sc) (t : Tc) (im : Int32 × Int32 × Int32) (ih : Hc) (it : Tc) (s : Hc) (H : Heap) (hw : Wo E (fun s => wH E (sh a 25) s ++ r_h E a m pg sn s0 s1 s2 t im ih it) s H) : Wo E (wX E a) (m, pg, sn, s0, s1, s2, s, t, im, ih, it) H := Wo.re [5, 6, 7, 8, 9, 10, 11, 12, 13, 14, 15, 16, 17, 18, 19, 20, 21, 22, 23, 24, 25, 26, 27, 28, 29, 0, 1, 2, 3, 4, 30, 31, 32, 33, 34, 35, 36, 37, 38, 39] rfl rfl H hw
def r_t (E : Ev) (a : Nat → Nat) (m : Int32 × Int32 × Int32 × Int32) (pg : Pc) (sn : Nat → Int32) (s0 : Sc) (s1 : Sc) (s2 : Sc) (h : Hc) (im : Int32 × Int32 × Int32) (ih : Hc) (it : Tc) : va_W := wXm a m :: wP E (sh a 1) pg ++ (wXn E a sn :: wS E (sh a 4) s0 ++ (wS E (sh a 11) s1 ++ (wS E (sh a 18) s2 ++ (wH E (sh a 25) h ++ (wXi a im :: wH E (sh a 33) ih ++ (wT E (sh a 38) it))))))
set_option maxRecDepth 100000 in
set_option maxHeartbeats 4000000 in
theorem to_t (E : Ev) (a : Nat → Nat) (m : Int32 × Int32 × Int32 × Int32) (pg : Pc) (sn : Nat → Int32) (s0 : Sc) (s1 : Sc) (s2 : Sc) (h : Hc) (t : Tc) (im : Int32 × Int32 × Int32) (ih : Hc) (it : Tc) (H : Heap) (hw : Wo E (wX E a) (m, pg, sn, s0, s1, s2, h, t, im, ih, it) H) : Wo E (fun s => wT E (sh a 30) s ++ r_t E a m pg sn s0 s1 s2 h im ih it) t H := Wo.re [30, 31, 0, 1, 2, 3, 4, 5, 6, 7, 8, 9, 10, 11, 12, 13, 14, 15, 16, 17, 18, 19, 20, 21, 22, 23, 24, 25, 26, 27, 28, 29, 32, 33, 34, 35, 36, 37, 38, 39] rfl rfl H hw
set_option maxRecDepth 100000 in
set_option maxHeartbeats 4000000 in
theorem of_t (E : Ev) (a : Nat → Nat) (m : Int32 × Int32 × Int32 × Int32) (pg : Pc) (sn : Nat → Int32) (s0 : Sc) (s1 : Sc) (s2 : Sc) (h : Hc) (im : Int32 × Int32 × Int32) (ih : Hc) (it : Tc) (s : Tc) (H : Heap) (hw : Wo E (fun s => wT E (sh a 30) s ++ r_t E a m pg sn s0 s1 s2 h im ih it) s H) : Wo E (wX E a) (m, pg, sn, s0, s1, s2, h, s, im, ih, it) H := Wo.re [2, 3, 4, 5, 6, 7, 8, 9, 10, 11, 12, 13, 14, 15, 16, 17, 18, 19, 20, 21, 22, 23, 24, 25, 26, 27, 28, 29, 30, 31, 0, 1, 32, 33, 34, 35, 36, 37, 38, 39] rfl rfl H hw
def r_pg (E : Ev) (a : Nat → Nat) (m : Int32 × Int32 × Int32 × Int32) (sn : Nat → Int32) (s0 : Sc) (s1 : Sc) (s2 : Sc) (h : Hc) (t : Tc) (im : Int32 × Int32 × Int32) (ih : Hc) (it : Tc) : va_W := wXm a m :: wXn E a sn :: wS E (sh a 4) s0 ++ (wS E (sh a 11) s1 ++ (wS E (sh a 18) s2 ++ (wH E (sh a 25) h ++ (wT E (sh a 30) t ++ (wXi a im :: wH E (sh a 33) ih ++ (wT E (sh a 38) it))))))
set_option maxRecDepth 100000 in
set_option maxHeartbeats 4000000 in
theorem to_pg (E : Ev) (a : Nat → Nat) (m : Int32 × Int32 × Int32 × Int32) (pg : Pc) (sn : Nat → Int32) (s0 : Sc) (s1 : Sc) (s2 : Sc) (h : Hc) (t : Tc) (im : Int32 × Int32 × Int32) (ih : Hc) (it : Tc) (H : Heap) (hw : Wo E (wX E a) (m, pg, sn, s0, s1, s2, h, t, im, ih, it) H) : Wo E (fun s => wP E (sh a 1) s ++ r_pg E a m sn s0 s1 s2 h t im ih it) pg H := Wo.re [1, 2, 0, 3, 4, 5, 6, 7, 8, 9, 10, 11, 12, 13, 14, 15, 16, 17, 18, 19, 20, 21, 22, 23, 24, 25, 26, 27, 28, 29, 30, 31, 32, 33, 34, 35, 36, 37, 38, 39] rfl rfl H hw
set_option maxRecDepth 100000 in
set_option maxHeartbeats 4000000 in
theorem of_pg (E : Ev) (a : Nat → Nat) (m : Int32 × Int32 × Int32 × Int32) (sn : Nat → Int32) (s0 : Sc) (s1 : Sc) (s2 : Sc) (h : Hc) (t : Tc) (im : Int32 × Int32 × Int32) (ih : Hc) (it : Tc) (s : Pc) (H : Heap) (hw : Wo E (fun s => wP E (sh a 1) s ++ r_pg E a m sn s0 s1 s2 h t im ih it) s H) : Wo E (wX E a) (m, s, sn, s0, s1, s2, h, t, im, ih, it) H := Wo.re [2, 0, 1, 3, 4, 5, 6, 7, 8, 9, 10, 11, 12, 13, 14, 15, 16, 17, 18, 19, 20, 21, 22, 23, 24, 25, 26, 27, 28, 29, 30, 31, 32, 33, 34, 35, 36, 37, 38, 39] rfl rfl H hw
def r_s1_s0 (E : Ev) (a : Nat → Nat) (m : Int32 × Int32 × Int32 × Int32) (pg : Pc) (sn : Nat → Int32) (s2 : Sc) (h : Hc) (t : Tc) (im : Int32 × Int32 × Int32) (ih : Hc) (it : Tc) : va_W := wXm a m :: wP E (sh a 1) pg ++ (wXn E a sn :: wS E (sh a 18) s2 ++ (wH E (sh a 25) h ++ (wT E (sh a 30) t ++ (wXi a im :: wH E (sh a 33) ih ++ (wT E (sh a 38) it)))))
set_option maxRecDepth 100000 in
set_option maxHeartbeats 4000000 in
theorem to_s1_s0 (E : Ev) (a : Nat → Nat) (m : Int32 × Int32 × Int32 × Int32) (pg : Pc) (sn : Nat → Int32) (s0 : Sc) (s1 : Sc) (s2 : Sc) (h : Hc) (t : Tc) (im : Int32 × Int32 × Int32) (ih : Hc) (it : Tc) (H : Heap) (hw : Wo E (wX E a) (m, pg, sn, s0, s1, s2, h, t, im, ih, it) H) : Wo E (fun s => wS E (sh a 11) s ++ (wS E (sh a 4) s0 ++ r_s1_s0 E a m pg sn s2 h t im ih it)) s1 H := Wo.re [11, 12, 13, 14, 15, 16, 17, 4, 5, 6, 7, 8, 9, 10, 0, 1, 2, 3, 18, 19, 20, 21, 22, 23, 24, 25, 26, 27, 28, 29, 30, 31, 32, 33, 34, 35, 36, 37, 38, 39] rfl rfl H hw
set_option maxRecDepth 100000 in
set_option maxHeartbeats 4000000 in
theorem of_s1_s0 (E : Ev) (a : Nat → Nat) (m : Int32 × Int32 × Int32 × Int32) (pg : Pc) (sn : Nat → Int32) (s0 : Sc) (s2 : Sc) (h : Hc) (t : Tc) (im : Int32 × Int32 × Int32) (ih : Hc) (it : Tc) (s : Sc) (H : Heap) (hw : Wo E (fun s => wS E (sh a 11) s ++ (wS E (sh a 4) s0 ++ r_s1_s0 E a m pg sn s2 h t im ih it)) s H) : Wo E (wX E a) (m, pg, sn, s0, s, s2, h, t, im, ih, it) H := Wo.re [14, 15, 16, 17, 7, 8, 9, 10, 11, 12, 13, 0, 1, 2, 3, 4, 5, 6, 18, 19, 20, 21, 22, 23, 24, 25, 26, 27, 28, 29, 30, 31, 32, 33, 34, 35, 36, 37, 38, 39] rfl rfl H hw
def r_s0_pg (E : Ev) (a : Nat → Nat) (m : Int32 × Int32 × Int32 × Int32) (sn : Nat → Int32) (s1 : Sc) (s2 : Sc) (h : Hc) (t : Tc) (im : Int32 × Int32 × Int32) (ih : Hc) (it : Tc) : va_W := wXm a m :: wXn E a sn :: wS E (sh a 11) s1 ++ (wS E (sh a 18) s2 ++ (wH E (sh a 25) h ++ (wT E (sh a 30) t ++ (wXi a im :: wH E (sh a 33) ih ++ (wT E (sh a 38) it)))))
set_option maxRecDepth 100000 in
set_option maxHeartbeats 4000000 in
theorem to_s0_pg (E : Ev) (a : Nat → Nat) (m : Int32 × Int32 × Int32 × Int32) (pg : Pc) (sn : Nat → Int32) (s0 : Sc) (s1 : Sc) (s2 : Sc) (h : Hc) (t : Tc) (im : Int32 × Int32 × Int32) (ih : Hc) (it : Tc) (H : Heap) (hw : Wo E (wX E a) (m, pg, sn, s0, s1, s2, h, t, im, ih, it) H) : Wo E (fun s => wS E (sh a 4) s ++ (wP E (sh a 1) pg ++ r_s0_pg E a m sn s1 s2 h t im ih it)) s0 H := Wo.re [4, 5, 6, 7, 8, 9, 10, 1, 2, 0, 3, 11, 12, 13, 14, 15, 16, 17, 18, 19, 20, 21, 22, 23, 24, 25, 26, 27, 28, 29, 30, 31, 32, 33, 34, 35, 36, 37, 38, 39] rfl rfl H hw
set_option maxRecDepth 100000 in
set_option maxHeartbeats 4000000 in
theorem of_s0_pg (E : Ev) (a : Nat → Nat) (m : Int32 × Int32 × Int32 × Int32) (pg : Pc) (sn : Nat → Int32) (s1 : Sc) (s2 : Sc) (h : Hc) (t : Tc) (im : Int32 × Int32 × Int32) (ih : Hc) (it : Tc) (s : Sc) (H : Heap) (hw : Wo E (fun s => wS E (sh a 4) s ++ (wP E (sh a 1) pg ++ r_s0_pg E a m sn s1 s2 h t im ih it)) s H) : Wo E (wX E a) (m, pg, sn, s, s1, s2, h, t, im, ih, it) H := Wo.re [9, 7, 8, 10, 0, 1, 2, 3, 4, 5, 6, 11, 12, 13, 14, 15, 16, 17, 18, 19, 20, 21, 22, 23, 24, 25, 26, 27, 28, 29, 30, 31, 32, 33, 34, 35, 36, 37, 38, 39] rfl rfl H hw
def r_s0_sn (E : Ev) (a : Nat → Nat) (m : Int32 × Int32 × Int32 × Int32) (pg : Pc) (s1 : Sc) (s2 : Sc) (h : Hc) (t : Tc) (im : Int32 × Int32 × Int32) (ih : Hc) (it : Tc) : va_W := wXm a m :: wP E (sh a 1) pg ++ (wS E (sh a 11) s1 ++ (wS E (sh a 18) s2 ++ (wH E (sh a 25) h ++ (wT E (sh a 30) t ++ (wXi a im :: wH E (sh a 33) ih ++ (wT E (sh a 38) it))))))
set_option maxRecDepth 100000 in
set_option maxHeartbeats 4000000 in
theorem to_s0_sn (E : Ev) (a : Nat → Nat) (m : Int32 × Int32 × Int32 × Int32) (pg : Pc) (sn : Nat → Int32) (s0 : Sc) (s1 : Sc) (s2 : Sc) (h : Hc) (t : Tc) (im : Int32 × Int32 × Int32) (ih : Hc) (it : Tc) (H : Heap) (hw : Wo E (wX E a) (m, pg, sn, s0, s1, s2, h, t, im, ih, it) H) : Wo E (fun s => wS E (sh a 4) s ++ (wXn E a sn :: r_s0_sn E a m pg s1 s2 h t im ih it)) s0 H := Wo.re [4, 5, 6, 7, 8, 9, 10, 3, 0, 1, 2, 11, 12, 13, 14, 15, 16, 17, 18, 19, 20, 21, 22, 23, 24, 25, 26, 27, 28, 29, 30, 31, 32, 33, 34, 35, 36, 37, 38, 39] rfl rfl H hw
set_option maxRecDepth 100000 in
set_option maxHeartbeats 4000000 in
theorem of_s0_sn (E : Ev) (a : Nat → Nat) (m : Int32 × Int32 × Int32 × Int32) (pg : Pc) (sn : Nat → Int32) (s1 : Sc) (s2 : Sc) (h : Hc) (t : Tc) (im : Int32 × Int32 × Int32) (ih : Hc) (it : Tc) (s : Sc) (H : Heap) (hw : Wo E (fun s => wS E (sh a 4) s ++ (wXn E a sn :: r_s0_sn E a m pg s1 s2 h t im ih it)) s H) : Wo E (wX E a) (m, pg, sn, s, s1, s2, h, t, im, ih, it) H := Wo.re [8, 9, 10, 7, 0, 1, 2, 3, 4, 5, 6, 11, 12, 13, 14, 15, 16, 17, 18, 19, 20, 21, 22, 23, 24, 25, 26, 27, 28, 29, 30, 31, 32, 33, 34, 35, 36, 37, 38, 39] rfl rfl H hw
def r_s1_sn (E : Ev) (a : Nat → Nat) (m : Int32 × Int32 × Int32 × Int32) (pg : Pc) (s0 : Sc) (s2 : Sc) (h : Hc) (t : Tc) (im : Int32 × Int32 × Int32) (ih : Hc) (it : Tc) : va_W := wXm a m :: wP E (sh a 1) pg ++ (wS E (sh a 4) s0 ++ (wS E (sh a 18) s2 ++ (wH E (sh a 25) h ++ (wT E (sh a 30) t ++ (wXi a im :: wH E (sh a 33) ih ++ (wT E (sh a 38) it))))))
set_option maxRecDepth 100000 in
set_option maxHeartbeats 4000000 in
theorem to_s1_sn (E : Ev) (a : Nat → Nat) (m : Int32 × Int32 × Int32 × Int32) (pg : Pc) (sn : Nat → Int32) (s0 : Sc) (s1 : Sc) (s2 : Sc) (h : Hc) (t : Tc) (im : Int32 × Int32 × Int32) (ih : Hc) (it : Tc) (H : Heap) (hw : Wo E (wX E a) (m, pg, sn, s0, s1, s2, h, t, im, ih, it) H) : Wo E (fun s => wS E (sh a 11) s ++ (wXn E a sn :: r_s1_sn E a m pg s0 s2 h t im ih it)) s1 H := Wo.re [11, 12, 13, 14, 15, 16, 17, 3, 0, 1, 2, 4, 5, 6, 7, 8, 9, 10, 18, 19, 20, 21, 22, 23, 24, 25, 26, 27, 28, 29, 30, 31, 32, 33, 34, 35, 36, 37, 38, 39] rfl rfl H hw
set_option maxRecDepth 100000 in
set_option maxHeartbeats 4000000 in
theorem of_s1_sn (E : Ev) (a : Nat → Nat) (m : Int32 × Int32 × Int32 × Int32) (pg : Pc) (sn : Nat → Int32) (s0 : Sc) (s2 : Sc) (h : Hc) (t : Tc) (im : Int32 × Int32 × Int32) (ih : Hc) (it : Tc) (s : Sc) (H : Heap) (hw : Wo E (fun s => wS E (sh a 11) s ++ (wXn E a sn :: r_s1_sn E a m pg s0 s2 h t im ih it)) s H) : Wo E (wX E a) (m, pg, sn, s0, s, s2, h, t, im, ih, it) H := Wo.re [8, 9, 10, 7, 11, 12, 13, 14, 15, 16, 17, 0, 1, 2, 3, 4, 5, 6, 18, 19, 20, 21, 22, 23, 24, 25, 26, 27, 28, 29, 30, 31, 32, 33, 34, 35, 36, 37, 38, 39] rfl rfl H hw
def r_s2_sn (E : Ev) (a : Nat → Nat) (m : Int32 × Int32 × Int32 × Int32) (pg : Pc) (s0 : Sc) (s1 : Sc) (h : Hc) (t : Tc) (im : Int32 × Int32 × Int32) (ih : Hc) (it : Tc) : va_W := wXm a m :: wP E (sh a 1) pg ++ (wS E (sh a 4) s0 ++ (wS E (sh a 11) s1 ++ (wH E (sh a 25) h ++ (wT E (sh a 30) t ++ (wXi a im :: wH E (sh a 33) ih ++ (wT E (sh a 38) it))))))
set_option maxRecDepth 100000 in
set_option maxHeartbeats 4000000 in
theorem to_s2_sn (E : Ev) (a : Nat → Nat) (m : Int32 × Int32 × Int32 × Int32) (pg : Pc) (sn : Nat → Int32) (s0 : Sc) (s1 : Sc) (s2 : Sc) (h : Hc) (t : Tc) (im : Int32 × Int32 × Int32) (ih : Hc) (it : Tc) (H : Heap) (hw : Wo E (wX E a) (m, pg, sn, s0, s1, s2, h, t, im, ih, it) H) : Wo E (fun s => wS E (sh a 18) s ++ (wXn E a sn :: r_s2_sn E a m pg s0 s1 h t im ih it)) s2 H := Wo.re [18, 19, 20, 21, 22, 23, 24, 3, 0, 1, 2, 4, 5, 6, 7, 8, 9, 10, 11, 12, 13, 14, 15, 16, 17, 25, 26, 27, 28, 29, 30, 31, 32, 33, 34, 35, 36, 37, 38, 39] rfl rfl H hw
set_option maxRecDepth 100000 in
set_option maxHeartbeats 4000000 in
theorem of_s2_sn (E : Ev) (a : Nat → Nat) (m : Int32 × Int32 × Int32 × Int32) (pg : Pc) (sn : Nat → Int32) (s0 : Sc) (s1 : Sc) (h : Hc) (t : Tc) (im : Int32 × Int32 × Int32) (ih : Hc) (it : Tc) (s : Sc) (H : Heap) (hw : Wo E (fun s => wS E (sh a 18) s ++ (wXn E a sn :: r_s2_sn E a m pg s0 s1 h t im ih it)) s H) : Wo E (wX E a) (m, pg, sn, s0, s1, s, h, t, im, ih, it) H := Wo.re [8, 9, 10, 7, 11, 12, 13, 14, 15, 16, 17, 18, 19, 20, 21, 22, 23, 24, 0, 1, 2, 3, 4, 5, 6, 25, 26, 27, 28, 29, 30, 31, 32, 33, 34, 35, 36, 37, 38, 39] rfl rfl H hw
def r_s2_s0 (E : Ev) (a : Nat → Nat) (m : Int32 × Int32 × Int32 × Int32) (pg : Pc) (sn : Nat → Int32) (s1 : Sc) (h : Hc) (t : Tc) (im : Int32 × Int32 × Int32) (ih : Hc) (it : Tc) : va_W := wXm a m :: wP E (sh a 1) pg ++ (wXn E a sn :: wS E (sh a 11) s1 ++ (wH E (sh a 25) h ++ (wT E (sh a 30) t ++ (wXi a im :: wH E (sh a 33) ih ++ (wT E (sh a 38) it)))))
set_option maxRecDepth 100000 in
set_option maxHeartbeats 4000000 in
theorem to_s2_s0 (E : Ev) (a : Nat → Nat) (m : Int32 × Int32 × Int32 × Int32) (pg : Pc) (sn : Nat → Int32) (s0 : Sc) (s1 : Sc) (s2 : Sc) (h : Hc) (t : Tc) (im : Int32 × Int32 × Int32) (ih : Hc) (it : Tc) (H : Heap) (hw : Wo E (wX E a) (m, pg, sn, s0, s1, s2, h, t, im, ih, it) H) : Wo E (fun s => wS E (sh a 18) s ++ (wS E (sh a 4) s0 ++ r_s2_s0 E a m pg sn s1 h t im ih it)) s2 H := Wo.re [18, 19, 20, 21, 22, 23, 24, 4, 5, 6, 7, 8, 9, 10, 0, 1, 2, 3, 11, 12, 13, 14, 15, 16, 17, 25, 26, 27, 28, 29, 30, 31, 32, 33, 34, 35, 36, 37, 38, 39] rfl rfl H hw
set_option maxRecDepth 100000 in
set_option maxHeartbeats 4000000 in
theorem of_s2_s0 (E : Ev) (a : Nat → Nat) (m : Int32 × Int32 × Int32 × Int32) (pg : Pc) (sn : Nat → Int32) (s0 : Sc) (s1 : Sc) (h : Hc) (t : Tc) (im : Int32 × Int32 × Int32) (ih : Hc) (it : Tc) (s : Sc) (H : Heap) (hw : Wo E (fun s => wS E (sh a 18) s ++ (wS E (sh a 4) s0 ++ r_s2_s0 E a m pg sn s1 h t im ih it)) s H) : Wo E (wX E a) (m, pg, sn, s0, s1, s, h, t, im, ih, it) H := Wo.re [14, 15, 16, 17, 7, 8, 9, 10, 11, 12, 13, 18, 19, 20, 21, 22, 23, 24, 0, 1, 2, 3, 4, 5, 6, 25, 26, 27, 28, 29, 30, 31, 32, 33, 34, 35, 36, 37, 38, 39] rfl rfl H hw
def r_ih_h (E : Ev) (a : Nat → Nat) (m : Int32 × Int32 × Int32 × Int32) (pg : Pc) (sn : Nat → Int32) (s0 : Sc) (s1 : Sc) (s2 : Sc) (t : Tc) (im : Int32 × Int32 × Int32) (it : Tc) : va_W := wXm a m :: wP E (sh a 1) pg ++ (wXn E a sn :: wS E (sh a 4) s0 ++ (wS E (sh a 11) s1 ++ (wS E (sh a 18) s2 ++ (wT E (sh a 30) t ++ (wXi a im :: wT E (sh a 38) it)))))
set_option maxRecDepth 100000 in
set_option maxHeartbeats 4000000 in
theorem to_ih_h (E : Ev) (a : Nat → Nat) (m : Int32 × Int32 × Int32 × Int32) (pg : Pc) (sn : Nat → Int32) (s0 : Sc) (s1 : Sc) (s2 : Sc) (h : Hc) (t : Tc) (im : Int32 × Int32 × Int32) (ih : Hc) (it : Tc) (H : Heap) (hw : Wo E (wX E a) (m, pg, sn, s0, s1, s2, h, t, im, ih, it) H) : Wo E (fun s => wH E (sh a 33) s ++ (wH E (sh a 25) h ++ r_ih_h E a m pg sn s0 s1 s2 t im it)) ih H := Wo.re [33, 34, 35, 36, 37, 25, 26, 27, 28, 29, 0, 1, 2, 3, 4, 5, 6, 7, 8, 9, 10, 11, 12, 13, 14, 15, 16, 17, 18, 19, 20, 21, 22, 23, 24, 30, 31, 32, 38, 39] rfl rfl H hw
set_option maxRecDepth 100000 in
set_option maxHeartbeats 4000000 in
theorem of_ih_h (E : Ev) (a : Nat → Nat) (m : Int32 × Int32 × Int32 × Int32) (pg : Pc) (sn : Nat → Int32) (s0 : Sc) (s1 : Sc) (s2 : Sc) (h : Hc) (t : Tc) (im : Int32 × Int32 × Int32) (it : Tc) (s : Hc) (H : Heap) (hw : Wo E (fun s => wH E (sh a 33) s ++ (wH E (sh a 25) h ++ r_ih_h E a m pg sn s0 s1 s2 t im it)) s H) : Wo E (wX E a) (m, pg, sn, s0, s1, s2, h, t, im, s, it) H := Wo.re [10, 11, 12, 13, 14, 15, 16, 17, 18, 19, 20, 21, 22, 23, 24, 25, 26, 27, 28, 29, 30, 31, 32, 33, 34, 5, 6, 7, 8, 9, 35, 36, 37, 0, 1, 2, 3, 4, 38, 39] rfl rfl H hw
def r_h_ih (E : Ev) (a : Nat → Nat) (m : Int32 × Int32 × Int32 × Int32) (pg : Pc) (sn : Nat → Int32) (s0 : Sc) (s1 : Sc) (s2 : Sc) (t : Tc) (im : Int32 × Int32 × Int32) (it : Tc) : va_W := wXm a m :: wP E (sh a 1) pg ++ (wXn E a sn :: wS E (sh a 4) s0 ++ (wS E (sh a 11) s1 ++ (wS E (sh a 18) s2 ++ (wT E (sh a 30) t ++ (wXi a im :: wT E (sh a 38) it)))))
set_option maxRecDepth 100000 in
set_option maxHeartbeats 4000000 in
theorem to_h_ih (E : Ev) (a : Nat → Nat) (m : Int32 × Int32 × Int32 × Int32) (pg : Pc) (sn : Nat → Int32) (s0 : Sc) (s1 : Sc) (s2 : Sc) (h : Hc) (t : Tc) (im : Int32 × Int32 × Int32) (ih : Hc) (it : Tc) (H : Heap) (hw : Wo E (wX E a) (m, pg, sn, s0, s1, s2, h, t, im, ih, it) H) : Wo E (fun s => wH E (sh a 25) s ++ (wH E (sh a 33) ih ++ r_h_ih E a m pg sn s0 s1 s2 t im it)) h H := Wo.re [25, 26, 27, 28, 29, 33, 34, 35, 36, 37, 0, 1, 2, 3, 4, 5, 6, 7, 8, 9, 10, 11, 12, 13, 14, 15, 16, 17, 18, 19, 20, 21, 22, 23, 24, 30, 31, 32, 38, 39] rfl rfl H hw
set_option maxRecDepth 100000 in
set_option maxHeartbeats 4000000 in
theorem of_h_ih (E : Ev) (a : Nat → Nat) (m : Int32 × Int32 × Int32 × Int32) (pg : Pc) (sn : Nat → Int32) (s0 : Sc) (s1 : Sc) (s2 : Sc) (t : Tc) (im : Int32 × Int32 × Int32) (ih : Hc) (it : Tc) (s : Hc) (H : Heap) (hw : Wo E (fun s => wH E (sh a 25) s ++ (wH E (sh a 33) ih ++ r_h_ih E a m pg sn s0 s1 s2 t im it)) s H) : Wo E (wX E a) (m, pg, sn, s0, s1, s2, s, t, im, ih, it) H := Wo.re [10, 11, 12, 13, 14, 15, 16, 17, 18, 19, 20, 21, 22, 23, 24, 25, 26, 27, 28, 29, 30, 31, 32, 33, 34, 0, 1, 2, 3, 4, 35, 36, 37, 5, 6, 7, 8, 9, 38, 39] rfl rfl H hw
def r_it_t (E : Ev) (a : Nat → Nat) (m : Int32 × Int32 × Int32 × Int32) (pg : Pc) (sn : Nat → Int32) (s0 : Sc) (s1 : Sc) (s2 : Sc) (h : Hc) (im : Int32 × Int32 × Int32) (ih : Hc) : va_W := wXm a m :: wP E (sh a 1) pg ++ (wXn E a sn :: wS E (sh a 4) s0 ++ (wS E (sh a 11) s1 ++ (wS E (sh a 18) s2 ++ (wH E (sh a 25) h ++ (wXi a im :: wH E (sh a 33) ih)))))
set_option maxRecDepth 100000 in
set_option maxHeartbeats 4000000 in
theorem to_it_t (E : Ev) (a : Nat → Nat) (m : Int32 × Int32 × Int32 × Int32) (pg : Pc) (sn : Nat → Int32) (s0 : Sc) (s1 : Sc) (s2 : Sc) (h : Hc) (t : Tc) (im : Int32 × Int32 × Int32) (ih : Hc) (it : Tc) (H : Heap) (hw : Wo E (wX E a) (m, pg, sn, s0, s1, s2, h, t, im, ih, it) H) : Wo E (fun s => wT E (sh a 38) s ++ (wT E (sh a 30) t ++ r_it_t E a m pg sn s0 s1 s2 h im ih)) it H := Wo.re [38, 39, 30, 31, 0, 1, 2, 3, 4, 5, 6, 7, 8, 9, 10, 11, 12, 13, 14, 15, 16, 17, 18, 19, 20, 21, 22, 23, 24, 25, 26, 27, 28, 29, 32, 33, 34, 35, 36, 37] rfl rfl H hw
set_option maxRecDepth 100000 in
set_option maxHeartbeats 4000000 in
theorem of_it_t (E : Ev) (a : Nat → Nat) (m : Int32 × Int32 × Int32 × Int32) (pg : Pc) (sn : Nat → Int32) (s0 : Sc) (s1 : Sc) (s2 : Sc) (h : Hc) (t : Tc) (im : Int32 × Int32 × Int32) (ih : Hc) (s : Tc) (H : Heap) (hw : Wo E (fun s => wT E (sh a 38) s ++ (wT E (sh a 30) t ++ r_it_t E a m pg sn s0 s1 s2 h im ih)) s H) : Wo E (wX E a) (m, pg, sn, s0, s1, s2, h, t, im, ih, s) H := Wo.re [4, 5, 6, 7, 8, 9, 10, 11, 12, 13, 14, 15, 16, 17, 18, 19, 20, 21, 22, 23, 24, 25, 26, 27, 28, 29, 30, 31, 32, 33, 2, 3, 34, 35, 36, 37, 38, 39, 0, 1] rfl rfl H hw
def r_t_it (E : Ev) (a : Nat → Nat) (m : Int32 × Int32 × Int32 × Int32) (pg : Pc) (sn : Nat → Int32) (s0 : Sc) (s1 : Sc) (s2 : Sc) (h : Hc) (im : Int32 × Int32 × Int32) (ih : Hc) : va_W := wXm a m :: wP E (sh a 1) pg ++ (wXn E a sn :: wS E (sh a 4) s0 ++ (wS E (sh a 11) s1 ++ (wS E (sh a 18) s2 ++ (wH E (sh a 25) h ++ (wXi a im :: wH E (sh a 33) ih)))))
set_option maxRecDepth 100000 in
set_option maxHeartbeats 4000000 in
theorem to_t_it (E : Ev) (a : Nat → Nat) (m : Int32 × Int32 × Int32 × Int32) (pg : Pc) (sn : Nat → Int32) (s0 : Sc) (s1 : Sc) (s2 : Sc) (h : Hc) (t : Tc) (im : Int32 × Int32 × Int32) (ih : Hc) (it : Tc) (H : Heap) (hw : Wo E (wX E a) (m, pg, sn, s0, s1, s2, h, t, im, ih, it) H) : Wo E (fun s => wT E (sh a 30) s ++ (wT E (sh a 38) it ++ r_t_it E a m pg sn s0 s1 s2 h im ih)) t H := Wo.re [30, 31, 38, 39, 0, 1, 2, 3, 4, 5, 6, 7, 8, 9, 10, 11, 12, 13, 14, 15, 16, 17, 18, 19, 20, 21, 22, 23, 24, 25, 26, 27, 28, 29, 32, 33, 34, 35, 36, 37] rfl rfl H hw
set_option maxRecDepth 100000 in
set_option maxHeartbeats 4000000 in
theorem of_t_it (E : Ev) (a : Nat → Nat) (m : Int32 × Int32 × Int32 × Int32) (pg : Pc) (sn : Nat → Int32) (s0 : Sc) (s1 : Sc) (s2 : Sc) (h : Hc) (im : Int32 × Int32 × Int32) (ih : Hc) (it : Tc) (s : Tc) (H : Heap) (hw : Wo E (fun s => wT E (sh a 30) s ++ (wT E (sh a 38) it ++ r_t_it E a m pg sn s0 s1 s2 h im ih)) s H) : Wo E (wX E a) (m, pg, sn, s0, s1, s2, h, s, im, ih, it) H := Wo.re [4, 5, 6, 7, 8, 9, 10, 11, 12, 13, 14, 15, 16, 17, 18, 19, 20, 21, 22, 23, 24, 25, 26, 27, 28, 29, 30, 31, 32, 33, 0, 1, 34, 35, 36, 37, 38, 39, 2, 3] rfl rfl H hw
end
