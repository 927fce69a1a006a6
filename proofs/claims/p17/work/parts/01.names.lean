-- ===== PART A: goes FIRST, ahead of the names: the tables' words, and 'selects' of the private methods out of them =====
/-- a private method of a class that the tables say can be made, by its rows of tables_1 -/
def lw_okq (q : MethodName × Nat) : Prop := (q.1.cls ≠ "java/lang/invoke/MethodHandle" ∧ q.1.cls ≠ "java/lang/invoke/VarHandle") ∧ Cond.instantiable q.1.cls q.2 ∈ tables_1 ∧ Cond.privateMethod q.1 ∈ tables_1 ∧ Cond.instanceMethod q.1 ∈ tables_1
theorem lw_p0 : lw_okq (⟨"MoreEven", "townAt", "(I)LMoreEven$Town;"⟩, 7) := ⟨⟨by decide +kernel, by decide +kernel⟩, List.mem_of_getElem? (i := 14) (by decide +kernel), List.mem_of_getElem? (i := 200) (by decide +kernel), List.mem_of_getElem? (i := 201) (by decide +kernel)⟩
theorem lw_p1 : lw_okq (⟨"MoreEven$Curve", "insert", "(JJ)V"⟩, 8) := ⟨⟨by decide +kernel, by decide +kernel⟩, List.mem_of_getElem? (i := 48) (by decide +kernel), List.mem_of_getElem? (i := 267) (by decide +kernel), List.mem_of_getElem? (i := 268) (by decide +kernel)⟩
theorem lw_p2 : lw_okq (⟨"MoreEven$Curve", "giveEachOne", "()V"⟩, 8) := ⟨⟨by decide +kernel, by decide +kernel⟩, List.mem_of_getElem? (i := 48) (by decide +kernel), List.mem_of_getElem? (i := 271) (by decide +kernel), List.mem_of_getElem? (i := 272) (by decide +kernel)⟩
theorem lw_p3 : lw_okq (⟨"MoreEven$Walk", "start", "(I)V"⟩, 6) := ⟨⟨by decide +kernel, by decide +kernel⟩, List.mem_of_getElem? (i := 42) (by decide +kernel), List.mem_of_getElem? (i := 279) (by decide +kernel), List.mem_of_getElem? (i := 280) (by decide +kernel)⟩
theorem lw_p4 : lw_okq (⟨"MoreEven$Walk", "toNextBreak", "()Z"⟩, 6) := ⟨⟨by decide +kernel, by decide +kernel⟩, List.mem_of_getElem? (i := 42) (by decide +kernel), List.mem_of_getElem? (i := 287) (by decide +kernel), List.mem_of_getElem? (i := 288) (by decide +kernel)⟩
theorem lw_p5 : lw_okq (⟨"MoreEven$Coins", "putDue", "(LMoreEven$Town;LMoreEven$Town;I)V"⟩, 4) := ⟨⟨by decide +kernel, by decide +kernel⟩, List.mem_of_getElem? (i := 104) (by decide +kernel), List.mem_of_getElem? (i := 358) (by decide +kernel), List.mem_of_getElem? (i := 359) (by decide +kernel)⟩
theorem lw_p6 : lw_okq (⟨"MoreEven$Coins", "findSums", "(I)V"⟩, 4) := ⟨⟨by decide +kernel, by decide +kernel⟩, List.mem_of_getElem? (i := 104) (by decide +kernel), List.mem_of_getElem? (i := 365) (by decide +kernel), List.mem_of_getElem? (i := 366) (by decide +kernel)⟩
theorem lw_p7 : lw_okq (⟨"MoreEven$Coins", "mostGroups", "(I)I"⟩, 4) := ⟨⟨by decide +kernel, by decide +kernel⟩, List.mem_of_getElem? (i := 104) (by decide +kernel), List.mem_of_getElem? (i := 369) (by decide +kernel), List.mem_of_getElem? (i := 370) (by decide +kernel)⟩
theorem lw_p8 : lw_okq (⟨"MoreEven", "someCoinMakesGreater", "(II)Z"⟩, 7) := ⟨⟨by decide +kernel, by decide +kernel⟩, List.mem_of_getElem? (i := 14) (by decide +kernel), List.mem_of_getElem? (i := 448) (by decide +kernel), List.mem_of_getElem? (i := 449) (by decide +kernel)⟩
theorem lw_p9 : lw_okq (⟨"MoreEven", "coinMakesGreater", "(IIII)Z"⟩, 7) := ⟨⟨by decide +kernel, by decide +kernel⟩, List.mem_of_getElem? (i := 14) (by decide +kernel), List.mem_of_getElem? (i := 452) (by decide +kernel), List.mem_of_getElem? (i := 453) (by decide +kernel)⟩
theorem lw_p10 : lw_okq (⟨"MoreEven", "timesTold", "(LMoreEven$Town;III)I"⟩, 7) := ⟨⟨by decide +kernel, by decide +kernel⟩, List.mem_of_getElem? (i := 14) (by decide +kernel), List.mem_of_getElem? (i := 481) (by decide +kernel), List.mem_of_getElem? (i := 482) (by decide +kernel)⟩
theorem lw_p11 : lw_okq (⟨"MoreEven", "allTold", "(LMoreEven$Town;II)I"⟩, 7) := ⟨⟨by decide +kernel, by decide +kernel⟩, List.mem_of_getElem? (i := 14) (by decide +kernel), List.mem_of_getElem? (i := 497) (by decide +kernel), List.mem_of_getElem? (i := 498) (by decide +kernel)⟩
theorem lw_p12 : lw_okq (⟨"MoreEven$Answers", "settlingOf", "(LMoreEven$Town;I)I"⟩, 1) := ⟨⟨by decide +kernel, by decide +kernel⟩, List.mem_of_getElem? (i := 124) (by decide +kernel), List.mem_of_getElem? (i := 510) (by decide +kernel), List.mem_of_getElem? (i := 511) (by decide +kernel)⟩
theorem lw_p13 : lw_okq (⟨"MoreEven$Bands", "nextFrom", "(I)I"⟩, 3) := ⟨⟨by decide +kernel, by decide +kernel⟩, List.mem_of_getElem? (i := 24) (by decide +kernel), List.mem_of_getElem? (i := 592) (by decide +kernel), List.mem_of_getElem? (i := 593) (by decide +kernel)⟩
theorem lw_p14 : lw_okq (⟨"MoreEven$Bands", "isToldAgain", "(I)Z"⟩, 3) := ⟨⟨by decide +kernel, by decide +kernel⟩, List.mem_of_getElem? (i := 24) (by decide +kernel), List.mem_of_getElem? (i := 597) (by decide +kernel), List.mem_of_getElem? (i := 598) (by decide +kernel)⟩
theorem lw_p15 : lw_okq (⟨"MoreEven", "allFamilies", "()I"⟩, 7) := ⟨⟨by decide +kernel, by decide +kernel⟩, List.mem_of_getElem? (i := 14) (by decide +kernel), List.mem_of_getElem? (i := 613) (by decide +kernel), List.mem_of_getElem? (i := 614) (by decide +kernel)⟩
def lw_privs_1 : List (MethodName × Nat) := [(⟨"MoreEven", "townAt", "(I)LMoreEven$Town;"⟩, 7), (⟨"MoreEven$Curve", "insert", "(JJ)V"⟩, 8), (⟨"MoreEven$Curve", "giveEachOne", "()V"⟩, 8), (⟨"MoreEven$Walk", "start", "(I)V"⟩, 6), (⟨"MoreEven$Walk", "toNextBreak", "()Z"⟩, 6), (⟨"MoreEven$Coins", "putDue", "(LMoreEven$Town;LMoreEven$Town;I)V"⟩, 4), (⟨"MoreEven$Coins", "findSums", "(I)V"⟩, 4), (⟨"MoreEven$Coins", "mostGroups", "(I)I"⟩, 4), (⟨"MoreEven", "someCoinMakesGreater", "(II)Z"⟩, 7), (⟨"MoreEven", "coinMakesGreater", "(IIII)Z"⟩, 7), (⟨"MoreEven", "timesTold", "(LMoreEven$Town;III)I"⟩, 7), (⟨"MoreEven", "allTold", "(LMoreEven$Town;II)I"⟩, 7), (⟨"MoreEven$Answers", "settlingOf", "(LMoreEven$Town;I)I"⟩, 1), (⟨"MoreEven$Bands", "nextFrom", "(I)I"⟩, 3), (⟨"MoreEven$Bands", "isToldAgain", "(I)Z"⟩, 3), (⟨"MoreEven", "allFamilies", "()I"⟩, 7)]
theorem lw_r1 : ∀ q ∈ lw_privs_1, lw_okq q := List.forall_mem_cons.mpr ⟨lw_p0, List.forall_mem_cons.mpr ⟨lw_p1, List.forall_mem_cons.mpr ⟨lw_p2, List.forall_mem_cons.mpr ⟨lw_p3, List.forall_mem_cons.mpr ⟨lw_p4, List.forall_mem_cons.mpr ⟨lw_p5, List.forall_mem_cons.mpr ⟨lw_p6, List.forall_mem_cons.mpr ⟨lw_p7, List.forall_mem_cons.mpr ⟨lw_p8, List.forall_mem_cons.mpr ⟨lw_p9, List.forall_mem_cons.mpr ⟨lw_p10, List.forall_mem_cons.mpr ⟨lw_p11, List.forall_mem_cons.mpr ⟨lw_p12, List.forall_mem_cons.mpr ⟨lw_p13, List.forall_mem_cons.mpr ⟨lw_p14, List.forall_mem_cons.mpr ⟨lw_p15, fun _ h => absurd h List.not_mem_nil⟩⟩⟩⟩⟩⟩⟩⟩⟩⟩⟩⟩⟩⟩⟩⟩
theorem lw_p16 : lw_okq (⟨"MoreEven", "readyTowns", "()I"⟩, 7) := ⟨⟨by decide +kernel, by decide +kernel⟩, List.mem_of_getElem? (i := 14) (by decide +kernel), List.mem_of_getElem? (i := 617) (by decide +kernel), List.mem_of_getElem? (i := 618) (by decide +kernel)⟩
theorem lw_p17 : lw_okq (⟨"MoreEvenModel", "isFamily", "(II)Z"⟩, 25) := ⟨⟨by decide +kernel, by decide +kernel⟩, List.mem_of_getElem? (i := 621) (by decide +kernel), List.mem_of_getElem? (i := 724) (by decide +kernel), List.mem_of_getElem? (i := 725) (by decide +kernel)⟩
theorem lw_p18 : lw_okq (⟨"MoreEvenModel", "isKnown", "(I)Z"⟩, 25) := ⟨⟨by decide +kernel, by decide +kernel⟩, List.mem_of_getElem? (i := 621) (by decide +kernel), List.mem_of_getElem? (i := 740) (by decide +kernel), List.mem_of_getElem? (i := 741) (by decide +kernel)⟩
theorem lw_p19 : lw_okq (⟨"MoreEvenModel", "mayOrder", "(IIII)I"⟩, 25) := ⟨⟨by decide +kernel, by decide +kernel⟩, List.mem_of_getElem? (i := 621) (by decide +kernel), List.mem_of_getElem? (i := 748) (by decide +kernel), List.mem_of_getElem? (i := 749) (by decide +kernel)⟩
theorem lw_p20 : lw_okq (⟨"MoreEvenModel", "isThere", "(I)Z"⟩, 25) := ⟨⟨by decide +kernel, by decide +kernel⟩, List.mem_of_getElem? (i := 621) (by decide +kernel), List.mem_of_getElem? (i := 755) (by decide +kernel), List.mem_of_getElem? (i := 756) (by decide +kernel)⟩
theorem lw_p21 : lw_okq (⟨"MoreEvenModel", "takeLows", "(II)V"⟩, 25) := ⟨⟨by decide +kernel, by decide +kernel⟩, List.mem_of_getElem? (i := 621) (by decide +kernel), List.mem_of_getElem? (i := 759) (by decide +kernel), List.mem_of_getElem? (i := 760) (by decide +kernel)⟩
theorem lw_p22 : lw_okq (⟨"MoreEvenModel", "lay", "(III)V"⟩, 25) := ⟨⟨by decide +kernel, by decide +kernel⟩, List.mem_of_getElem? (i := 621) (by decide +kernel), List.mem_of_getElem? (i := 763) (by decide +kernel), List.mem_of_getElem? (i := 764) (by decide +kernel)⟩
theorem lw_p23 : lw_okq (⟨"MoreEvenModel", "orderLaid", "(I)I"⟩, 25) := ⟨⟨by decide +kernel, by decide +kernel⟩, List.mem_of_getElem? (i := 621) (by decide +kernel), List.mem_of_getElem? (i := 768) (by decide +kernel), List.mem_of_getElem? (i := 769) (by decide +kernel)⟩
theorem lw_p24 : lw_okq (⟨"MoreEvenModel", "layBreaks", "()V"⟩, 25) := ⟨⟨by decide +kernel, by decide +kernel⟩, List.mem_of_getElem? (i := 621) (by decide +kernel), List.mem_of_getElem? (i := 772) (by decide +kernel), List.mem_of_getElem? (i := 773) (by decide +kernel)⟩
theorem lw_p25 : lw_okq (⟨"MoreEvenModel", "addBreak", "(II)V"⟩, 25) := ⟨⟨by decide +kernel, by decide +kernel⟩, List.mem_of_getElem? (i := 621) (by decide +kernel), List.mem_of_getElem? (i := 776) (by decide +kernel), List.mem_of_getElem? (i := 777) (by decide +kernel)⟩
theorem lw_p26 : lw_okq (⟨"MoreEvenModel", "sign", "(II)I"⟩, 25) := ⟨⟨by decide +kernel, by decide +kernel⟩, List.mem_of_getElem? (i := 621) (by decide +kernel), List.mem_of_getElem? (i := 780) (by decide +kernel), List.mem_of_getElem? (i := 781) (by decide +kernel)⟩
theorem lw_p27 : lw_okq (⟨"MoreEvenModel", "fromBelow", "(III)J"⟩, 25) := ⟨⟨by decide +kernel, by decide +kernel⟩, List.mem_of_getElem? (i := 621) (by decide +kernel), List.mem_of_getElem? (i := 784) (by decide +kernel), List.mem_of_getElem? (i := 785) (by decide +kernel)⟩
theorem lw_p28 : lw_okq (⟨"MoreEvenModel", "by", "(II)J"⟩, 25) := ⟨⟨by decide +kernel, by decide +kernel⟩, List.mem_of_getElem? (i := 621) (by decide +kernel), List.mem_of_getElem? (i := 788) (by decide +kernel), List.mem_of_getElem? (i := 789) (by decide +kernel)⟩
theorem lw_p29 : lw_okq (⟨"MoreEvenModel", "comesEven", "(II)Z"⟩, 25) := ⟨⟨by decide +kernel, by decide +kernel⟩, List.mem_of_getElem? (i := 621) (by decide +kernel), List.mem_of_getElem? (i := 814) (by decide +kernel), List.mem_of_getElem? (i := 815) (by decide +kernel)⟩
theorem lw_p30 : lw_okq (⟨"MoreEvenModel", "mayGive", "(IIII)I"⟩, 25) := ⟨⟨by decide +kernel, by decide +kernel⟩, List.mem_of_getElem? (i := 621) (by decide +kernel), List.mem_of_getElem? (i := 822) (by decide +kernel), List.mem_of_getElem? (i := 823) (by decide +kernel)⟩
theorem lw_p31 : lw_okq (⟨"MoreEvenModel", "takeRow", "(I)V"⟩, 25) := ⟨⟨by decide +kernel, by decide +kernel⟩, List.mem_of_getElem? (i := 621) (by decide +kernel), List.mem_of_getElem? (i := 839) (by decide +kernel), List.mem_of_getElem? (i := 840) (by decide +kernel)⟩
def lw_privs_2 : List (MethodName × Nat) := [(⟨"MoreEven", "readyTowns", "()I"⟩, 7), (⟨"MoreEvenModel", "isFamily", "(II)Z"⟩, 25), (⟨"MoreEvenModel", "isKnown", "(I)Z"⟩, 25), (⟨"MoreEvenModel", "mayOrder", "(IIII)I"⟩, 25), (⟨"MoreEvenModel", "isThere", "(I)Z"⟩, 25), (⟨"MoreEvenModel", "takeLows", "(II)V"⟩, 25), (⟨"MoreEvenModel", "lay", "(III)V"⟩, 25), (⟨"MoreEvenModel", "orderLaid", "(I)I"⟩, 25), (⟨"MoreEvenModel", "layBreaks", "()V"⟩, 25), (⟨"MoreEvenModel", "addBreak", "(II)V"⟩, 25), (⟨"MoreEvenModel", "sign", "(II)I"⟩, 25), (⟨"MoreEvenModel", "fromBelow", "(III)J"⟩, 25), (⟨"MoreEvenModel", "by", "(II)J"⟩, 25), (⟨"MoreEvenModel", "comesEven", "(II)Z"⟩, 25), (⟨"MoreEvenModel", "mayGive", "(IIII)I"⟩, 25), (⟨"MoreEvenModel", "takeRow", "(I)V"⟩, 25)]
theorem lw_r2 : ∀ q ∈ lw_privs_2, lw_okq q := List.forall_mem_cons.mpr ⟨lw_p16, List.forall_mem_cons.mpr ⟨lw_p17, List.forall_mem_cons.mpr ⟨lw_p18, List.forall_mem_cons.mpr ⟨lw_p19, List.forall_mem_cons.mpr ⟨lw_p20, List.forall_mem_cons.mpr ⟨lw_p21, List.forall_mem_cons.mpr ⟨lw_p22, List.forall_mem_cons.mpr ⟨lw_p23, List.forall_mem_cons.mpr ⟨lw_p24, List.forall_mem_cons.mpr ⟨lw_p25, List.forall_mem_cons.mpr ⟨lw_p26, List.forall_mem_cons.mpr ⟨lw_p27, List.forall_mem_cons.mpr ⟨lw_p28, List.forall_mem_cons.mpr ⟨lw_p29, List.forall_mem_cons.mpr ⟨lw_p30, List.forall_mem_cons.mpr ⟨lw_p31, fun _ h => absurd h List.not_mem_nil⟩⟩⟩⟩⟩⟩⟩⟩⟩⟩⟩⟩⟩⟩⟩⟩
theorem lw_p32 : lw_okq (⟨"MoreEvenModel", "weigh", "(II)V"⟩, 25) := ⟨⟨by decide +kernel, by decide +kernel⟩, List.mem_of_getElem? (i := 621) (by decide +kernel), List.mem_of_getElem? (i := 843) (by decide +kernel), List.mem_of_getElem? (i := 844) (by decide +kernel)⟩
theorem lw_p33 : lw_okq (⟨"MoreEvenModel", "greatest", "()I"⟩, 25) := ⟨⟨by decide +kernel, by decide +kernel⟩, List.mem_of_getElem? (i := 621) (by decide +kernel), List.mem_of_getElem? (i := 847) (by decide +kernel), List.mem_of_getElem? (i := 848) (by decide +kernel)⟩
theorem lw_p34 : lw_okq (⟨"MoreEvenModel", "leastOfRow", "()I"⟩, 25) := ⟨⟨by decide +kernel, by decide +kernel⟩, List.mem_of_getElem? (i := 621) (by decide +kernel), List.mem_of_getElem? (i := 851) (by decide +kernel), List.mem_of_getElem? (i := 852) (by decide +kernel)⟩
theorem lw_p35 : lw_okq (⟨"MoreEvenModel", "pairSum", "()I"⟩, 25) := ⟨⟨by decide +kernel, by decide +kernel⟩, List.mem_of_getElem? (i := 621) (by decide +kernel), List.mem_of_getElem? (i := 855) (by decide +kernel), List.mem_of_getElem? (i := 856) (by decide +kernel)⟩
theorem lw_p36 : lw_okq (⟨"MoreEvenModel", "topSum", "(I)I"⟩, 25) := ⟨⟨by decide +kernel, by decide +kernel⟩, List.mem_of_getElem? (i := 621) (by decide +kernel), List.mem_of_getElem? (i := 859) (by decide +kernel), List.mem_of_getElem? (i := 860) (by decide +kernel)⟩
theorem lw_p37 : lw_okq (⟨"MoreEvenModel", "rowSum", "()I"⟩, 25) := ⟨⟨by decide +kernel, by decide +kernel⟩, List.mem_of_getElem? (i := 621) (by decide +kernel), List.mem_of_getElem? (i := 863) (by decide +kernel), List.mem_of_getElem? (i := 864) (by decide +kernel)⟩
theorem lw_p38 : lw_okq (⟨"MoreEvenModel", "lackOf", "(IZ)I"⟩, 25) := ⟨⟨by decide +kernel, by decide +kernel⟩, List.mem_of_getElem? (i := 621) (by decide +kernel), List.mem_of_getElem? (i := 867) (by decide +kernel), List.mem_of_getElem? (i := 868) (by decide +kernel)⟩
theorem lw_p39 : lw_okq (⟨"MoreEvenModel", "squares", "()I"⟩, 25) := ⟨⟨by decide +kernel, by decide +kernel⟩, List.mem_of_getElem? (i := 621) (by decide +kernel), List.mem_of_getElem? (i := 871) (by decide +kernel), List.mem_of_getElem? (i := 872) (by decide +kernel)⟩
theorem lw_p40 : lw_okq (⟨"MoreEvenModel", "callOf", "(IIII)I"⟩, 25) := ⟨⟨by decide +kernel, by decide +kernel⟩, List.mem_of_getElem? (i := 621) (by decide +kernel), List.mem_of_getElem? (i := 879) (by decide +kernel), List.mem_of_getElem? (i := 880) (by decide +kernel)⟩
theorem lw_p41 : lw_okq (⟨"MoreEvenModel", "firstAgainst", "(II)I"⟩, 25) := ⟨⟨by decide +kernel, by decide +kernel⟩, List.mem_of_getElem? (i := 621) (by decide +kernel), List.mem_of_getElem? (i := 887) (by decide +kernel), List.mem_of_getElem? (i := 888) (by decide +kernel)⟩
theorem lw_p42 : lw_okq (⟨"MoreEvenModel", "isAgainst", "(III)Z"⟩, 25) := ⟨⟨by decide +kernel, by decide +kernel⟩, List.mem_of_getElem? (i := 621) (by decide +kernel), List.mem_of_getElem? (i := 891) (by decide +kernel), List.mem_of_getElem? (i := 892) (by decide +kernel)⟩
theorem lw_p43 : lw_okq (⟨"MoreEvenModel", "fillingsOf", "(I)J"⟩, 25) := ⟨⟨by decide +kernel, by decide +kernel⟩, List.mem_of_getElem? (i := 621) (by decide +kernel), List.mem_of_getElem? (i := 907) (by decide +kernel), List.mem_of_getElem? (i := 908) (by decide +kernel)⟩
theorem lw_p44 : lw_okq (⟨"MoreEvenModel", "mayHide", "(IIII)I"⟩, 25) := ⟨⟨by decide +kernel, by decide +kernel⟩, List.mem_of_getElem? (i := 621) (by decide +kernel), List.mem_of_getElem? (i := 915) (by decide +kernel), List.mem_of_getElem? (i := 916) (by decide +kernel)⟩
theorem lw_p45 : lw_okq (⟨"MoreEvenModel", "layHidden", "(IIII)V"⟩, 25) := ⟨⟨by decide +kernel, by decide +kernel⟩, List.mem_of_getElem? (i := 621) (by decide +kernel), List.mem_of_getElem? (i := 920) (by decide +kernel), List.mem_of_getElem? (i := 921) (by decide +kernel)⟩
theorem lw_p46 : lw_okq (⟨"MoreEvenModel", "fill", "(III)V"⟩, 25) := ⟨⟨by decide +kernel, by decide +kernel⟩, List.mem_of_getElem? (i := 621) (by decide +kernel), List.mem_of_getElem? (i := 924) (by decide +kernel), List.mem_of_getElem? (i := 925) (by decide +kernel)⟩
theorem lw_p47 : lw_okq (⟨"MoreEvenModel", "mayEdge", "(IIII)I"⟩, 25) := ⟨⟨by decide +kernel, by decide +kernel⟩, List.mem_of_getElem? (i := 621) (by decide +kernel), List.mem_of_getElem? (i := 940) (by decide +kernel), List.mem_of_getElem? (i := 941) (by decide +kernel)⟩
def lw_privs_3 : List (MethodName × Nat) := [(⟨"MoreEvenModel", "weigh", "(II)V"⟩, 25), (⟨"MoreEvenModel", "greatest", "()I"⟩, 25), (⟨"MoreEvenModel", "leastOfRow", "()I"⟩, 25), (⟨"MoreEvenModel", "pairSum", "()I"⟩, 25), (⟨"MoreEvenModel", "topSum", "(I)I"⟩, 25), (⟨"MoreEvenModel", "rowSum", "()I"⟩, 25), (⟨"MoreEvenModel", "lackOf", "(IZ)I"⟩, 25), (⟨"MoreEvenModel", "squares", "()I"⟩, 25), (⟨"MoreEvenModel", "callOf", "(IIII)I"⟩, 25), (⟨"MoreEvenModel", "firstAgainst", "(II)I"⟩, 25), (⟨"MoreEvenModel", "isAgainst", "(III)Z"⟩, 25), (⟨"MoreEvenModel", "fillingsOf", "(I)J"⟩, 25), (⟨"MoreEvenModel", "mayHide", "(IIII)I"⟩, 25), (⟨"MoreEvenModel", "layHidden", "(IIII)V"⟩, 25), (⟨"MoreEvenModel", "fill", "(III)V"⟩, 25), (⟨"MoreEvenModel", "mayEdge", "(IIII)I"⟩, 25)]
theorem lw_r3 : ∀ q ∈ lw_privs_3, lw_okq q := List.forall_mem_cons.mpr ⟨lw_p32, List.forall_mem_cons.mpr ⟨lw_p33, List.forall_mem_cons.mpr ⟨lw_p34, List.forall_mem_cons.mpr ⟨lw_p35, List.forall_mem_cons.mpr ⟨lw_p36, List.forall_mem_cons.mpr ⟨lw_p37, List.forall_mem_cons.mpr ⟨lw_p38, List.forall_mem_cons.mpr ⟨lw_p39, List.forall_mem_cons.mpr ⟨lw_p40, List.forall_mem_cons.mpr ⟨lw_p41, List.forall_mem_cons.mpr ⟨lw_p42, List.forall_mem_cons.mpr ⟨lw_p43, List.forall_mem_cons.mpr ⟨lw_p44, List.forall_mem_cons.mpr ⟨lw_p45, List.forall_mem_cons.mpr ⟨lw_p46, List.forall_mem_cons.mpr ⟨lw_p47, fun _ h => absurd h List.not_mem_nil⟩⟩⟩⟩⟩⟩⟩⟩⟩⟩⟩⟩⟩⟩⟩⟩
theorem lw_p48 : lw_okq (⟨"MoreEvenModel", "edgeOf", "(IIII)I"⟩, 25) := ⟨⟨by decide +kernel, by decide +kernel⟩, List.mem_of_getElem? (i := 621) (by decide +kernel), List.mem_of_getElem? (i := 944) (by decide +kernel), List.mem_of_getElem? (i := 945) (by decide +kernel)⟩
theorem lw_p49 : lw_okq (⟨"MoreEvenModel", "takePart", "(II)V"⟩, 25) := ⟨⟨by decide +kernel, by decide +kernel⟩, List.mem_of_getElem? (i := 621) (by decide +kernel), List.mem_of_getElem? (i := 956) (by decide +kernel), List.mem_of_getElem? (i := 957) (by decide +kernel)⟩
theorem lw_p50 : lw_okq (⟨"MoreEvenModel", "mayMove", "(II)I"⟩, 25) := ⟨⟨by decide +kernel, by decide +kernel⟩, List.mem_of_getElem? (i := 621) (by decide +kernel), List.mem_of_getElem? (i := 965) (by decide +kernel), List.mem_of_getElem? (i := 966) (by decide +kernel)⟩
theorem lw_p51 : lw_okq (⟨"MoreEvenModel", "lessThan", "(II)I"⟩, 25) := ⟨⟨by decide +kernel, by decide +kernel⟩, List.mem_of_getElem? (i := 621) (by decide +kernel), List.mem_of_getElem? (i := 973) (by decide +kernel), List.mem_of_getElem? (i := 974) (by decide +kernel)⟩
theorem lw_p52 : lw_okq (⟨"MoreEvenModel", "taxOf", "(I)I"⟩, 25) := ⟨⟨by decide +kernel, by decide +kernel⟩, List.mem_of_getElem? (i := 621) (by decide +kernel), List.mem_of_getElem? (i := 990) (by decide +kernel), List.mem_of_getElem? (i := 991) (by decide +kernel)⟩
theorem lw_p53 : lw_okq (⟨"MoreEvenModel", "rateAbove", "(I)I"⟩, 25) := ⟨⟨by decide +kernel, by decide +kernel⟩, List.mem_of_getElem? (i := 621) (by decide +kernel), List.mem_of_getElem? (i := 994) (by decide +kernel), List.mem_of_getElem? (i := 995) (by decide +kernel)⟩
def lw_privs_4 : List (MethodName × Nat) := [(⟨"MoreEvenModel", "edgeOf", "(IIII)I"⟩, 25), (⟨"MoreEvenModel", "takePart", "(II)V"⟩, 25), (⟨"MoreEvenModel", "mayMove", "(II)I"⟩, 25), (⟨"MoreEvenModel", "lessThan", "(II)I"⟩, 25), (⟨"MoreEvenModel", "taxOf", "(I)I"⟩, 25), (⟨"MoreEvenModel", "rateAbove", "(I)I"⟩, 25)]
theorem lw_r4 : ∀ q ∈ lw_privs_4, lw_okq q := List.forall_mem_cons.mpr ⟨lw_p48, List.forall_mem_cons.mpr ⟨lw_p49, List.forall_mem_cons.mpr ⟨lw_p50, List.forall_mem_cons.mpr ⟨lw_p51, List.forall_mem_cons.mpr ⟨lw_p52, List.forall_mem_cons.mpr ⟨lw_p53, fun _ h => absurd h List.not_mem_nil⟩⟩⟩⟩⟩⟩
def lw_privs : List (MethodName × Nat) := lw_privs_1 ++ (lw_privs_2 ++ (lw_privs_3 ++ (lw_privs_4)))
def lw_tbl : List Cond := k2_sels lw_privs ++ tables_1
theorem lw_privs_ok : ∀ q ∈ lw_privs, lw_okq q := by
  show ∀ q ∈ lw_privs_1 ++ (lw_privs_2 ++ (lw_privs_3 ++ (lw_privs_4))), lw_okq q
  exact List.forall_mem_append.mpr ⟨lw_r1, List.forall_mem_append.mpr ⟨lw_r2, List.forall_mem_append.mpr ⟨lw_r3, lw_r4⟩⟩⟩
-- names
def RX0 : String := "MoreEven$Answers"
def TX0 : u_T := fun k => match k with
  | _ => ("MoreEven$Answers", "bits", "[I", true)
def tyX0 : Nat → FieldType := fun k => match k with
  | _ => .array .int
abbrev wsX00 : List Cond := u_ws RX0 TX0 1
theorem nmX0 : ∀ a, a < 1 → ∀ b, b < 1 → a ≠ b → (TX0 a).2.1 ≠ (TX0 b).2.1 := by decide +kernel
theorem tyX0_ok : ∀ k, k < 1 → parseFieldDescriptor (TX0 k).2.2.1 = some (tyX0 k) := by decide +kernel
abbrev cX0_init : ByteArray := prog_2_method_1_code
def yX0_init : MethodName := ⟨RX0, "<init>", "()V"⟩
abbrev cX0_forget : ByteArray := prog_2_method_2_code
def yX0_forget : MethodName := ⟨RX0, "forget", "()V"⟩
abbrev cX0_note : ByteArray := prog_2_method_3_code
def yX0_note : MethodName := ⟨RX0, "note", "(LMoreEven$Town;I)V"⟩
abbrev cX0_best : ByteArray := prog_2_method_4_code
def yX0_best : MethodName := ⟨RX0, "best", "(LMoreEven$Town;)I"⟩
abbrev cX0_settlingOf : ByteArray := prog_2_method_5_code
def yX0_settlingOf : MethodName := ⟨RX0, "settlingOf", "(LMoreEven$Town;I)I"⟩
def RX1 : String := "MoreEven$Bands"
def TX1 : u_T := fun k => match k with
  | 0 => ("MoreEven$Bands", "told", "I", false)
  | 1 => ("MoreEven$Bands", "from", "[I", true)
  | _ => ("MoreEven$Bands", "rate", "[I", true)
def tyX1 : Nat → FieldType := fun k => match k with
  | 0 => .int
  | 1 => .array .int
  | _ => .array .int
abbrev wsX10 : List Cond := u_ws RX1 TX1 3
theorem nmX1 : ∀ a, a < 3 → ∀ b, b < 3 → a ≠ b → (TX1 a).2.1 ≠ (TX1 b).2.1 := by decide +kernel
theorem tyX1_ok : ∀ k, k < 3 → parseFieldDescriptor (TX1 k).2.2.1 = some (tyX1 k) := by decide +kernel
abbrev cX1_init : ByteArray := prog_3_method_1_code
def yX1_init : MethodName := ⟨RX1, "<init>", "()V"⟩
abbrev cX1_add : ByteArray := prog_3_method_2_code
def yX1_add : MethodName := ⟨RX1, "add", "(II)V"⟩
abbrev cX1_taken : ByteArray := prog_3_method_3_code
def yX1_taken : MethodName := ⟨RX1, "taken", "(I)I"⟩
abbrev cX1_nextFrom : ByteArray := prog_3_method_4_code
def yX1_nextFrom : MethodName := ⟨RX1, "nextFrom", "(I)I"⟩
abbrev cX1_isToldAgain : ByteArray := prog_3_method_5_code
def yX1_isToldAgain : MethodName := ⟨RX1, "isToldAgain", "(I)Z"⟩
def RX2 : String := "MoreEven$Coins"
def TX2 : u_T := fun k => match k with
  | 0 => ("MoreEven$Coins", "due", "[I", true)
  | 1 => ("MoreEven$Coins", "sum", "[I", true)
  | 2 => ("MoreEven$Coins", "canBe", "[Z", true)
  | _ => ("MoreEven$Coins", "groups", "[I", true)
def tyX2 : Nat → FieldType := fun k => match k with
  | 0 => .array .int
  | 1 => .array .int
  | 2 => .array .boolean
  | _ => .array .int
abbrev wsX20 : List Cond := u_ws RX2 TX2 4
theorem nmX2 : ∀ a, a < 4 → ∀ b, b < 4 → a ≠ b → (TX2 a).2.1 ≠ (TX2 b).2.1 := by decide +kernel
theorem tyX2_ok : ∀ k, k < 4 → parseFieldDescriptor (TX2 k).2.2.1 = some (tyX2 k) := by decide +kernel
abbrev cX2_init : ByteArray := prog_4_method_1_code
def yX2_init : MethodName := ⟨RX2, "<init>", "()V"⟩
abbrev cX2_between : ByteArray := prog_4_method_2_code
def yX2_between : MethodName := ⟨RX2, "between", "(LMoreEven$Town;LMoreEven$Town;)I"⟩
abbrev cX2_putDue : ByteArray := prog_4_method_3_code
def yX2_putDue : MethodName := ⟨RX2, "putDue", "(LMoreEven$Town;LMoreEven$Town;I)V"⟩
abbrev cX2_placeOf : ByteArray := prog_4_method_4_code
def yX2_placeOf : MethodName := ⟨RX2, "placeOf", "(LMoreEven$Town;I)I"⟩
abbrev cX2_findSums : ByteArray := prog_4_method_5_code
def yX2_findSums : MethodName := ⟨RX2, "findSums", "(I)V"⟩
abbrev cX2_mostGroups : ByteArray := prog_4_method_6_code
def yX2_mostGroups : MethodName := ⟨RX2, "mostGroups", "(I)I"⟩
def RX3 : String := "MoreEven$Curve"
def TX3 : u_T := fun k => match k with
  | 0 => ("MoreEven$Curve", "pieces", "I", false)
  | 1 => ("MoreEven$Curve", "heads", "J", false)
  | 2 => ("MoreEven$Curve", "whole", "J", false)
  | 3 => ("MoreEven$Curve", "piece", "I", false)
  | 4 => ("MoreEven$Curve", "headsBefore", "J", false)
  | 5 => ("MoreEven$Curve", "heldBefore", "J", false)
  | 6 => ("MoreEven$Curve", "weight", "[J", true)
  | _ => ("MoreEven$Curve", "each", "[J", true)
def tyX3 : Nat → FieldType := fun k => match k with
  | 0 => .int
  | 1 => .long
  | 2 => .long
  | 3 => .int
  | 4 => .long
  | 5 => .long
  | 6 => .array .long
  | _ => .array .long
abbrev wsX30 : List Cond := u_ws RX3 TX3 8
theorem nmX3 : ∀ a, a < 8 → ∀ b, b < 8 → a ≠ b → (TX3 a).2.1 ≠ (TX3 b).2.1 := by decide +kernel
theorem tyX3_ok : ∀ k, k < 8 → parseFieldDescriptor (TX3 k).2.2.1 = some (tyX3 k) := by decide +kernel
abbrev cX3_init : ByteArray := prog_5_method_1_code
def yX3_init : MethodName := ⟨RX3, "<init>", "()V"⟩
abbrev cX3_look : ByteArray := prog_5_method_2_code
def yX3_look : MethodName := ⟨RX3, "look", "(LMoreEven$Town;IZ)V"⟩
abbrev cX3_headHas : ByteArray := prog_5_method_3_code
def yX3_headHas : MethodName := ⟨RX3, "headHas", "(LMoreEven$Town;II)J"⟩
abbrev cX3_insert : ByteArray := prog_5_method_4_code
def yX3_insert : MethodName := ⟨RX3, "insert", "(JJ)V"⟩
abbrev cX3_giveEachOne : ByteArray := prog_5_method_5_code
def yX3_giveEachOne : MethodName := ⟨RX3, "giveEachOne", "()V"⟩
abbrev cX3_heldByShare : ByteArray := prog_5_method_6_code
def yX3_heldByShare : MethodName := ⟨RX3, "heldByShare", "(II)J"⟩
abbrev cX3_rewind : ByteArray := prog_5_method_7_code
def yX3_rewind : MethodName := ⟨RX3, "rewind", "()V"⟩
abbrev cX3_isWalked : ByteArray := prog_5_method_8_code
def yX3_isWalked : MethodName := ⟨RX3, "isWalked", "()Z"⟩
abbrev cX3_endOfPiece : ByteArray := prog_5_method_9_code
def yX3_endOfPiece : MethodName := ⟨RX3, "endOfPiece", "(J)J"⟩
abbrev cX3_heldTo : ByteArray := prog_5_method_10_code
def yX3_heldTo : MethodName := ⟨RX3, "heldTo", "(JJ)J"⟩
abbrev cX3_leavePiece : ByteArray := prog_5_method_11_code
def yX3_leavePiece : MethodName := ⟨RX3, "leavePiece", "()V"⟩
def RX4 : String := "MoreEven$Measures"
def TX4 : u_T := fun k => match k with
  | _ => ("", "", "", false)
def tyX4 : Nat → FieldType := fun k => match k with
  | _ => .int
abbrev wsX40 : List Cond := u_ws RX4 TX4 0
theorem nmX4 : ∀ a, a < 0 → ∀ b, b < 0 → a ≠ b → (TX4 a).2.1 ≠ (TX4 b).2.1 := by decide +kernel
theorem tyX4_ok : ∀ k, k < 0 → parseFieldDescriptor (TX4 k).2.2.1 = some (tyX4 k) := by decide +kernel
abbrev cX4_hasNumber : ByteArray := prog_6_method_2_code
def yX4_hasNumber : MethodName := ⟨RX4, "hasNumber", "(I)Z"⟩
abbrev cX4_takes : ByteArray := prog_6_method_3_code
def yX4_takes : MethodName := ⟨RX4, "takes", "(II)Z"⟩
abbrev cX4_moreEven : ByteArray := prog_6_method_4_code
def yX4_moreEven : MethodName := ⟨RX4, "moreEven", "(IILMoreEven$Town;LMoreEven$Town;)I"⟩
abbrev cX4_above : ByteArray := prog_6_method_5_code
def yX4_above : MethodName := ⟨RX4, "above", "(II[II)J"⟩
abbrev cX4_under : ByteArray := prog_6_method_6_code
def yX4_under : MethodName := ⟨RX4, "under", "(I[II)J"⟩
abbrev cX4_greatestLessLeast : ByteArray := prog_6_method_7_code
def yX4_greatestLessLeast : MethodName := ⟨RX4, "greatestLessLeast", "([II)J"⟩
abbrev cX4_pairsDiffer : ByteArray := prog_6_method_8_code
def yX4_pairsDiffer : MethodName := ⟨RX4, "pairsDiffer", "([II)J"⟩
abbrev cX4_heldByMost : ByteArray := prog_6_method_9_code
def yX4_heldByMost : MethodName := ⟨RX4, "heldByMost", "(I[II)J"⟩
abbrev cX4_lessThan : ByteArray := prog_6_method_10_code
def yX4_lessThan : MethodName := ⟨RX4, "lessThan", "(I[II)J"⟩
abbrev cX4_lackTo : ByteArray := prog_6_method_11_code
def yX4_lackTo : MethodName := ⟨RX4, "lackTo", "(I[II)J"⟩
abbrev cX4_squaresLessSquare : ByteArray := prog_6_method_12_code
def yX4_squaresLessSquare : MethodName := ⟨RX4, "squaresLessSquare", "([II)J"⟩
def RX5 : String := "MoreEven$Town"
def TX5 : u_T := fun k => match k with
  | 0 => ("MoreEven$Town", "families", "I", false)
  | 1 => ("MoreEven$Town", "low", "[I", true)
  | 2 => ("MoreEven$Town", "high", "[I", true)
  | 3 => ("MoreEven$Town", "size", "[I", true)
  | 4 => ("MoreEven$Town", "part", "[I", true)
  | _ => ("MoreEven$Town", "filling", "[I", true)
def tyX5 : Nat → FieldType := fun k => match k with
  | 0 => .int
  | 1 => .array .int
  | 2 => .array .int
  | 3 => .array .int
  | 4 => .array .int
  | _ => .array .int
abbrev wsX50 : List Cond := u_ws RX5 TX5 6
theorem nmX5 : ∀ a, a < 6 → ∀ b, b < 6 → a ≠ b → (TX5 a).2.1 ≠ (TX5 b).2.1 := by decide +kernel
theorem tyX5_ok : ∀ k, k < 6 → parseFieldDescriptor (TX5 k).2.2.1 = some (tyX5 k) := by decide +kernel
abbrev cX5_init : ByteArray := prog_7_method_1_code
def yX5_init : MethodName := ⟨RX5, "<init>", "()V"⟩
abbrev cX5_holds : ByteArray := prog_7_method_2_code
def yX5_holds : MethodName := ⟨RX5, "holds", "(I)Z"⟩
abbrev cX5_add : ByteArray := prog_7_method_3_code
def yX5_add : MethodName := ⟨RX5, "add", "(IIII)V"⟩
abbrev cX5_hold : ByteArray := prog_7_method_4_code
def yX5_hold : MethodName := ⟨RX5, "hold", "(II)V"⟩
abbrev cX5_isKnown : ByteArray := prog_7_method_5_code
def yX5_isKnown : MethodName := ⟨RX5, "isKnown", "()Z"⟩
abbrev cX5_isReady : ByteArray := prog_7_method_6_code
def yX5_isReady : MethodName := ⟨RX5, "isReady", "()Z"⟩
abbrev cX5_ways : ByteArray := prog_7_method_7_code
def yX5_ways : MethodName := ⟨RX5, "ways", "()J"⟩
abbrev cX5_startFillings : ByteArray := prog_7_method_8_code
def yX5_startFillings : MethodName := ⟨RX5, "startFillings", "()V"⟩
abbrev cX5_nextFilling : ByteArray := prog_7_method_9_code
def yX5_nextFilling : MethodName := ⟨RX5, "nextFilling", "()V"⟩
abbrev cX5_familiesOf : ByteArray := prog_7_method_10_code
def yX5_familiesOf : MethodName := ⟨RX5, "familiesOf", "(I)I"⟩
abbrev cX5_sumOfPart : ByteArray := prog_7_method_11_code
def yX5_sumOfPart : MethodName := ⟨RX5, "sumOfPart", "(I)I"⟩
def RX6 : String := "MoreEven$Walk"
def TX6 : u_T := fun k => match k with
  | 0 => ("MoreEven$Walk", "first", "LMoreEven$Curve;", true)
  | 1 => ("MoreEven$Walk", "second", "LMoreEven$Curve;", true)
  | 2 => ("MoreEven$Walk", "firstTimes", "J", false)
  | 3 => ("MoreEven$Walk", "secondTimes", "J", false)
  | 4 => ("MoreEven$Walk", "place", "J", false)
  | _ => ("MoreEven$Walk", "sign", "I", false)
def tyX6 : Nat → FieldType := fun k => match k with
  | 0 => .object "MoreEven$Curve"
  | 1 => .object "MoreEven$Curve"
  | 2 => .long
  | 3 => .long
  | 4 => .long
  | _ => .int
abbrev wsX60 : List Cond := u_ws RX6 TX6 6
theorem nmX6 : ∀ a, a < 6 → ∀ b, b < 6 → a ≠ b → (TX6 a).2.1 ≠ (TX6 b).2.1 := by decide +kernel
theorem tyX6_ok : ∀ k, k < 6 → parseFieldDescriptor (TX6 k).2.2.1 = some (tyX6 k) := by decide +kernel
abbrev cX6_init : ByteArray := prog_8_method_1_code
def yX6_init : MethodName := ⟨RX6, "<init>", "()V"⟩
abbrev cX6_atEnd : ByteArray := prog_8_method_2_code
def yX6_atEnd : MethodName := ⟨RX6, "atEnd", "()J"⟩
abbrev cX6_told : ByteArray := prog_8_method_3_code
def yX6_told : MethodName := ⟨RX6, "told", "(I)I"⟩
abbrev cX6_firstMore : ByteArray := prog_8_method_4_code
def yX6_firstMore : MethodName := ⟨RX6, "firstMore", "(I)J"⟩
abbrev cX6_start : ByteArray := prog_8_method_5_code
def yX6_start : MethodName := ⟨RX6, "start", "(I)V"⟩
abbrev cX6_toNextBreak : ByteArray := prog_8_method_6_code
def yX6_toNextBreak : MethodName := ⟨RX6, "toNextBreak", "()Z"⟩
def RX7 : String := "MoreEven"
def TX7 : u_T := fun k => match k with
  | 0 => ("MoreEven", "towns", "[LMoreEven$Town;", true)
  | 1 => ("MoreEven", "bands", "LMoreEven$Bands;", true)
  | 2 => ("MoreEven", "walk", "LMoreEven$Walk;", true)
  | 3 => ("MoreEven", "fewest", "LMoreEven$Coins;", true)
  | 4 => ("MoreEven", "answers", "LMoreEven$Answers;", true)
  | 5 => ("MoreEven", "before", "[I", true)
  | _ => ("MoreEven", "after", "[I", true)
def tyX7 : Nat → FieldType := fun k => match k with
  | 0 => .array (.object "MoreEven$Town")
  | 1 => .object "MoreEven$Bands"
  | 2 => .object "MoreEven$Walk"
  | 3 => .object "MoreEven$Coins"
  | 4 => .object "MoreEven$Answers"
  | 5 => .array .int
  | _ => .array .int
abbrev wsX70 : List Cond := u_ws RX7 TX7 7
theorem nmX7 : ∀ a, a < 7 → ∀ b, b < 7 → a ≠ b → (TX7 a).2.1 ≠ (TX7 b).2.1 := by decide +kernel
theorem tyX7_ok : ∀ k, k < 7 → parseFieldDescriptor (TX7 k).2.2.1 = some (tyX7 k) := by decide +kernel
abbrev cX7_init : ByteArray := prog_1_method_1_code
def yX7_init : MethodName := ⟨RX7, "<init>", "()V"⟩
abbrev cX7_family : ByteArray := prog_1_method_2_code
def yX7_family : MethodName := ⟨RX7, "family", "(IIIII)I"⟩
abbrev cX7_know : ByteArray := prog_1_method_3_code
def yX7_know : MethodName := ⟨RX7, "know", "(IIII)I"⟩
abbrev cX7_clear : ByteArray := prog_1_method_4_code
def yX7_clear : MethodName := ⟨RX7, "clear", "(I)I"⟩
abbrev cX7_about : ByteArray := prog_1_method_5_code
def yX7_about : MethodName := ⟨RX7, "about", "(III)I"⟩
abbrev cX7_town : ByteArray := prog_1_method_6_code
def yX7_town : MethodName := ⟨RX7, "town", "(II)I"⟩
abbrev cX7_order : ByteArray := prog_1_method_7_code
def yX7_order : MethodName := ⟨RX7, "order", "(IIII)I"⟩
abbrev cX7_where : ByteArray := prog_1_method_8_code
def yX7_where : MethodName := ⟨RX7, "where", "(IIIIZ)I"⟩
abbrev cX7_below : ByteArray := prog_1_method_9_code
def yX7_below : MethodName := ⟨RX7, "below", "(IIIIZ)J"⟩
abbrev cX7_coins : ByteArray := prog_1_method_10_code
def yX7_coins : MethodName := ⟨RX7, "coins", "(II)I"⟩
abbrev cX7_give : ByteArray := prog_1_method_11_code
def yX7_give : MethodName := ⟨RX7, "give", "(IIII)I"⟩
abbrev cX7_would : ByteArray := prog_1_method_12_code
def yX7_would : MethodName := ⟨RX7, "would", "(IIII)I"⟩
abbrev cX7_measure : ByteArray := prog_1_method_13_code
def yX7_measure : MethodName := ⟨RX7, "measure", "(IIIZ)J"⟩
abbrev cX7_calls : ByteArray := prog_1_method_14_code
def yX7_calls : MethodName := ⟨RX7, "calls", "(IIII)I"⟩
abbrev cX7_minds : ByteArray := prog_1_method_15_code
def yX7_minds : MethodName := ⟨RX7, "minds", "(II)I"⟩
abbrev cX7_against : ByteArray := prog_1_method_16_code
def yX7_against : MethodName := ⟨RX7, "against", "(II)I"⟩
abbrev cX7_part : ByteArray := prog_1_method_17_code
def yX7_part : MethodName := ⟨RX7, "part", "(III)I"⟩
abbrev cX7_fillings : ByteArray := prog_1_method_18_code
def yX7_fillings : MethodName := ⟨RX7, "fillings", "(I)J"⟩
abbrev cX7_hidden : ByteArray := prog_1_method_19_code
def yX7_hidden : MethodName := ⟨RX7, "hidden", "(IIIII)I"⟩
abbrev cX7_ask : ByteArray := prog_1_method_20_code
def yX7_ask : MethodName := ⟨RX7, "ask", "(IIII)I"⟩
abbrev cX7_poor : ByteArray := prog_1_method_21_code
def yX7_poor : MethodName := ⟨RX7, "poor", "(IIZ)I"⟩
abbrev cX7_never : ByteArray := prog_1_method_22_code
def yX7_never : MethodName := ⟨RX7, "never", "(IIII)I"⟩
abbrev cX7_edge : ByteArray := prog_1_method_23_code
def yX7_edge : MethodName := ⟨RX7, "edge", "(IIII)I"⟩
abbrev cX7_spread : ByteArray := prog_1_method_24_code
def yX7_spread : MethodName := ⟨RX7, "spread", "(IIZ)J"⟩
abbrev cX7_moved : ByteArray := prog_1_method_25_code
def yX7_moved : MethodName := ⟨RX7, "moved", "(II)I"⟩
abbrev cX7_rose : ByteArray := prog_1_method_26_code
def yX7_rose : MethodName := ⟨RX7, "rose", "(III)I"⟩
abbrev cX7_band : ByteArray := prog_1_method_27_code
def yX7_band : MethodName := ⟨RX7, "band", "(II)I"⟩
abbrev cX7_unband : ByteArray := prog_1_method_28_code
def yX7_unband : MethodName := ⟨RX7, "unband", "()I"⟩
abbrev cX7_tax : ByteArray := prog_1_method_29_code
def yX7_tax : MethodName := ⟨RX7, "tax", "(I)I"⟩
abbrev cX7_taxed : ByteArray := prog_1_method_30_code
def yX7_taxed : MethodName := ⟨RX7, "taxed", "(II)I"⟩
abbrev cX7_rises : ByteArray := prog_1_method_31_code
def yX7_rises : MethodName := ⟨RX7, "rises", "()I"⟩
abbrev cX7_count : ByteArray := prog_1_method_32_code
def yX7_count : MethodName := ⟨RX7, "count", "(I)I"⟩
abbrev cX7_townAt : ByteArray := prog_1_method_33_code
def yX7_townAt : MethodName := ⟨RX7, "townAt", "(I)LMoreEven$Town;"⟩
abbrev cX7_isWithin : ByteArray := prog_1_method_34_code
def yX7_isWithin : MethodName := ⟨RX7, "isWithin", "(III)Z"⟩
abbrev cX7_areEnds : ByteArray := prog_1_method_35_code
def yX7_areEnds : MethodName := ⟨RX7, "areEnds", "(II)Z"⟩
abbrev cX7_isScale : ByteArray := prog_1_method_36_code
def yX7_isScale : MethodName := ⟨RX7, "isScale", "(I)Z"⟩
abbrev cX7_isOrder : ByteArray := prog_1_method_37_code
def yX7_isOrder : MethodName := ⟨RX7, "isOrder", "(I)Z"⟩
abbrev cX7_areTwoYears : ByteArray := prog_1_method_38_code
def yX7_areTwoYears : MethodName := ⟨RX7, "areTwoYears", "(LMoreEven$Town;LMoreEven$Town;)Z"⟩
abbrev cX7_sumOf : ByteArray := prog_1_method_39_code
def yX7_sumOf : MethodName := ⟨RX7, "sumOf", "([II)I"⟩
abbrev cX7_inLeastTerms : ByteArray := prog_1_method_40_code
def yX7_inLeastTerms : MethodName := ⟨RX7, "inLeastTerms", "(JJZ)J"⟩
abbrev cX7_commonDivisor : ByteArray := prog_1_method_41_code
def yX7_commonDivisor : MethodName := ⟨RX7, "commonDivisor", "(JJ)J"⟩
abbrev cX7_canTryAll : ByteArray := prog_1_method_42_code
def yX7_canTryAll : MethodName := ⟨RX7, "canTryAll", "(LMoreEven$Town;LMoreEven$Town;)Z"⟩
abbrev cX7_timesTold : ByteArray := prog_1_method_43_code
def yX7_timesTold : MethodName := ⟨RX7, "timesTold", "(LMoreEven$Town;III)I"⟩
abbrev cX7_allTold : ByteArray := prog_1_method_44_code
def yX7_allTold : MethodName := ⟨RX7, "allTold", "(LMoreEven$Town;II)I"⟩
abbrev cX7_someCoinMakesGreater : ByteArray := prog_1_method_45_code
def yX7_someCoinMakesGreater : MethodName := ⟨RX7, "someCoinMakesGreater", "(II)Z"⟩
abbrev cX7_coinMakesGreater : ByteArray := prog_1_method_46_code
def yX7_coinMakesGreater : MethodName := ⟨RX7, "coinMakesGreater", "(IIII)Z"⟩
abbrev cX7_firstParting : ByteArray := prog_1_method_47_code
def yX7_firstParting : MethodName := ⟨RX7, "firstParting", "(LMoreEven$Town;LMoreEven$Town;I)I"⟩
abbrev cX7_poorBelow : ByteArray := prog_1_method_48_code
def yX7_poorBelow : MethodName := ⟨RX7, "poorBelow", "(LMoreEven$Town;I)I"⟩
abbrev cX7_lackBelow : ByteArray := prog_1_method_49_code
def yX7_lackBelow : MethodName := ⟨RX7, "lackBelow", "(LMoreEven$Town;I)I"⟩
abbrev cX7_spreadWithin : ByteArray := prog_1_method_50_code
def yX7_spreadWithin : MethodName := ⟨RX7, "spreadWithin", "(LMoreEven$Town;IZ)J"⟩
abbrev cX7_spreadBetween : ByteArray := prog_1_method_51_code
def yX7_spreadBetween : MethodName := ⟨RX7, "spreadBetween", "(LMoreEven$Town;Z)J"⟩
abbrev cX7_allFamilies : ByteArray := prog_1_method_52_code
def yX7_allFamilies : MethodName := ⟨RX7, "allFamilies", "()I"⟩
abbrev cX7_readyTowns : ByteArray := prog_1_method_53_code
def yX7_readyTowns : MethodName := ⟨RX7, "readyTowns", "()I"⟩
def RX8 : String := "MoreEvenModel"
def TX8 : u_T := fun k => match k with
  | 0 => ("MoreEvenModel", "many", "[I", true)
  | 1 => ("MoreEvenModel", "low", "[I", true)
  | 2 => ("MoreEvenModel", "high", "[I", true)
  | 3 => ("MoreEvenModel", "size", "[I", true)
  | 4 => ("MoreEvenModel", "part", "[I", true)
  | 5 => ("MoreEvenModel", "has", "[I", true)
  | 6 => ("MoreEvenModel", "heads", "[I", true)
  | 7 => ("MoreEvenModel", "each", "[J", true)
  | 8 => ("MoreEvenModel", "laid", "[I", true)
  | 9 => ("MoreEvenModel", "headMany", "[I", true)
  | 10 => ("MoreEvenModel", "all", "[J", true)
  | 11 => ("MoreEvenModel", "breaks", "I", false)
  | 12 => ("MoreEvenModel", "above", "[I", true)
  | 13 => ("MoreEvenModel", "below", "[I", true)
  | 14 => ("MoreEvenModel", "differ", "[I", true)
  | 15 => ("MoreEvenModel", "groups", "[I", true)
  | 16 => ("MoreEvenModel", "row", "[I", true)
  | 17 => ("MoreEvenModel", "rowMany", "I", false)
  | 18 => ("MoreEvenModel", "up", "J", false)
  | 19 => ("MoreEvenModel", "down", "J", false)
  | 20 => ("MoreEvenModel", "toldBy", "[I", true)
  | 21 => ("MoreEvenModel", "toldMany", "[I", true)
  | 22 => ("MoreEvenModel", "bands", "I", false)
  | 23 => ("MoreEvenModel", "bandFrom", "[I", true)
  | _ => ("MoreEvenModel", "bandRate", "[I", true)
def tyX8 : Nat → FieldType := fun k => match k with
  | 0 => .array .int
  | 1 => .array .int
  | 2 => .array .int
  | 3 => .array .int
  | 4 => .array .int
  | 5 => .array .int
  | 6 => .array .int
  | 7 => .array .long
  | 8 => .array .int
  | 9 => .array .int
  | 10 => .array .long
  | 11 => .int
  | 12 => .array .int
  | 13 => .array .int
  | 14 => .array .int
  | 15 => .array .int
  | 16 => .array .int
  | 17 => .int
  | 18 => .long
  | 19 => .long
  | 20 => .array .int
  | 21 => .array .int
  | 22 => .int
  | 23 => .array .int
  | _ => .array .int
abbrev wsX80 : List Cond := u_ws RX8 TX8 25
theorem nmX8 : ∀ a, a < 25 → ∀ b, b < 25 → a ≠ b → (TX8 a).2.1 ≠ (TX8 b).2.1 := by decide +kernel
theorem tyX8_ok : ∀ k, k < 25 → parseFieldDescriptor (TX8 k).2.2.1 = some (tyX8 k) := by decide +kernel
abbrev cX8_init : ByteArray := prog_10_method_1_code
def yX8_init : MethodName := ⟨RX8, "<init>", "()V"⟩
abbrev cX8_in : ByteArray := prog_10_method_3_code
def yX8_in : MethodName := ⟨RX8, "in", "(JJJ)Z"⟩
abbrev cX8_common : ByteArray := prog_10_method_4_code
def yX8_common : MethodName := ⟨RX8, "common", "(JJ)J"⟩
abbrev cX8_told : ByteArray := prog_10_method_5_code
def yX8_told : MethodName := ⟨RX8, "told", "(JJZ)J"⟩
abbrev cX8_isTown : ByteArray := prog_10_method_6_code
def yX8_isTown : MethodName := ⟨RX8, "isTown", "(I)Z"⟩
abbrev cX8_isFamily : ByteArray := prog_10_method_7_code
def yX8_isFamily : MethodName := ⟨RX8, "isFamily", "(II)Z"⟩
abbrev cX8_isSpan : ByteArray := prog_10_method_8_code
def yX8_isSpan : MethodName := ⟨RX8, "isSpan", "(II)Z"⟩
abbrev cX8_family : ByteArray := prog_10_method_9_code
def yX8_family : MethodName := ⟨RX8, "family", "(IIIII)I"⟩
abbrev cX8_know : ByteArray := prog_10_method_10_code
def yX8_know : MethodName := ⟨RX8, "know", "(IIII)I"⟩
abbrev cX8_clear : ByteArray := prog_10_method_11_code
def yX8_clear : MethodName := ⟨RX8, "clear", "(I)I"⟩
abbrev cX8_about : ByteArray := prog_10_method_12_code
def yX8_about : MethodName := ⟨RX8, "about", "(III)I"⟩
abbrev cX8_isKnown : ByteArray := prog_10_method_13_code
def yX8_isKnown : MethodName := ⟨RX8, "isKnown", "(I)Z"⟩
abbrev cX8_town : ByteArray := prog_10_method_14_code
def yX8_town : MethodName := ⟨RX8, "town", "(II)I"⟩
abbrev cX8_takeLows : ByteArray := prog_10_method_15_code
def yX8_takeLows : MethodName := ⟨RX8, "takeLows", "(II)V"⟩
abbrev cX8_lay : ByteArray := prog_10_method_16_code
def yX8_lay : MethodName := ⟨RX8, "lay", "(III)V"⟩
abbrev cX8_fromBelow : ByteArray := prog_10_method_17_code
def yX8_fromBelow : MethodName := ⟨RX8, "fromBelow", "(III)J"⟩
abbrev cX8_by : ByteArray := prog_10_method_18_code
def yX8_by : MethodName := ⟨RX8, "by", "(II)J"⟩
abbrev cX8_addBreak : ByteArray := prog_10_method_19_code
def yX8_addBreak : MethodName := ⟨RX8, "addBreak", "(II)V"⟩
abbrev cX8_layBreaks : ByteArray := prog_10_method_20_code
def yX8_layBreaks : MethodName := ⟨RX8, "layBreaks", "()V"⟩
abbrev cX8_sign : ByteArray := prog_10_method_21_code
def yX8_sign : MethodName := ⟨RX8, "sign", "(II)I"⟩
abbrev cX8_orderLaid : ByteArray := prog_10_method_22_code
def yX8_orderLaid : MethodName := ⟨RX8, "orderLaid", "(I)I"⟩
abbrev cX8_isLook : ByteArray := prog_10_method_23_code
def yX8_isLook : MethodName := ⟨RX8, "isLook", "(II)Z"⟩
abbrev cX8_isThere : ByteArray := prog_10_method_24_code
def yX8_isThere : MethodName := ⟨RX8, "isThere", "(I)Z"⟩
abbrev cX8_mayOrder : ByteArray := prog_10_method_25_code
def yX8_mayOrder : MethodName := ⟨RX8, "mayOrder", "(IIII)I"⟩
abbrev cX8_order : ByteArray := prog_10_method_26_code
def yX8_order : MethodName := ⟨RX8, "order", "(IIII)I"⟩
abbrev cX8_where : ByteArray := prog_10_method_27_code
def yX8_where : MethodName := ⟨RX8, "where", "(IIIIZ)I"⟩
abbrev cX8_below : ByteArray := prog_10_method_28_code
def yX8_below : MethodName := ⟨RX8, "below", "(IIIIZ)J"⟩
abbrev cX8_comesEven : ByteArray := prog_10_method_29_code
def yX8_comesEven : MethodName := ⟨RX8, "comesEven", "(II)Z"⟩
abbrev cX8_coins : ByteArray := prog_10_method_30_code
def yX8_coins : MethodName := ⟨RX8, "coins", "(II)I"⟩
abbrev cX8_mayGive : ByteArray := prog_10_method_31_code
def yX8_mayGive : MethodName := ⟨RX8, "mayGive", "(IIII)I"⟩
abbrev cX8_give : ByteArray := prog_10_method_32_code
def yX8_give : MethodName := ⟨RX8, "give", "(IIII)I"⟩
abbrev cX8_would : ByteArray := prog_10_method_33_code
def yX8_would : MethodName := ⟨RX8, "would", "(IIII)I"⟩
abbrev cX8_rowSum : ByteArray := prog_10_method_34_code
def yX8_rowSum : MethodName := ⟨RX8, "rowSum", "()I"⟩
abbrev cX8_greatest : ByteArray := prog_10_method_35_code
def yX8_greatest : MethodName := ⟨RX8, "greatest", "()I"⟩
abbrev cX8_leastOfRow : ByteArray := prog_10_method_36_code
def yX8_leastOfRow : MethodName := ⟨RX8, "leastOfRow", "()I"⟩
abbrev cX8_pairSum : ByteArray := prog_10_method_37_code
def yX8_pairSum : MethodName := ⟨RX8, "pairSum", "()I"⟩
abbrev cX8_topSum : ByteArray := prog_10_method_38_code
def yX8_topSum : MethodName := ⟨RX8, "topSum", "(I)I"⟩
abbrev cX8_lackOf : ByteArray := prog_10_method_39_code
def yX8_lackOf : MethodName := ⟨RX8, "lackOf", "(IZ)I"⟩
abbrev cX8_squares : ByteArray := prog_10_method_40_code
def yX8_squares : MethodName := ⟨RX8, "squares", "()I"⟩
abbrev cX8_weigh : ByteArray := prog_10_method_41_code
def yX8_weigh : MethodName := ⟨RX8, "weigh", "(II)V"⟩
abbrev cX8_isMeasure : ByteArray := prog_10_method_42_code
def yX8_isMeasure : MethodName := ⟨RX8, "isMeasure", "(II)Z"⟩
abbrev cX8_takeRow : ByteArray := prog_10_method_43_code
def yX8_takeRow : MethodName := ⟨RX8, "takeRow", "(I)V"⟩
abbrev cX8_measure : ByteArray := prog_10_method_44_code
def yX8_measure : MethodName := ⟨RX8, "measure", "(IIIZ)J"⟩
abbrev cX8_callOf : ByteArray := prog_10_method_45_code
def yX8_callOf : MethodName := ⟨RX8, "callOf", "(IIII)I"⟩
abbrev cX8_calls : ByteArray := prog_10_method_46_code
def yX8_calls : MethodName := ⟨RX8, "calls", "(IIII)I"⟩
abbrev cX8_isAgainst : ByteArray := prog_10_method_47_code
def yX8_isAgainst : MethodName := ⟨RX8, "isAgainst", "(III)Z"⟩
abbrev cX8_firstAgainst : ByteArray := prog_10_method_48_code
def yX8_firstAgainst : MethodName := ⟨RX8, "firstAgainst", "(II)I"⟩
abbrev cX8_minds : ByteArray := prog_10_method_49_code
def yX8_minds : MethodName := ⟨RX8, "minds", "(II)I"⟩
abbrev cX8_against : ByteArray := prog_10_method_50_code
def yX8_against : MethodName := ⟨RX8, "against", "(II)I"⟩
abbrev cX8_part : ByteArray := prog_10_method_51_code
def yX8_part : MethodName := ⟨RX8, "part", "(III)I"⟩
abbrev cX8_fillingsOf : ByteArray := prog_10_method_52_code
def yX8_fillingsOf : MethodName := ⟨RX8, "fillingsOf", "(I)J"⟩
abbrev cX8_fillings : ByteArray := prog_10_method_53_code
def yX8_fillings : MethodName := ⟨RX8, "fillings", "(I)J"⟩
abbrev cX8_fill : ByteArray := prog_10_method_54_code
def yX8_fill : MethodName := ⟨RX8, "fill", "(III)V"⟩
abbrev cX8_mayHide : ByteArray := prog_10_method_55_code
def yX8_mayHide : MethodName := ⟨RX8, "mayHide", "(IIII)I"⟩
abbrev cX8_layHidden : ByteArray := prog_10_method_56_code
def yX8_layHidden : MethodName := ⟨RX8, "layHidden", "(IIII)V"⟩
abbrev cX8_hidden : ByteArray := prog_10_method_57_code
def yX8_hidden : MethodName := ⟨RX8, "hidden", "(IIIII)I"⟩
abbrev cX8_ask : ByteArray := prog_10_method_58_code
def yX8_ask : MethodName := ⟨RX8, "ask", "(IIII)I"⟩
abbrev cX8_poor : ByteArray := prog_10_method_59_code
def yX8_poor : MethodName := ⟨RX8, "poor", "(IIZ)I"⟩
abbrev cX8_edgeOf : ByteArray := prog_10_method_60_code
def yX8_edgeOf : MethodName := ⟨RX8, "edgeOf", "(IIII)I"⟩
abbrev cX8_mayEdge : ByteArray := prog_10_method_61_code
def yX8_mayEdge : MethodName := ⟨RX8, "mayEdge", "(IIII)I"⟩
abbrev cX8_never : ByteArray := prog_10_method_62_code
def yX8_never : MethodName := ⟨RX8, "never", "(IIII)I"⟩
abbrev cX8_edge : ByteArray := prog_10_method_63_code
def yX8_edge : MethodName := ⟨RX8, "edge", "(IIII)I"⟩
abbrev cX8_takePart : ByteArray := prog_10_method_64_code
def yX8_takePart : MethodName := ⟨RX8, "takePart", "(II)V"⟩
abbrev cX8_spread : ByteArray := prog_10_method_65_code
def yX8_spread : MethodName := ⟨RX8, "spread", "(IIZ)J"⟩
abbrev cX8_mayMove : ByteArray := prog_10_method_66_code
def yX8_mayMove : MethodName := ⟨RX8, "mayMove", "(II)I"⟩
abbrev cX8_moved : ByteArray := prog_10_method_67_code
def yX8_moved : MethodName := ⟨RX8, "moved", "(II)I"⟩
abbrev cX8_lessThan : ByteArray := prog_10_method_68_code
def yX8_lessThan : MethodName := ⟨RX8, "lessThan", "(II)I"⟩
abbrev cX8_rose : ByteArray := prog_10_method_69_code
def yX8_rose : MethodName := ⟨RX8, "rose", "(III)I"⟩
abbrev cX8_band : ByteArray := prog_10_method_70_code
def yX8_band : MethodName := ⟨RX8, "band", "(II)I"⟩
abbrev cX8_unband : ByteArray := prog_10_method_71_code
def yX8_unband : MethodName := ⟨RX8, "unband", "()I"⟩
abbrev cX8_rateAbove : ByteArray := prog_10_method_72_code
def yX8_rateAbove : MethodName := ⟨RX8, "rateAbove", "(I)I"⟩
abbrev cX8_taxOf : ByteArray := prog_10_method_73_code
def yX8_taxOf : MethodName := ⟨RX8, "taxOf", "(I)I"⟩
abbrev cX8_tax : ByteArray := prog_10_method_74_code
def yX8_tax : MethodName := ⟨RX8, "tax", "(I)I"⟩
abbrev cX8_taxed : ByteArray := prog_10_method_75_code
def yX8_taxed : MethodName := ⟨RX8, "taxed", "(II)I"⟩
abbrev cX8_rises : ByteArray := prog_10_method_76_code
def yX8_rises : MethodName := ⟨RX8, "rises", "()I"⟩
abbrev cX8_count : ByteArray := prog_10_method_77_code
def yX8_count : MethodName := ⟨RX8, "count", "(I)I"⟩
def RJ6 : String := "java/lang/Integer"
def TJ6 : u_T := fun k => match k with
  | _ => ("", "", "", false)
def tyJ6 : Nat → FieldType := fun k => match k with
  | _ => .int
abbrev wsJ60 : List Cond := u_ws RJ6 TJ6 0
theorem nmJ6 : ∀ a, a < 0 → ∀ b, b < 0 → a ≠ b → (TJ6 a).2.1 ≠ (TJ6 b).2.1 := by decide +kernel
theorem tyJ6_ok : ∀ k, k < 0 → parseFieldDescriptor (TJ6 k).2.2.1 = some (tyJ6 k) := by decide +kernel
abbrev cJ6_compare_7cf53 : ByteArray := prog_11_method_40_code
def yJ6_compare_7cf53 : MethodName := ⟨RJ6, "compare", "(II)I"⟩
abbrev cJ6_bitCount_0f7a4 : ByteArray := prog_11_method_49_code
def yJ6_bitCount_0f7a4 : MethodName := ⟨RJ6, "bitCount", "(I)I"⟩
def RJ13 : String := "java/lang/Long"
def TJ13 : u_T := fun k => match k with
  | _ => ("", "", "", false)
def tyJ13 : Nat → FieldType := fun k => match k with
  | _ => .int
abbrev wsJ130 : List Cond := u_ws RJ13 TJ13 0
theorem nmJ13 : ∀ a, a < 0 → ∀ b, b < 0 → a ≠ b → (TJ13 a).2.1 ≠ (TJ13 b).2.1 := by decide +kernel
theorem tyJ13_ok : ∀ k, k < 0 → parseFieldDescriptor (TJ13 k).2.2.1 = some (tyJ13 k) := by decide +kernel
abbrev cJ13_compare_74951 : ByteArray := prog_12_method_42_code
def yJ13_compare_74951 : MethodName := ⟨RJ13, "compare", "(JJ)I"⟩
def RJ9 : String := "java/lang/Math"
def TJ9 : u_T := fun k => match k with
  | _ => ("", "", "", false)
def tyJ9 : Nat → FieldType := fun k => match k with
  | _ => .int
abbrev wsJ90 : List Cond := u_ws RJ9 TJ9 0
theorem nmJ9 : ∀ a, a < 0 → ∀ b, b < 0 → a ≠ b → (TJ9 a).2.1 ≠ (TJ9 b).2.1 := by decide +kernel
theorem tyJ9_ok : ∀ k, k < 0 → parseFieldDescriptor (TJ9 k).2.2.1 = some (tyJ9 k) := by decide +kernel
abbrev cJ9_abs_0f7a4 : ByteArray := prog_13_method_59_code
def yJ9_abs_0f7a4 : MethodName := ⟨RJ9, "abs", "(I)I"⟩
abbrev cJ9_max_7cf53 : ByteArray := prog_13_method_65_code
def yJ9_max_7cf53 : MethodName := ⟨RJ9, "max", "(II)I"⟩
abbrev cJ9_min_7cf53 : ByteArray := prog_13_method_69_code
def yJ9_min_7cf53 : MethodName := ⟨RJ9, "min", "(II)I"⟩
abbrev cJ9_min_f86c9 : ByteArray := prog_13_method_70_code
def yJ9_min_f86c9 : MethodName := ⟨RJ9, "min", "(JJ)J"⟩
def RL : String := "MoreEvenLaw"
abbrev cL_law : ByteArray := code
def yL_law : MethodName := ⟨RL, "law", "([I)Z"⟩
abbrev cls9 : List vw_C := [(RX0, TX0, 1), (RX1, TX1, 3), (RX2, TX2, 4), (RX3, TX3, 8), (RX4, TX4, 0), (RX5, TX5, 6), (RX6, TX6, 6), (RX7, TX7, 7), (RX8, TX8, 25)]
theorem inT0 : ∀ w ∈ wsX00, w ∈ lw_tbl := by decide +kernel
theorem inT1 : ∀ w ∈ wsX10, w ∈ lw_tbl := by decide +kernel
theorem inT2 : ∀ w ∈ wsX20, w ∈ lw_tbl := by decide +kernel
theorem inT3 : ∀ w ∈ wsX30, w ∈ lw_tbl := by decide +kernel
theorem inT4 : ∀ w ∈ wsX40, w ∈ lw_tbl := by decide +kernel
theorem inT5 : ∀ w ∈ wsX50, w ∈ lw_tbl := by decide +kernel
theorem inT6 : ∀ w ∈ wsX60, w ∈ lw_tbl := by decide +kernel
theorem inT7 : ∀ w ∈ wsX70, w ∈ lw_tbl := by decide +kernel
theorem inT8 : ∀ w ∈ wsX80, w ∈ lw_tbl := by decide +kernel
