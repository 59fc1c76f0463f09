section
-- ===== PART A: goes FIRST, ahead of the names: the tables' words, and 'selects' of the private methods out of them =====
/-- a private method of a class that the tables say can be made, by its rows of tables_1 -/
def lw_okq (q : MethodName × Nat) : Prop := (q.1.cls ≠ "java/lang/invoke/MethodHandle" ∧ q.1.cls ≠ "java/lang/invoke/VarHandle") ∧ Cond.instantiable q.1.cls q.2 ∈ tables_1 ∧ Cond.privateMethod q.1 ∈ tables_1 ∧ Cond.instanceMethod q.1 ∈ tables_1
theorem lw_p0 : lw_okq (⟨"InningsHouse$Bases", "tell", "(II)V"⟩, 2) := ⟨⟨by decide +kernel, by decide +kernel⟩, List.mem_of_getElem? (i := 69) (by decide +kernel), List.mem_of_getElem? (i := 75) (by decide +kernel), List.mem_of_getElem? (i := 76) (by decide +kernel)⟩
theorem lw_p1 : lw_okq (⟨"InningsHouse", "found", "(I)I"⟩, 9) := ⟨⟨by decide +kernel, by decide +kernel⟩, List.mem_of_getElem? (i := 15) (by decide +kernel), List.mem_of_getElem? (i := 261) (by decide +kernel), List.mem_of_getElem? (i := 262) (by decide +kernel)⟩
theorem lw_p2 : lw_okq (⟨"InningsHouse", "fine", "(I)I"⟩, 9) := ⟨⟨by decide +kernel, by decide +kernel⟩, List.mem_of_getElem? (i := 15) (by decide +kernel), List.mem_of_getElem? (i := 273) (by decide +kernel), List.mem_of_getElem? (i := 274) (by decide +kernel)⟩
theorem lw_p3 : lw_okq (⟨"InningsHouse", "admitted", "()I"⟩, 9) := ⟨⟨by decide +kernel, by decide +kernel⟩, List.mem_of_getElem? (i := 15) (by decide +kernel), List.mem_of_getElem? (i := 324) (by decide +kernel), List.mem_of_getElem? (i := 325) (by decide +kernel)⟩
theorem lw_p4 : lw_okq (⟨"InningsHouse", "isStriker", "(I)Z"⟩, 9) := ⟨⟨by decide +kernel, by decide +kernel⟩, List.mem_of_getElem? (i := 15) (by decide +kernel), List.mem_of_getElem? (i := 332) (by decide +kernel), List.mem_of_getElem? (i := 333) (by decide +kernel)⟩
theorem lw_p5 : lw_okq (⟨"InningsHouse", "isPlace", "(I)Z"⟩, 9) := ⟨⟨by decide +kernel, by decide +kernel⟩, List.mem_of_getElem? (i := 15) (by decide +kernel), List.mem_of_getElem? (i := 363) (by decide +kernel), List.mem_of_getElem? (i := 364) (by decide +kernel)⟩
theorem lw_p6 : lw_okq (⟨"InningsHouse$Lineup", "fillMeans", "(II)V"⟩, 9) := ⟨⟨by decide +kernel, by decide +kernel⟩, List.mem_of_getElem? (i := 109) (by decide +kernel), List.mem_of_getElem? (i := 375) (by decide +kernel), List.mem_of_getElem? (i := 376) (by decide +kernel)⟩
theorem lw_p7 : lw_okq (⟨"InningsHouse$Lineup", "chancesAt", "(I)[I"⟩, 9) := ⟨⟨by decide +kernel, by decide +kernel⟩, List.mem_of_getElem? (i := 109) (by decide +kernel), List.mem_of_getElem? (i := 382) (by decide +kernel), List.mem_of_getElem? (i := 383) (by decide +kernel)⟩
theorem lw_p8 : lw_okq (⟨"InningsHouse$Lineup", "fillMeansOf", "([I)V"⟩, 9) := ⟨⟨by decide +kernel, by decide +kernel⟩, List.mem_of_getElem? (i := 109) (by decide +kernel), List.mem_of_getElem? (i := 386) (by decide +kernel), List.mem_of_getElem? (i := 387) (by decide +kernel)⟩
theorem lw_p9 : lw_okq (⟨"InningsHouse$Lineup", "fillLikeliesOf", "([III)V"⟩, 9) := ⟨⟨by decide +kernel, by decide +kernel⟩, List.mem_of_getElem? (i := 109) (by decide +kernel), List.mem_of_getElem? (i := 405) (by decide +kernel), List.mem_of_getElem? (i := 406) (by decide +kernel)⟩
theorem lw_p10 : lw_okq (⟨"InningsHouse$Lineup", "exchangeFirstBetter", "()Z"⟩, 9) := ⟨⟨by decide +kernel, by decide +kernel⟩, List.mem_of_getElem? (i := 109) (by decide +kernel), List.mem_of_getElem? (i := 436) (by decide +kernel), List.mem_of_getElem? (i := 437) (by decide +kernel)⟩
theorem lw_p11 : lw_okq (⟨"InningsHouse$Lineup", "exchange", "(II)V"⟩, 9) := ⟨⟨by decide +kernel, by decide +kernel⟩, List.mem_of_getElem? (i := 109) (by decide +kernel), List.mem_of_getElem? (i := 441) (by decide +kernel), List.mem_of_getElem? (i := 442) (by decide +kernel)⟩
theorem lw_p12 : lw_okq (⟨"InningsHouse$Lineup", "sortRow", "()V"⟩, 9) := ⟨⟨by decide +kernel, by decide +kernel⟩, List.mem_of_getElem? (i := 109) (by decide +kernel), List.mem_of_getElem? (i := 453) (by decide +kernel), List.mem_of_getElem? (i := 454) (by decide +kernel)⟩
theorem lw_p13 : lw_okq (⟨"InningsHouse$Lineup", "halvesWereMetExchanged", "()Z"⟩, 9) := ⟨⟨by decide +kernel, by decide +kernel⟩, List.mem_of_getElem? (i := 109) (by decide +kernel), List.mem_of_getElem? (i := 457) (by decide +kernel), List.mem_of_getElem? (i := 458) (by decide +kernel)⟩
theorem lw_p14 : lw_okq (⟨"InningsHouse$Lineup", "nextRow", "()Z"⟩, 9) := ⟨⟨by decide +kernel, by decide +kernel⟩, List.mem_of_getElem? (i := 109) (by decide +kernel), List.mem_of_getElem? (i := 461) (by decide +kernel), List.mem_of_getElem? (i := 462) (by decide +kernel)⟩
theorem lw_p15 : lw_okq (⟨"InningsHouse$Match", "learnStarts", "(I)V"⟩, 8) := ⟨⟨by decide +kernel, by decide +kernel⟩, List.mem_of_getElem? (i := 146) (by decide +kernel), List.mem_of_getElem? (i := 484) (by decide +kernel), List.mem_of_getElem? (i := 485) (by decide +kernel)⟩
def lw_privs_1 : List (MethodName × Nat) := [(⟨"InningsHouse$Bases", "tell", "(II)V"⟩, 2), (⟨"InningsHouse", "found", "(I)I"⟩, 9), (⟨"InningsHouse", "fine", "(I)I"⟩, 9), (⟨"InningsHouse", "admitted", "()I"⟩, 9), (⟨"InningsHouse", "isStriker", "(I)Z"⟩, 9), (⟨"InningsHouse", "isPlace", "(I)Z"⟩, 9), (⟨"InningsHouse$Lineup", "fillMeans", "(II)V"⟩, 9), (⟨"InningsHouse$Lineup", "chancesAt", "(I)[I"⟩, 9), (⟨"InningsHouse$Lineup", "fillMeansOf", "([I)V"⟩, 9), (⟨"InningsHouse$Lineup", "fillLikeliesOf", "([III)V"⟩, 9), (⟨"InningsHouse$Lineup", "exchangeFirstBetter", "()Z"⟩, 9), (⟨"InningsHouse$Lineup", "exchange", "(II)V"⟩, 9), (⟨"InningsHouse$Lineup", "sortRow", "()V"⟩, 9), (⟨"InningsHouse$Lineup", "halvesWereMetExchanged", "()Z"⟩, 9), (⟨"InningsHouse$Lineup", "nextRow", "()Z"⟩, 9), (⟨"InningsHouse$Match", "learnStarts", "(I)V"⟩, 8)]
theorem lw_r1 : ∀ q ∈ lw_privs_1, lw_okq q := List.forall_mem_cons.mpr ⟨lw_p0, List.forall_mem_cons.mpr ⟨lw_p1, List.forall_mem_cons.mpr ⟨lw_p2, List.forall_mem_cons.mpr ⟨lw_p3, List.forall_mem_cons.mpr ⟨lw_p4, List.forall_mem_cons.mpr ⟨lw_p5, List.forall_mem_cons.mpr ⟨lw_p6, List.forall_mem_cons.mpr ⟨lw_p7, List.forall_mem_cons.mpr ⟨lw_p8, List.forall_mem_cons.mpr ⟨lw_p9, List.forall_mem_cons.mpr ⟨lw_p10, List.forall_mem_cons.mpr ⟨lw_p11, List.forall_mem_cons.mpr ⟨lw_p12, List.forall_mem_cons.mpr ⟨lw_p13, List.forall_mem_cons.mpr ⟨lw_p14, List.forall_mem_cons.mpr ⟨lw_p15, fun _ h => absurd h List.not_mem_nil⟩⟩⟩⟩⟩⟩⟩⟩⟩⟩⟩⟩⟩⟩⟩⟩
theorem lw_p16 : lw_okq (⟨"InningsHouse$Match", "fillHalf", "(II)V"⟩, 8) := ⟨⟨by decide +kernel, by decide +kernel⟩, List.mem_of_getElem? (i := 146) (by decide +kernel), List.mem_of_getElem? (i := 488) (by decide +kernel), List.mem_of_getElem? (i := 489) (by decide +kernel)⟩
theorem lw_p17 : lw_okq (⟨"InningsHouse$Match", "beginHalf", "([II)V"⟩, 8) := ⟨⟨by decide +kernel, by decide +kernel⟩, List.mem_of_getElem? (i := 146) (by decide +kernel), List.mem_of_getElem? (i := 492) (by decide +kernel), List.mem_of_getElem? (i := 493) (by decide +kernel)⟩
theorem lw_p18 : lw_okq (⟨"InningsHouse$Match", "winByBest", "(II)I"⟩, 8) := ⟨⟨by decide +kernel, by decide +kernel⟩, List.mem_of_getElem? (i := 146) (by decide +kernel), List.mem_of_getElem? (i := 496) (by decide +kernel), List.mem_of_getElem? (i := 497) (by decide +kernel)⟩
theorem lw_p19 : lw_okq (⟨"InningsHouse$Match", "winByStrike", "(II)I"⟩, 8) := ⟨⟨by decide +kernel, by decide +kernel⟩, List.mem_of_getElem? (i := 146) (by decide +kernel), List.mem_of_getElem? (i := 500) (by decide +kernel), List.mem_of_getElem? (i := 501) (by decide +kernel)⟩
theorem lw_p20 : lw_okq (⟨"InningsHouse$Match", "winAfter", "(III)I"⟩, 8) := ⟨⟨by decide +kernel, by decide +kernel⟩, List.mem_of_getElem? (i := 146) (by decide +kernel), List.mem_of_getElem? (i := 504) (by decide +kernel), List.mem_of_getElem? (i := 505) (by decide +kernel)⟩
theorem lw_p21 : lw_okq (⟨"InningsHouse$Match", "betterOf", "(II)I"⟩, 8) := ⟨⟨by decide +kernel, by decide +kernel⟩, List.mem_of_getElem? (i := 146) (by decide +kernel), List.mem_of_getElem? (i := 511) (by decide +kernel), List.mem_of_getElem? (i := 512) (by decide +kernel)⟩
theorem lw_p22 : lw_okq (⟨"InningsHouse$Match", "winBySteal", "(II)I"⟩, 8) := ⟨⟨by decide +kernel, by decide +kernel⟩, List.mem_of_getElem? (i := 146) (by decide +kernel), List.mem_of_getElem? (i := 519) (by decide +kernel), List.mem_of_getElem? (i := 520) (by decide +kernel)⟩
theorem lw_p23 : lw_okq (⟨"InningsHouse$Match", "choiceAt", "(II)I"⟩, 8) := ⟨⟨by decide +kernel, by decide +kernel⟩, List.mem_of_getElem? (i := 146) (by decide +kernel), List.mem_of_getElem? (i := 523) (by decide +kernel), List.mem_of_getElem? (i := 524) (by decide +kernel)⟩
theorem lw_p24 : lw_okq (⟨"InningsHouse$Match", "walkIsBetter", "(II)I"⟩, 8) := ⟨⟨by decide +kernel, by decide +kernel⟩, List.mem_of_getElem? (i := 146) (by decide +kernel), List.mem_of_getElem? (i := 527) (by decide +kernel), List.mem_of_getElem? (i := 528) (by decide +kernel)⟩
theorem lw_p25 : lw_okq (⟨"InningsHouse", "findingOfLog", "(III)I"⟩, 9) := ⟨⟨by decide +kernel, by decide +kernel⟩, List.mem_of_getElem? (i := 15) (by decide +kernel), List.mem_of_getElem? (i := 535) (by decide +kernel), List.mem_of_getElem? (i := 536) (by decide +kernel)⟩
theorem lw_p26 : lw_okq (⟨"InningsHouse$LogReader", "fits", "(III)Z"⟩, 6) := ⟨⟨by decide +kernel, by decide +kernel⟩, List.mem_of_getElem? (i := 181) (by decide +kernel), List.mem_of_getElem? (i := 545) (by decide +kernel), List.mem_of_getElem? (i := 546) (by decide +kernel)⟩
theorem lw_p27 : lw_okq (⟨"InningsHouse$Asks", "sizeOf", "(LInningsHouse$Striker;I)I"⟩, 2) := ⟨⟨by decide +kernel, by decide +kernel⟩, List.mem_of_getElem? (i := 207) (by decide +kernel), List.mem_of_getElem? (i := 586) (by decide +kernel), List.mem_of_getElem? (i := 587) (by decide +kernel)⟩
theorem lw_p28 : lw_okq (⟨"InningsHouse$Asks", "sizeOfStrong", "(LInningsHouse$Striker;)I"⟩, 2) := ⟨⟨by decide +kernel, by decide +kernel⟩, List.mem_of_getElem? (i := 207) (by decide +kernel), List.mem_of_getElem? (i := 591) (by decide +kernel), List.mem_of_getElem? (i := 592) (by decide +kernel)⟩
theorem lw_p29 : lw_okq (⟨"InningsHouse$Asks", "leave", "(I)V"⟩, 2) := ⟨⟨by decide +kernel, by decide +kernel⟩, List.mem_of_getElem? (i := 207) (by decide +kernel), List.mem_of_getElem? (i := 595) (by decide +kernel), List.mem_of_getElem? (i := 596) (by decide +kernel)⟩
theorem lw_p30 : lw_okq (⟨"InningsHouse$Asks", "sizeOfSafe", "(LInningsHouse$Striker;)I"⟩, 2) := ⟨⟨by decide +kernel, by decide +kernel⟩, List.mem_of_getElem? (i := 207) (by decide +kernel), List.mem_of_getElem? (i := 599) (by decide +kernel), List.mem_of_getElem? (i := 600) (by decide +kernel)⟩
theorem lw_p31 : lw_okq (⟨"InningsHouse$Asks", "sizeLent", "(LInningsHouse$Striker;)I"⟩, 2) := ⟨⟨by decide +kernel, by decide +kernel⟩, List.mem_of_getElem? (i := 207) (by decide +kernel), List.mem_of_getElem? (i := 603) (by decide +kernel), List.mem_of_getElem? (i := 604) (by decide +kernel)⟩
def lw_privs_2 : List (MethodName × Nat) := [(⟨"InningsHouse$Match", "fillHalf", "(II)V"⟩, 8), (⟨"InningsHouse$Match", "beginHalf", "([II)V"⟩, 8), (⟨"InningsHouse$Match", "winByBest", "(II)I"⟩, 8), (⟨"InningsHouse$Match", "winByStrike", "(II)I"⟩, 8), (⟨"InningsHouse$Match", "winAfter", "(III)I"⟩, 8), (⟨"InningsHouse$Match", "betterOf", "(II)I"⟩, 8), (⟨"InningsHouse$Match", "winBySteal", "(II)I"⟩, 8), (⟨"InningsHouse$Match", "choiceAt", "(II)I"⟩, 8), (⟨"InningsHouse$Match", "walkIsBetter", "(II)I"⟩, 8), (⟨"InningsHouse", "findingOfLog", "(III)I"⟩, 9), (⟨"InningsHouse$LogReader", "fits", "(III)Z"⟩, 6), (⟨"InningsHouse$Asks", "sizeOf", "(LInningsHouse$Striker;I)I"⟩, 2), (⟨"InningsHouse$Asks", "sizeOfStrong", "(LInningsHouse$Striker;)I"⟩, 2), (⟨"InningsHouse$Asks", "leave", "(I)V"⟩, 2), (⟨"InningsHouse$Asks", "sizeOfSafe", "(LInningsHouse$Striker;)I"⟩, 2), (⟨"InningsHouse$Asks", "sizeLent", "(LInningsHouse$Striker;)I"⟩, 2)]
theorem lw_r2 : ∀ q ∈ lw_privs_2, lw_okq q := List.forall_mem_cons.mpr ⟨lw_p16, List.forall_mem_cons.mpr ⟨lw_p17, List.forall_mem_cons.mpr ⟨lw_p18, List.forall_mem_cons.mpr ⟨lw_p19, List.forall_mem_cons.mpr ⟨lw_p20, List.forall_mem_cons.mpr ⟨lw_p21, List.forall_mem_cons.mpr ⟨lw_p22, List.forall_mem_cons.mpr ⟨lw_p23, List.forall_mem_cons.mpr ⟨lw_p24, List.forall_mem_cons.mpr ⟨lw_p25, List.forall_mem_cons.mpr ⟨lw_p26, List.forall_mem_cons.mpr ⟨lw_p27, List.forall_mem_cons.mpr ⟨lw_p28, List.forall_mem_cons.mpr ⟨lw_p29, List.forall_mem_cons.mpr ⟨lw_p30, List.forall_mem_cons.mpr ⟨lw_p31, fun _ h => absurd h List.not_mem_nil⟩⟩⟩⟩⟩⟩⟩⟩⟩⟩⟩⟩⟩⟩⟩⟩
theorem lw_p32 : lw_okq (⟨"InningsHouse$Asks", "sizeOfQuick", "(LInningsHouse$Striker;I)I"⟩, 2) := ⟨⟨by decide +kernel, by decide +kernel⟩, List.mem_of_getElem? (i := 207) (by decide +kernel), List.mem_of_getElem? (i := 607) (by decide +kernel), List.mem_of_getElem? (i := 608) (by decide +kernel)⟩
theorem lw_p33 : lw_okq (⟨"InningsHouse$Asks", "markOf", "(LInningsHouse$Striker;I)I"⟩, 2) := ⟨⟨by decide +kernel, by decide +kernel⟩, List.mem_of_getElem? (i := 207) (by decide +kernel), List.mem_of_getElem? (i := 611) (by decide +kernel), List.mem_of_getElem? (i := 612) (by decide +kernel)⟩
theorem lw_p34 : lw_okq (⟨"InningsHouse$Asks", "markOfStrong", "(LInningsHouse$Striker;I)I"⟩, 2) := ⟨⟨by decide +kernel, by decide +kernel⟩, List.mem_of_getElem? (i := 207) (by decide +kernel), List.mem_of_getElem? (i := 615) (by decide +kernel), List.mem_of_getElem? (i := 616) (by decide +kernel)⟩
theorem lw_p35 : lw_okq (⟨"InningsHouse$Asks", "markOfSafe", "(LInningsHouse$Striker;)I"⟩, 2) := ⟨⟨by decide +kernel, by decide +kernel⟩, List.mem_of_getElem? (i := 207) (by decide +kernel), List.mem_of_getElem? (i := 619) (by decide +kernel), List.mem_of_getElem? (i := 620) (by decide +kernel)⟩
theorem lw_p36 : lw_okq (⟨"InningsHouse$Asks", "markLent", "(LInningsHouse$Striker;)I"⟩, 2) := ⟨⟨by decide +kernel, by decide +kernel⟩, List.mem_of_getElem? (i := 207) (by decide +kernel), List.mem_of_getElem? (i := 623) (by decide +kernel), List.mem_of_getElem? (i := 624) (by decide +kernel)⟩
theorem lw_p37 : lw_okq (⟨"InningsHouse$Asks", "markOfQuick", "(LInningsHouse$Striker;)I"⟩, 2) := ⟨⟨by decide +kernel, by decide +kernel⟩, List.mem_of_getElem? (i := 207) (by decide +kernel), List.mem_of_getElem? (i := 628) (by decide +kernel), List.mem_of_getElem? (i := 629) (by decide +kernel)⟩
theorem lw_p38 : lw_okq (⟨"InningsHouse", "howManySheets", "()I"⟩, 9) := ⟨⟨by decide +kernel, by decide +kernel⟩, List.mem_of_getElem? (i := 15) (by decide +kernel), List.mem_of_getElem? (i := 641) (by decide +kernel), List.mem_of_getElem? (i := 642) (by decide +kernel)⟩
theorem lw_p39 : lw_okq (⟨"InningsHouse", "howManyStrikers", "(I)I"⟩, 9) := ⟨⟨by decide +kernel, by decide +kernel⟩, List.mem_of_getElem? (i := 15) (by decide +kernel), List.mem_of_getElem? (i := 645) (by decide +kernel), List.mem_of_getElem? (i := 646) (by decide +kernel)⟩
theorem lw_p40 : lw_okq (⟨"InningsHouseModel", "found", "(I)I"⟩, 22) := ⟨⟨by decide +kernel, by decide +kernel⟩, List.mem_of_getElem? (i := 653) (by decide +kernel), List.mem_of_getElem? (i := 742) (by decide +kernel), List.mem_of_getElem? (i := 743) (by decide +kernel)⟩
theorem lw_p41 : lw_okq (⟨"InningsHouseModel", "settle", "(I)V"⟩, 22) := ⟨⟨by decide +kernel, by decide +kernel⟩, List.mem_of_getElem? (i := 653) (by decide +kernel), List.mem_of_getElem? (i := 786) (by decide +kernel), List.mem_of_getElem? (i := 787) (by decide +kernel)⟩
theorem lw_p42 : lw_okq (⟨"InningsHouseModel", "isStriker", "(I)Z"⟩, 22) := ⟨⟨by decide +kernel, by decide +kernel⟩, List.mem_of_getElem? (i := 653) (by decide +kernel), List.mem_of_getElem? (i := 794) (by decide +kernel), List.mem_of_getElem? (i := 795) (by decide +kernel)⟩
theorem lw_p43 : lw_okq (⟨"InningsHouseModel", "isAt", "(III)Z"⟩, 22) := ⟨⟨by decide +kernel, by decide +kernel⟩, List.mem_of_getElem? (i := 653) (by decide +kernel), List.mem_of_getElem? (i := 817) (by decide +kernel), List.mem_of_getElem? (i := 818) (by decide +kernel)⟩
theorem lw_p44 : lw_okq (⟨"InningsHouseModel", "findMeans", "(I)V"⟩, 22) := ⟨⟨by decide +kernel, by decide +kernel⟩, List.mem_of_getElem? (i := 653) (by decide +kernel), List.mem_of_getElem? (i := 823) (by decide +kernel), List.mem_of_getElem? (i := 824) (by decide +kernel)⟩
theorem lw_p45 : lw_okq (⟨"InningsHouseModel", "rateNow", "()I"⟩, 22) := ⟨⟨by decide +kernel, by decide +kernel⟩, List.mem_of_getElem? (i := 653) (by decide +kernel), List.mem_of_getElem? (i := 841) (by decide +kernel), List.mem_of_getElem? (i := 842) (by decide +kernel)⟩
theorem lw_p46 : lw_okq (⟨"InningsHouseModel", "exchange", "(II)V"⟩, 22) := ⟨⟨by decide +kernel, by decide +kernel⟩, List.mem_of_getElem? (i := 653) (by decide +kernel), List.mem_of_getElem? (i := 849) (by decide +kernel), List.mem_of_getElem? (i := 850) (by decide +kernel)⟩
theorem lw_p47 : lw_okq (⟨"InningsHouseModel", "nextOrder", "()Z"⟩, 22) := ⟨⟨by decide +kernel, by decide +kernel⟩, List.mem_of_getElem? (i := 653) (by decide +kernel), List.mem_of_getElem? (i := 857) (by decide +kernel), List.mem_of_getElem? (i := 858) (by decide +kernel)⟩
def lw_privs_3 : List (MethodName × Nat) := [(⟨"InningsHouse$Asks", "sizeOfQuick", "(LInningsHouse$Striker;I)I"⟩, 2), (⟨"InningsHouse$Asks", "markOf", "(LInningsHouse$Striker;I)I"⟩, 2), (⟨"InningsHouse$Asks", "markOfStrong", "(LInningsHouse$Striker;I)I"⟩, 2), (⟨"InningsHouse$Asks", "markOfSafe", "(LInningsHouse$Striker;)I"⟩, 2), (⟨"InningsHouse$Asks", "markLent", "(LInningsHouse$Striker;)I"⟩, 2), (⟨"InningsHouse$Asks", "markOfQuick", "(LInningsHouse$Striker;)I"⟩, 2), (⟨"InningsHouse", "howManySheets", "()I"⟩, 9), (⟨"InningsHouse", "howManyStrikers", "(I)I"⟩, 9), (⟨"InningsHouseModel", "found", "(I)I"⟩, 22), (⟨"InningsHouseModel", "settle", "(I)V"⟩, 22), (⟨"InningsHouseModel", "isStriker", "(I)Z"⟩, 22), (⟨"InningsHouseModel", "isAt", "(III)Z"⟩, 22), (⟨"InningsHouseModel", "findMeans", "(I)V"⟩, 22), (⟨"InningsHouseModel", "rateNow", "()I"⟩, 22), (⟨"InningsHouseModel", "exchange", "(II)V"⟩, 22), (⟨"InningsHouseModel", "nextOrder", "()Z"⟩, 22)]
theorem lw_r3 : ∀ q ∈ lw_privs_3, lw_okq q := List.forall_mem_cons.mpr ⟨lw_p32, List.forall_mem_cons.mpr ⟨lw_p33, List.forall_mem_cons.mpr ⟨lw_p34, List.forall_mem_cons.mpr ⟨lw_p35, List.forall_mem_cons.mpr ⟨lw_p36, List.forall_mem_cons.mpr ⟨lw_p37, List.forall_mem_cons.mpr ⟨lw_p38, List.forall_mem_cons.mpr ⟨lw_p39, List.forall_mem_cons.mpr ⟨lw_p40, List.forall_mem_cons.mpr ⟨lw_p41, List.forall_mem_cons.mpr ⟨lw_p42, List.forall_mem_cons.mpr ⟨lw_p43, List.forall_mem_cons.mpr ⟨lw_p44, List.forall_mem_cons.mpr ⟨lw_p45, List.forall_mem_cons.mpr ⟨lw_p46, List.forall_mem_cons.mpr ⟨lw_p47, fun _ h => absurd h List.not_mem_nil⟩⟩⟩⟩⟩⟩⟩⟩⟩⟩⟩⟩⟩⟩⟩⟩
theorem lw_p48 : lw_okq (⟨"InningsHouseModel", "play", "(IIII)V"⟩, 22) := ⟨⟨by decide +kernel, by decide +kernel⟩, List.mem_of_getElem? (i := 653) (by decide +kernel), List.mem_of_getElem? (i := 872) (by decide +kernel), List.mem_of_getElem? (i := 873) (by decide +kernel)⟩
theorem lw_p49 : lw_okq (⟨"InningsHouseModel", "winBehind", "(IIIII)I"⟩, 22) := ⟨⟨by decide +kernel, by decide +kernel⟩, List.mem_of_getElem? (i := 653) (by decide +kernel), List.mem_of_getElem? (i := 880) (by decide +kernel), List.mem_of_getElem? (i := 881) (by decide +kernel)⟩
theorem lw_p50 : lw_okq (⟨"InningsHouseModel", "take", "(IIII)V"⟩, 22) := ⟨⟨by decide +kernel, by decide +kernel⟩, List.mem_of_getElem? (i := 653) (by decide +kernel), List.mem_of_getElem? (i := 884) (by decide +kernel), List.mem_of_getElem? (i := 885) (by decide +kernel)⟩
theorem lw_p51 : lw_okq (⟨"InningsHouseModel", "readLog", "(III)I"⟩, 22) := ⟨⟨by decide +kernel, by decide +kernel⟩, List.mem_of_getElem? (i := 653) (by decide +kernel), List.mem_of_getElem? (i := 896) (by decide +kernel), List.mem_of_getElem? (i := 897) (by decide +kernel)⟩
theorem lw_p52 : lw_okq (⟨"InningsHouseModel", "kindOf", "(I)I"⟩, 22) := ⟨⟨by decide +kernel, by decide +kernel⟩, List.mem_of_getElem? (i := 653) (by decide +kernel), List.mem_of_getElem? (i := 908) (by decide +kernel), List.mem_of_getElem? (i := 909) (by decide +kernel)⟩
theorem lw_p53 : lw_okq (⟨"InningsHouseModel", "sizeOf", "(II)I"⟩, 22) := ⟨⟨by decide +kernel, by decide +kernel⟩, List.mem_of_getElem? (i := 653) (by decide +kernel), List.mem_of_getElem? (i := 923) (by decide +kernel), List.mem_of_getElem? (i := 924) (by decide +kernel)⟩
theorem lw_p54 : lw_okq (⟨"InningsHouseModel", "safeSize", "(II)I"⟩, 22) := ⟨⟨by decide +kernel, by decide +kernel⟩, List.mem_of_getElem? (i := 653) (by decide +kernel), List.mem_of_getElem? (i := 927) (by decide +kernel), List.mem_of_getElem? (i := 928) (by decide +kernel)⟩
theorem lw_p55 : lw_okq (⟨"InningsHouseModel", "began", "(I)V"⟩, 22) := ⟨⟨by decide +kernel, by decide +kernel⟩, List.mem_of_getElem? (i := 653) (by decide +kernel), List.mem_of_getElem? (i := 931) (by decide +kernel), List.mem_of_getElem? (i := 932) (by decide +kernel)⟩
theorem lw_p56 : lw_okq (⟨"InningsHouseModel", "markOf", "(II)I"⟩, 22) := ⟨⟨by decide +kernel, by decide +kernel⟩, List.mem_of_getElem? (i := 653) (by decide +kernel), List.mem_of_getElem? (i := 935) (by decide +kernel), List.mem_of_getElem? (i := 936) (by decide +kernel)⟩
def lw_privs_4 : List (MethodName × Nat) := [(⟨"InningsHouseModel", "play", "(IIII)V"⟩, 22), (⟨"InningsHouseModel", "winBehind", "(IIIII)I"⟩, 22), (⟨"InningsHouseModel", "take", "(IIII)V"⟩, 22), (⟨"InningsHouseModel", "readLog", "(III)I"⟩, 22), (⟨"InningsHouseModel", "kindOf", "(I)I"⟩, 22), (⟨"InningsHouseModel", "sizeOf", "(II)I"⟩, 22), (⟨"InningsHouseModel", "safeSize", "(II)I"⟩, 22), (⟨"InningsHouseModel", "began", "(I)V"⟩, 22), (⟨"InningsHouseModel", "markOf", "(II)I"⟩, 22)]
theorem lw_r4 : ∀ q ∈ lw_privs_4, lw_okq q := List.forall_mem_cons.mpr ⟨lw_p48, List.forall_mem_cons.mpr ⟨lw_p49, List.forall_mem_cons.mpr ⟨lw_p50, List.forall_mem_cons.mpr ⟨lw_p51, List.forall_mem_cons.mpr ⟨lw_p52, List.forall_mem_cons.mpr ⟨lw_p53, List.forall_mem_cons.mpr ⟨lw_p54, List.forall_mem_cons.mpr ⟨lw_p55, List.forall_mem_cons.mpr ⟨lw_p56, fun _ h => absurd h List.not_mem_nil⟩⟩⟩⟩⟩⟩⟩⟩⟩
def lw_privs : List (MethodName × Nat) := lw_privs_1 ++ (lw_privs_2 ++ (lw_privs_3 ++ (lw_privs_4)))
def lw_tbl : List Cond := k2_sels lw_privs ++ tables_1
theorem lw_privs_ok : ∀ q ∈ lw_privs, lw_okq q := by
  show ∀ q ∈ lw_privs_1 ++ (lw_privs_2 ++ (lw_privs_3 ++ (lw_privs_4))), lw_okq q
  exact List.forall_mem_append.mpr ⟨lw_r1, List.forall_mem_append.mpr ⟨lw_r2, List.forall_mem_append.mpr ⟨lw_r3, lw_r4⟩⟩⟩
-- ===== end of PART A; then your names; then what follows =====
end
section
/-! ===== BEGIN words of one list among another's, by their places ===== -/
theorem goodIn_r {big : List Cond} (ws : List Cond) (ps : List Nat) (hp : ws = ps.filterMap (fun i => big[i]?)) (h : ws.all goodWord = true) : GoodIn big ws := by
  intro w hw
  have h1 := List.all_eq_true.mp h w hw
  rw [hp] at hw
  obtain ⟨i, -, hi⟩ := List.mem_filterMap.mp hw
  have hm : w ∈ big := by first | exact List.mem_of_getElem? hi | exact List.getElem?_mem hi
  exact ⟨hm, good_of_word h1⟩
theorem goodIn_app {big a b : List Cond} (ha : GoodIn big a) (hb : GoodIn big b) : GoodIn big (a ++ b) := fun w h => (List.mem_append.mp h).elim (ha w) (hb w)
theorem goodIn_ca {big a b : List Cond} {c : Cond} (ha : GoodIn big (c :: a)) (hb : GoodIn big b) : GoodIn big (c :: (a ++ b)) := fun w h => (List.mem_cons.mp h).elim (fun e => ha w (List.mem_cons.mpr (Or.inl e))) (fun h => (List.mem_append.mp h).elim (fun h => ha w (List.mem_cons.mpr (Or.inr h))) (hb w))
theorem goodIn_sub {big ws : List Cond} (hm : ∀ w ∈ ws, w ∈ big) (h : ws.all goodWord = true) : GoodIn big ws := fun w hw => ⟨hm w hw, good_of_word (List.all_eq_true.mp h w hw)⟩
/-! ===== END ===== -/

/-! ===== BEGIN printed: names, fields, word lists, decode rows ===== -/
def RX0 : String := "InningsHouse$Asks"
def TX0 : u_T := fun k => match k with
  | 0 => ("InningsHouse$Asks", "numbers", "[I", true)
  | _ => ("InningsHouse$Asks", "left", "I", false)
def tyX0 : Nat → FieldType := fun k => match k with
  | 0 => .array .int
  | _ => .int
abbrev wsX00 : List Cond := u_ws RX0 TX0 2
theorem nmX0 : ∀ a, a < 2 → ∀ b, b < 2 → a ≠ b → (TX0 a).2.1 ≠ (TX0 b).2.1 := by decide +kernel
theorem tyX0_ok : ∀ k, k < 2 → parseFieldDescriptor (TX0 k).2.2.1 = some (tyX0 k) := by decide +kernel
abbrev cX0_init : ByteArray := prog_2_method_1_code
def yX0_init : MethodName := ⟨RX0, "<init>", "()V"⟩
abbrev cX0_sizeOf : ByteArray := prog_2_method_2_code
def yX0_sizeOf : MethodName := ⟨RX0, "sizeOf", "(LInningsHouse$Striker;I)I"⟩
abbrev cX0_markOf : ByteArray := prog_2_method_3_code
def yX0_markOf : MethodName := ⟨RX0, "markOf", "(LInningsHouse$Striker;I)I"⟩
abbrev cX0_sizeLent : ByteArray := prog_2_method_4_code
def yX0_sizeLent : MethodName := ⟨RX0, "sizeLent", "(LInningsHouse$Striker;)I"⟩
abbrev cX0_sizeOfSafe : ByteArray := prog_2_method_5_code
def yX0_sizeOfSafe : MethodName := ⟨RX0, "sizeOfSafe", "(LInningsHouse$Striker;)I"⟩
abbrev cX0_sizeOfStrong : ByteArray := prog_2_method_6_code
def yX0_sizeOfStrong : MethodName := ⟨RX0, "sizeOfStrong", "(LInningsHouse$Striker;)I"⟩
abbrev cX0_sizeOfQuick : ByteArray := prog_2_method_7_code
def yX0_sizeOfQuick : MethodName := ⟨RX0, "sizeOfQuick", "(LInningsHouse$Striker;I)I"⟩
abbrev cX0_markLent : ByteArray := prog_2_method_8_code
def yX0_markLent : MethodName := ⟨RX0, "markLent", "(LInningsHouse$Striker;)I"⟩
abbrev cX0_markOfSafe : ByteArray := prog_2_method_9_code
def yX0_markOfSafe : MethodName := ⟨RX0, "markOfSafe", "(LInningsHouse$Striker;)I"⟩
abbrev cX0_markOfStrong : ByteArray := prog_2_method_10_code
def yX0_markOfStrong : MethodName := ⟨RX0, "markOfStrong", "(LInningsHouse$Striker;I)I"⟩
abbrev cX0_markOfQuick : ByteArray := prog_2_method_11_code
def yX0_markOfQuick : MethodName := ⟨RX0, "markOfQuick", "(LInningsHouse$Striker;)I"⟩
abbrev cX0_leave : ByteArray := prog_2_method_12_code
def yX0_leave : MethodName := ⟨RX0, "leave", "(I)V"⟩
def RX1 : String := "InningsHouse$Bases"
def TX1 : u_T := fun k => match k with
  | 0 => ("InningsHouse$Bases", "standings", "[I", true)
  | _ => ("InningsHouse$Bases", "runs", "[I", true)
def tyX1 : Nat → FieldType := fun k => match k with
  | 0 => .array .int
  | _ => .array .int
abbrev wsX10 : List Cond := u_ws RX1 TX1 2
theorem nmX1 : ∀ a, a < 2 → ∀ b, b < 2 → a ≠ b → (TX1 a).2.1 ≠ (TX1 b).2.1 := by decide +kernel
theorem tyX1_ok : ∀ k, k < 2 → parseFieldDescriptor (TX1 k).2.2.1 = some (tyX1 k) := by decide +kernel
abbrev cX1_init : ByteArray := prog_3_method_1_code
def yX1_init : MethodName := ⟨RX1, "<init>", "()V"⟩
abbrev cX1_standingAfter : ByteArray := prog_3_method_2_code
def yX1_standingAfter : MethodName := ⟨RX1, "standingAfter", "(II)I"⟩
abbrev cX1_runsOf : ByteArray := prog_3_method_3_code
def yX1_runsOf : MethodName := ⟨RX1, "runsOf", "(II)I"⟩
abbrev cX1_someoneIsOn : ByteArray := prog_3_method_4_code
def yX1_someoneIsOn : MethodName := ⟨RX1, "someoneIsOn", "(I)Z"⟩
abbrev cX1_canSteal : ByteArray := prog_3_method_5_code
def yX1_canSteal : MethodName := ⟨RX1, "canSteal", "(I)Z"⟩
abbrev cX1_tell : ByteArray := prog_3_method_6_code
def yX1_tell : MethodName := ⟨RX1, "tell", "(II)V"⟩
abbrev cX1_menAfter : ByteArray := prog_3_method_7_code
def yX1_menAfter : MethodName := ⟨RX1, "menAfter", "(II)I"⟩
abbrev cX1_menAfterWalk : ByteArray := prog_3_method_8_code
def yX1_menAfterWalk : MethodName := ⟨RX1, "menAfterWalk", "(I)I"⟩
abbrev cX1_menHome : ByteArray := prog_3_method_9_code
def yX1_menHome : MethodName := ⟨RX1, "menHome", "(II)I"⟩
def RX2 : String := "InningsHouse$Lineup"
def TX2 : u_T := fun k => match k with
  | 0 => ("InningsHouse$Lineup", "bases", "LInningsHouse$Bases;", true)
  | 1 => ("InningsHouse$Lineup", "strikers", "[LInningsHouse$Striker;", true)
  | 2 => ("InningsHouse$Lineup", "row", "[I", true)
  | 3 => ("InningsHouse$Lineup", "places", "I", false)
  | 4 => ("InningsHouse$Lineup", "kept", "[I", true)
  | 5 => ("InningsHouse$Lineup", "means", "[J", false)
  | 6 => ("InningsHouse$Lineup", "meansBehind", "[J", false)
  | 7 => ("InningsHouse$Lineup", "likelies", "[I", false)
  | _ => ("InningsHouse$Lineup", "likeliesBehind", "[I", false)
def tyX2 : Nat → FieldType := fun k => match k with
  | 0 => .object "InningsHouse$Bases"
  | 1 => .array (.object "InningsHouse$Striker")
  | 2 => .array .int
  | 3 => .int
  | 4 => .array .int
  | 5 => .array .long
  | 6 => .array .long
  | 7 => .array .int
  | _ => .array .int
abbrev wsX20 : List Cond := u_ws RX2 TX2 9
theorem nmX2 : ∀ a, a < 9 → ∀ b, b < 9 → a ≠ b → (TX2 a).2.1 ≠ (TX2 b).2.1 := by decide +kernel
theorem tyX2_ok : ∀ k, k < 9 → parseFieldDescriptor (TX2 k).2.2.1 = some (tyX2 k) := by decide +kernel
abbrev cX2_init : ByteArray := prog_4_method_1_code
def yX2_init : MethodName := ⟨RX2, "<init>", "(LInningsHouse$Bases;[LInningsHouse$Striker;)V"⟩
abbrev cX2_take : ByteArray := prog_4_method_2_code
def yX2_take : MethodName := ⟨RX2, "take", "([III)V"⟩
abbrev cX2_meanFrom : ByteArray := prog_4_method_3_code
def yX2_meanFrom : MethodName := ⟨RX2, "meanFrom", "(III)I"⟩
abbrev cX2_worthOf : ByteArray := prog_4_method_4_code
def yX2_worthOf : MethodName := ⟨RX2, "worthOf", "(IIII)I"⟩
abbrev cX2_rateNow : ByteArray := prog_4_method_5_code
def yX2_rateNow : MethodName := ⟨RX2, "rateNow", "()I"⟩
abbrev cX2_fillMeans : ByteArray := prog_4_method_6_code
def yX2_fillMeans : MethodName := ⟨RX2, "fillMeans", "(II)V"⟩
abbrev cX2_fillMeansOf : ByteArray := prog_4_method_7_code
def yX2_fillMeansOf : MethodName := ⟨RX2, "fillMeansOf", "([I)V"⟩
abbrev cX2_chancesAt : ByteArray := prog_4_method_8_code
def yX2_chancesAt : MethodName := ⟨RX2, "chancesAt", "(I)[I"⟩
abbrev cX2_likelyFrom : ByteArray := prog_4_method_9_code
def yX2_likelyFrom : MethodName := ⟨RX2, "likelyFrom", "(IIII)I"⟩
abbrev cX2_beginLikelies : ByteArray := prog_4_method_10_code
def yX2_beginLikelies : MethodName := ⟨RX2, "beginLikelies", "([I)V"⟩
abbrev cX2_fillLikeliesOf : ByteArray := prog_4_method_11_code
def yX2_fillLikeliesOf : MethodName := ⟨RX2, "fillLikeliesOf", "([III)V"⟩
abbrev cX2_exchangeWhileBetter : ByteArray := prog_4_method_12_code
def yX2_exchangeWhileBetter : MethodName := ⟨RX2, "exchangeWhileBetter", "()I"⟩
abbrev cX2_exchangeFirstBetter : ByteArray := prog_4_method_13_code
def yX2_exchangeFirstBetter : MethodName := ⟨RX2, "exchangeFirstBetter", "()Z"⟩
abbrev cX2_exchange : ByteArray := prog_4_method_14_code
def yX2_exchange : MethodName := ⟨RX2, "exchange", "(II)V"⟩
abbrev cX2_becomeBest : ByteArray := prog_4_method_15_code
def yX2_becomeBest : MethodName := ⟨RX2, "becomeBest", "()I"⟩
abbrev cX2_halvesWereMetExchanged : ByteArray := prog_4_method_16_code
def yX2_halvesWereMetExchanged : MethodName := ⟨RX2, "halvesWereMetExchanged", "()Z"⟩
abbrev cX2_sortRow : ByteArray := prog_4_method_17_code
def yX2_sortRow : MethodName := ⟨RX2, "sortRow", "()V"⟩
abbrev cX2_nextRow : ByteArray := prog_4_method_18_code
def yX2_nextRow : MethodName := ⟨RX2, "nextRow", "()Z"⟩
def RX3 : String := "InningsHouse$LogReader"
def TX3 : u_T := fun k => match k with
  | 0 => ("InningsHouse$LogReader", "bases", "LInningsHouse$Bases;", true)
  | 1 => ("InningsHouse$LogReader", "times", "[I", true)
  | 2 => ("InningsHouse$LogReader", "clash", "I", false)
  | 3 => ("InningsHouse$LogReader", "runs", "I", false)
  | 4 => ("InningsHouse$LogReader", "halves", "I", false)
  | _ => ("InningsHouse$LogReader", "standing", "I", false)
def tyX3 : Nat → FieldType := fun k => match k with
  | 0 => .object "InningsHouse$Bases"
  | 1 => .array .int
  | 2 => .int
  | 3 => .int
  | 4 => .int
  | _ => .int
abbrev wsX30 : List Cond := u_ws RX3 TX3 6
theorem nmX3 : ∀ a, a < 6 → ∀ b, b < 6 → a ≠ b → (TX3 a).2.1 ≠ (TX3 b).2.1 := by decide +kernel
theorem tyX3_ok : ∀ k, k < 6 → parseFieldDescriptor (TX3 k).2.2.1 = some (tyX3 k) := by decide +kernel
abbrev cX3_init : ByteArray := prog_5_method_1_code
def yX3_init : MethodName := ⟨RX3, "<init>", "(LInningsHouse$Bases;)V"⟩
abbrev cX3_read : ByteArray := prog_5_method_2_code
def yX3_read : MethodName := ⟨RX3, "read", "([III)V"⟩
abbrev cX3_fits : ByteArray := prog_5_method_3_code
def yX3_fits : MethodName := ⟨RX3, "fits", "(III)Z"⟩
abbrev cX3_howManyStrikes : ByteArray := prog_5_method_4_code
def yX3_howManyStrikes : MethodName := ⟨RX3, "howManyStrikes", "()I"⟩
abbrev cX3_told : ByteArray := prog_5_method_5_code
def yX3_told : MethodName := ⟨RX3, "told", "(I)I"⟩
def RX4 : String := "InningsHouse$Match"
def TX4 : u_T := fun k => match k with
  | 0 => ("InningsHouse$Match", "bases", "LInningsHouse$Bases;", true)
  | 1 => ("InningsHouse$Match", "strikers", "[LInningsHouse$Striker;", true)
  | 2 => ("InningsHouse$Match", "teams", "[I", true)
  | 3 => ("InningsHouse$Match", "starts", "[I", true)
  | 4 => ("InningsHouse$Match", "knownHalves", "I", false)
  | 5 => ("InningsHouse$Match", "wins", "[I", false)
  | 6 => ("InningsHouse$Match", "winsBehind", "[I", false)
  | _ => ("InningsHouse$Match", "strikingTeam", "I", false)
def tyX4 : Nat → FieldType := fun k => match k with
  | 0 => .object "InningsHouse$Bases"
  | 1 => .array (.object "InningsHouse$Striker")
  | 2 => .array .int
  | 3 => .array .int
  | 4 => .int
  | 5 => .array .int
  | 6 => .array .int
  | _ => .int
abbrev wsX40 : List Cond := u_ws RX4 TX4 8
theorem nmX4 : ∀ a, a < 8 → ∀ b, b < 8 → a ≠ b → (TX4 a).2.1 ≠ (TX4 b).2.1 := by decide +kernel
theorem tyX4_ok : ∀ k, k < 8 → parseFieldDescriptor (TX4 k).2.2.1 = some (tyX4 k) := by decide +kernel
abbrev cX4_init : ByteArray := prog_6_method_1_code
def yX4_init : MethodName := ⟨RX4, "<init>", "(LInningsHouse$Bases;[LInningsHouse$Striker;)V"⟩
abbrev cX4_forget : ByteArray := prog_6_method_2_code
def yX4_forget : MethodName := ⟨RX4, "forget", "()V"⟩
abbrev cX4_howManyTeams : ByteArray := prog_6_method_3_code
def yX4_howManyTeams : MethodName := ⟨RX4, "howManyTeams", "()I"⟩
abbrev cX4_told : ByteArray := prog_6_method_4_code
def yX4_told : MethodName := ⟨RX4, "told", "(IIIII)I"⟩
abbrev cX4_learnStarts : ByteArray := prog_6_method_5_code
def yX4_learnStarts : MethodName := ⟨RX4, "learnStarts", "(I)V"⟩
abbrev cX4_fillHalf : ByteArray := prog_6_method_6_code
def yX4_fillHalf : MethodName := ⟨RX4, "fillHalf", "(II)V"⟩
abbrev cX4_beginHalf : ByteArray := prog_6_method_7_code
def yX4_beginHalf : MethodName := ⟨RX4, "beginHalf", "([II)V"⟩
abbrev cX4_winByBest : ByteArray := prog_6_method_8_code
def yX4_winByBest : MethodName := ⟨RX4, "winByBest", "(II)I"⟩
abbrev cX4_betterOf : ByteArray := prog_6_method_9_code
def yX4_betterOf : MethodName := ⟨RX4, "betterOf", "(II)I"⟩
abbrev cX4_choiceAt : ByteArray := prog_6_method_10_code
def yX4_choiceAt : MethodName := ⟨RX4, "choiceAt", "(II)I"⟩
abbrev cX4_walkIsBetter : ByteArray := prog_6_method_11_code
def yX4_walkIsBetter : MethodName := ⟨RX4, "walkIsBetter", "(II)I"⟩
abbrev cX4_winByStrike : ByteArray := prog_6_method_12_code
def yX4_winByStrike : MethodName := ⟨RX4, "winByStrike", "(II)I"⟩
abbrev cX4_winBySteal : ByteArray := prog_6_method_13_code
def yX4_winBySteal : MethodName := ⟨RX4, "winBySteal", "(II)I"⟩
abbrev cX4_winAfter : ByteArray := prog_6_method_14_code
def yX4_winAfter : MethodName := ⟨RX4, "winAfter", "(III)I"⟩
def RX5 : String := "InningsHouse$Sheet"
def TX5 : u_T := fun k => match k with
  | 0 => ("InningsHouse$Sheet", "items", "[I", true)
  | 1 => ("InningsHouse$Sheet", "missing", "Z", false)
  | 2 => ("InningsHouse$Sheet", "lane", "I", false)
  | _ => ("InningsHouse$Sheet", "size", "I", false)
def tyX5 : Nat → FieldType := fun k => match k with
  | 0 => .array .int
  | 1 => .boolean
  | 2 => .int
  | _ => .int
abbrev wsX50 : List Cond := u_ws RX5 TX5 4
theorem nmX5 : ∀ a, a < 4 → ∀ b, b < 4 → a ≠ b → (TX5 a).2.1 ≠ (TX5 b).2.1 := by decide +kernel
theorem tyX5_ok : ∀ k, k < 4 → parseFieldDescriptor (TX5 k).2.2.1 = some (tyX5 k) := by decide +kernel
abbrev cX5_init : ByteArray := prog_7_method_1_code
def yX5_init : MethodName := ⟨RX5, "<init>", "()V"⟩
abbrev cX5_begin : ByteArray := prog_7_method_2_code
def yX5_begin : MethodName := ⟨RX5, "begin", "(II)V"⟩
abbrev cX5_holds : ByteArray := prog_7_method_3_code
def yX5_holds : MethodName := ⟨RX5, "holds", "(II)Z"⟩
abbrev cX5_cutToLane : ByteArray := prog_7_method_4_code
def yX5_cutToLane : MethodName := ⟨RX5, "cutToLane", "(I)I"⟩
def RX6 : String := "InningsHouse$Striker"
def TX6 : u_T := fun k => match k with
  | 0 => ("InningsHouse$Striker", "chances", "[I", true)
  | _ => ("InningsHouse$Striker", "steals", "I", false)
def tyX6 : Nat → FieldType := fun k => match k with
  | 0 => .array .int
  | _ => .int
abbrev wsX60 : List Cond := u_ws RX6 TX6 2
theorem nmX6 : ∀ a, a < 2 → ∀ b, b < 2 → a ≠ b → (TX6 a).2.1 ≠ (TX6 b).2.1 := by decide +kernel
theorem tyX6_ok : ∀ k, k < 2 → parseFieldDescriptor (TX6 k).2.2.1 = some (tyX6 k) := by decide +kernel
abbrev cX6_init : ByteArray := prog_8_method_1_code
def yX6_init : MethodName := ⟨RX6, "<init>", "()V"⟩
abbrev cX6_giveTheRestToOut : ByteArray := prog_8_method_2_code
def yX6_giveTheRestToOut : MethodName := ⟨RX6, "giveTheRestToOut", "()V"⟩
abbrev cX6_chanceOrSteals : ByteArray := prog_8_method_3_code
def yX6_chanceOrSteals : MethodName := ⟨RX6, "chanceOrSteals", "(I)I"⟩
abbrev cX6_toldKind : ByteArray := prog_8_method_4_code
def yX6_toldKind : MethodName := ⟨RX6, "toldKind", "()I"⟩
abbrev cX6_isOne : ByteArray := prog_8_method_5_code
def yX6_isOne : MethodName := ⟨RX6, "isOne", "(I)Z"⟩
def RX7 : String := "InningsHouse"
def TX7 : u_T := fun k => match k with
  | 0 => ("InningsHouse", "sheets", "[LInningsHouse$Sheet;", true)
  | 1 => ("InningsHouse", "strikers", "[LInningsHouse$Striker;", true)
  | 2 => ("InningsHouse", "strikerCount", "I", false)
  | 3 => ("InningsHouse", "bases", "LInningsHouse$Bases;", true)
  | 4 => ("InningsHouse", "lineup", "LInningsHouse$Lineup;", true)
  | 5 => ("InningsHouse", "match", "LInningsHouse$Match;", true)
  | 6 => ("InningsHouse", "reader", "LInningsHouse$LogReader;", true)
  | 7 => ("InningsHouse", "asks", "LInningsHouse$Asks;", true)
  | _ => ("InningsHouse", "finding", "I", false)
def tyX7 : Nat → FieldType := fun k => match k with
  | 0 => .array (.object "InningsHouse$Sheet")
  | 1 => .array (.object "InningsHouse$Striker")
  | 2 => .int
  | 3 => .object "InningsHouse$Bases"
  | 4 => .object "InningsHouse$Lineup"
  | 5 => .object "InningsHouse$Match"
  | 6 => .object "InningsHouse$LogReader"
  | 7 => .object "InningsHouse$Asks"
  | _ => .int
abbrev wsX70 : List Cond := u_ws RX7 TX7 9
theorem nmX7 : ∀ a, a < 9 → ∀ b, b < 9 → a ≠ b → (TX7 a).2.1 ≠ (TX7 b).2.1 := by decide +kernel
theorem tyX7_ok : ∀ k, k < 9 → parseFieldDescriptor (TX7 k).2.2.1 = some (tyX7 k) := by decide +kernel
abbrev cX7_init : ByteArray := prog_1_method_1_code
def yX7_init : MethodName := ⟨RX7, "<init>", "()V"⟩
abbrev cX7_sheet : ByteArray := prog_1_method_2_code
def yX7_sheet : MethodName := ⟨RX7, "sheet", "(III)I"⟩
abbrev cX7_set : ByteArray := prog_1_method_3_code
def yX7_set : MethodName := ⟨RX7, "set", "(III)I"⟩
abbrev cX7_copy : ByteArray := prog_1_method_4_code
def yX7_copy : MethodName := ⟨RX7, "copy", "(IIIII)I"⟩
abbrev cX7_drop : ByteArray := prog_1_method_5_code
def yX7_drop : MethodName := ⟨RX7, "drop", "(I)I"⟩
abbrev cX7_behind : ByteArray := prog_1_method_6_code
def yX7_behind : MethodName := ⟨RX7, "behind", "(III)I"⟩
abbrev cX7_striker : ByteArray := prog_1_method_7_code
def yX7_striker : MethodName := ⟨RX7, "striker", "(IIIIII)I"⟩
abbrev cX7_train : ByteArray := prog_1_method_8_code
def yX7_train : MethodName := ⟨RX7, "train", "(III)I"⟩
abbrev cX7_chance : ByteArray := prog_1_method_9_code
def yX7_chance : MethodName := ⟨RX7, "chance", "(II)I"⟩
abbrev cX7_order : ByteArray := prog_1_method_10_code
def yX7_order : MethodName := ⟨RX7, "order", "(III)I"⟩
abbrev cX7_striking : ByteArray := prog_1_method_11_code
def yX7_striking : MethodName := ⟨RX7, "striking", "(I)I"⟩
abbrev cX7_mean : ByteArray := prog_1_method_12_code
def yX7_mean : MethodName := ⟨RX7, "mean", "(III)I"⟩
abbrev cX7_likely : ByteArray := prog_1_method_13_code
def yX7_likely : MethodName := ⟨RX7, "likely", "(IIII)I"⟩
abbrev cX7_worth : ByteArray := prog_1_method_14_code
def yX7_worth : MethodName := ⟨RX7, "worth", "(IIII)I"⟩
abbrev cX7_rate : ByteArray := prog_1_method_15_code
def yX7_rate : MethodName := ⟨RX7, "rate", "()I"⟩
abbrev cX7_swapped : ByteArray := prog_1_method_16_code
def yX7_swapped : MethodName := ⟨RX7, "swapped", "()I"⟩
abbrev cX7_best : ByteArray := prog_1_method_17_code
def yX7_best : MethodName := ⟨RX7, "best", "()I"⟩
abbrev cX7_team : ByteArray := prog_1_method_18_code
def yX7_team : MethodName := ⟨RX7, "team", "(II)I"⟩
abbrev cX7_game : ByteArray := prog_1_method_19_code
def yX7_game : MethodName := ⟨RX7, "game", "(IIIII)I"⟩
abbrev cX7_log : ByteArray := prog_1_method_20_code
def yX7_log : MethodName := ⟨RX7, "log", "(IIII)I"⟩
abbrev cX7_learn : ByteArray := prog_1_method_21_code
def yX7_learn : MethodName := ⟨RX7, "learn", "(IIII)I"⟩
abbrev cX7_kind : ByteArray := prog_1_method_22_code
def yX7_kind : MethodName := ⟨RX7, "kind", "(I)I"⟩
abbrev cX7_as : ByteArray := prog_1_method_23_code
def yX7_as : MethodName := ⟨RX7, "as", "(II)I"⟩
abbrev cX7_ask : ByteArray := prog_1_method_24_code
def yX7_ask : MethodName := ⟨RX7, "ask", "(II)I"⟩
abbrev cX7_trace : ByteArray := prog_1_method_25_code
def yX7_trace : MethodName := ⟨RX7, "trace", "(I)I"⟩
abbrev cX7_count : ByteArray := prog_1_method_26_code
def yX7_count : MethodName := ⟨RX7, "count", "(I)I"⟩
abbrev cX7_status : ByteArray := prog_1_method_27_code
def yX7_status : MethodName := ⟨RX7, "status", "()I"⟩
abbrev cX7_within : ByteArray := prog_1_method_28_code
def yX7_within : MethodName := ⟨RX7, "within", "(III)Z"⟩
abbrev cX7_isSheet : ByteArray := prog_1_method_29_code
def yX7_isSheet : MethodName := ⟨RX7, "isSheet", "(I)Z"⟩
abbrev cX7_isChance : ByteArray := prog_1_method_30_code
def yX7_isChance : MethodName := ⟨RX7, "isChance", "(I)Z"⟩
abbrev cX7_isStriker : ByteArray := prog_1_method_31_code
def yX7_isStriker : MethodName := ⟨RX7, "isStriker", "(I)Z"⟩
abbrev cX7_isPlace : ByteArray := prog_1_method_32_code
def yX7_isPlace : MethodName := ⟨RX7, "isPlace", "(I)Z"⟩
abbrev cX7_found : ByteArray := prog_1_method_33_code
def yX7_found : MethodName := ⟨RX7, "found", "(I)I"⟩
abbrev cX7_fine : ByteArray := prog_1_method_34_code
def yX7_fine : MethodName := ⟨RX7, "fine", "(I)I"⟩
abbrev cX7_admitted : ByteArray := prog_1_method_35_code
def yX7_admitted : MethodName := ⟨RX7, "admitted", "()I"⟩
abbrev cX7_findingOfLog : ByteArray := prog_1_method_36_code
def yX7_findingOfLog : MethodName := ⟨RX7, "findingOfLog", "(III)I"⟩
abbrev cX7_howManySheets : ByteArray := prog_1_method_37_code
def yX7_howManySheets : MethodName := ⟨RX7, "howManySheets", "()I"⟩
abbrev cX7_howManyStrikers : ByteArray := prog_1_method_38_code
def yX7_howManyStrikers : MethodName := ⟨RX7, "howManyStrikers", "(I)I"⟩
def RX8 : String := "InningsHouseModel"
def TX8 : u_T := fun k => match k with
  | 0 => ("InningsHouseModel", "thrown", "I", false)
  | 1 => ("InningsHouseModel", "status", "I", false)
  | 2 => ("InningsHouseModel", "lane", "[I", true)
  | 3 => ("InningsHouseModel", "many", "[I", true)
  | 4 => ("InningsHouseModel", "item", "[I", true)
  | 5 => ("InningsHouseModel", "strikers", "I", false)
  | 6 => ("InningsHouseModel", "chance", "[I", true)
  | 7 => ("InningsHouseModel", "places", "I", false)
  | 8 => ("InningsHouseModel", "order", "[I", true)
  | 9 => ("InningsHouseModel", "mean", "[I", true)
  | 10 => ("InningsHouseModel", "likely", "[I", true)
  | 11 => ("InningsHouseModel", "best", "[I", true)
  | 12 => ("InningsHouseModel", "team", "[I", true)
  | 13 => ("InningsHouseModel", "win", "[I", true)
  | 14 => ("InningsHouseModel", "choice", "[I", true)
  | 15 => ("InningsHouseModel", "clash", "I", false)
  | 16 => ("InningsHouseModel", "allRuns", "I", false)
  | 17 => ("InningsHouseModel", "overs", "I", false)
  | 18 => ("InningsHouseModel", "last", "I", false)
  | 19 => ("InningsHouseModel", "often", "[I", true)
  | 20 => ("InningsHouseModel", "trace", "[I", true)
  | _ => ("InningsHouseModel", "traced", "I", false)
def tyX8 : Nat → FieldType := fun k => match k with
  | 0 => .int
  | 1 => .int
  | 2 => .array .int
  | 3 => .array .int
  | 4 => .array .int
  | 5 => .int
  | 6 => .array .int
  | 7 => .int
  | 8 => .array .int
  | 9 => .array .int
  | 10 => .array .int
  | 11 => .array .int
  | 12 => .array .int
  | 13 => .array .int
  | 14 => .array .int
  | 15 => .int
  | 16 => .int
  | 17 => .int
  | 18 => .int
  | 19 => .array .int
  | 20 => .array .int
  | _ => .int
abbrev wsX80 : List Cond := u_ws RX8 TX8 22
theorem nmX8 : ∀ a, a < 22 → ∀ b, b < 22 → a ≠ b → (TX8 a).2.1 ≠ (TX8 b).2.1 := by decide +kernel
theorem tyX8_ok : ∀ k, k < 22 → parseFieldDescriptor (TX8 k).2.2.1 = some (tyX8 k) := by decide +kernel
abbrev cX8_init : ByteArray := prog_10_method_1_code
def yX8_init : MethodName := ⟨RX8, "<init>", "()V"⟩
abbrev cX8_in : ByteArray := prog_10_method_3_code
def yX8_in : MethodName := ⟨RX8, "in", "(JJJ)Z"⟩
abbrev cX8_found : ByteArray := prog_10_method_4_code
def yX8_found : MethodName := ⟨RX8, "found", "(I)I"⟩
abbrev cX8_isSheet : ByteArray := prog_10_method_5_code
def yX8_isSheet : MethodName := ⟨RX8, "isSheet", "(I)Z"⟩
abbrev cX8_sheet : ByteArray := prog_10_method_6_code
def yX8_sheet : MethodName := ⟨RX8, "sheet", "(III)I"⟩
abbrev cX8_set : ByteArray := prog_10_method_7_code
def yX8_set : MethodName := ⟨RX8, "set", "(III)I"⟩
abbrev cX8_copy : ByteArray := prog_10_method_8_code
def yX8_copy : MethodName := ⟨RX8, "copy", "(IIIII)I"⟩
abbrev cX8_drop : ByteArray := prog_10_method_9_code
def yX8_drop : MethodName := ⟨RX8, "drop", "(I)I"⟩
abbrev cX8_mayBe : ByteArray := prog_10_method_10_code
def yX8_mayBe : MethodName := ⟨RX8, "mayBe", "(II)Z"⟩
abbrev cX8_men : ByteArray := prog_10_method_11_code
def yX8_men : MethodName := ⟨RX8, "men", "(I)I"⟩
abbrev cX8_next : ByteArray := prog_10_method_12_code
def yX8_next : MethodName := ⟨RX8, "next", "(II)I"⟩
abbrev cX8_runs : ByteArray := prog_10_method_13_code
def yX8_runs : MethodName := ⟨RX8, "runs", "(II)I"⟩
abbrev cX8_behind : ByteArray := prog_10_method_14_code
def yX8_behind : MethodName := ⟨RX8, "behind", "(III)I"⟩
abbrev cX8_isStriker : ByteArray := prog_10_method_15_code
def yX8_isStriker : MethodName := ⟨RX8, "isStriker", "(I)Z"⟩
abbrev cX8_isChance : ByteArray := prog_10_method_16_code
def yX8_isChance : MethodName := ⟨RX8, "isChance", "(I)Z"⟩
abbrev cX8_settle : ByteArray := prog_10_method_17_code
def yX8_settle : MethodName := ⟨RX8, "settle", "(I)V"⟩
abbrev cX8_striker : ByteArray := prog_10_method_18_code
def yX8_striker : MethodName := ⟨RX8, "striker", "(IIIIII)I"⟩
abbrev cX8_train : ByteArray := prog_10_method_19_code
def yX8_train : MethodName := ⟨RX8, "train", "(III)I"⟩
abbrev cX8_chance : ByteArray := prog_10_method_20_code
def yX8_chance : MethodName := ⟨RX8, "chance", "(II)I"⟩
abbrev cX8_order : ByteArray := prog_10_method_21_code
def yX8_order : MethodName := ⟨RX8, "order", "(III)I"⟩
abbrev cX8_striking : ByteArray := prog_10_method_22_code
def yX8_striking : MethodName := ⟨RX8, "striking", "(I)I"⟩
abbrev cX8_findMeans : ByteArray := prog_10_method_23_code
def yX8_findMeans : MethodName := ⟨RX8, "findMeans", "(I)V"⟩
abbrev cX8_isAt : ByteArray := prog_10_method_24_code
def yX8_isAt : MethodName := ⟨RX8, "isAt", "(III)Z"⟩
abbrev cX8_mean : ByteArray := prog_10_method_25_code
def yX8_mean : MethodName := ⟨RX8, "mean", "(III)I"⟩
abbrev cX8_likely : ByteArray := prog_10_method_26_code
def yX8_likely : MethodName := ⟨RX8, "likely", "(IIII)I"⟩
abbrev cX8_worth : ByteArray := prog_10_method_27_code
def yX8_worth : MethodName := ⟨RX8, "worth", "(IIII)I"⟩
abbrev cX8_rateNow : ByteArray := prog_10_method_28_code
def yX8_rateNow : MethodName := ⟨RX8, "rateNow", "()I"⟩
abbrev cX8_rate : ByteArray := prog_10_method_29_code
def yX8_rate : MethodName := ⟨RX8, "rate", "()I"⟩
abbrev cX8_exchange : ByteArray := prog_10_method_30_code
def yX8_exchange : MethodName := ⟨RX8, "exchange", "(II)V"⟩
abbrev cX8_swapped : ByteArray := prog_10_method_31_code
def yX8_swapped : MethodName := ⟨RX8, "swapped", "()I"⟩
abbrev cX8_nextOrder : ByteArray := prog_10_method_32_code
def yX8_nextOrder : MethodName := ⟨RX8, "nextOrder", "()Z"⟩
abbrev cX8_best : ByteArray := prog_10_method_33_code
def yX8_best : MethodName := ⟨RX8, "best", "()I"⟩
abbrev cX8_team : ByteArray := prog_10_method_34_code
def yX8_team : MethodName := ⟨RX8, "team", "(II)I"⟩
abbrev cX8_placeOf : ByteArray := prog_10_method_35_code
def yX8_placeOf : MethodName := ⟨RX8, "placeOf", "(IIII)I"⟩
abbrev cX8_winBehind : ByteArray := prog_10_method_36_code
def yX8_winBehind : MethodName := ⟨RX8, "winBehind", "(IIIII)I"⟩
abbrev cX8_play : ByteArray := prog_10_method_37_code
def yX8_play : MethodName := ⟨RX8, "play", "(IIII)V"⟩
abbrev cX8_take : ByteArray := prog_10_method_38_code
def yX8_take : MethodName := ⟨RX8, "take", "(IIII)V"⟩
abbrev cX8_game : ByteArray := prog_10_method_39_code
def yX8_game : MethodName := ⟨RX8, "game", "(IIIII)I"⟩
abbrev cX8_readLog : ByteArray := prog_10_method_40_code
def yX8_readLog : MethodName := ⟨RX8, "readLog", "(III)I"⟩
abbrev cX8_log : ByteArray := prog_10_method_41_code
def yX8_log : MethodName := ⟨RX8, "log", "(IIII)I"⟩
abbrev cX8_learn : ByteArray := prog_10_method_42_code
def yX8_learn : MethodName := ⟨RX8, "learn", "(IIII)I"⟩
abbrev cX8_kindOf : ByteArray := prog_10_method_43_code
def yX8_kindOf : MethodName := ⟨RX8, "kindOf", "(I)I"⟩
abbrev cX8_isOf : ByteArray := prog_10_method_44_code
def yX8_isOf : MethodName := ⟨RX8, "isOf", "(II)Z"⟩
abbrev cX8_kind : ByteArray := prog_10_method_45_code
def yX8_kind : MethodName := ⟨RX8, "kind", "(I)I"⟩
abbrev cX8_as : ByteArray := prog_10_method_46_code
def yX8_as : MethodName := ⟨RX8, "as", "(II)I"⟩
abbrev cX8_began : ByteArray := prog_10_method_47_code
def yX8_began : MethodName := ⟨RX8, "began", "(I)V"⟩
abbrev cX8_safeSize : ByteArray := prog_10_method_48_code
def yX8_safeSize : MethodName := ⟨RX8, "safeSize", "(II)I"⟩
abbrev cX8_markOf : ByteArray := prog_10_method_49_code
def yX8_markOf : MethodName := ⟨RX8, "markOf", "(II)I"⟩
abbrev cX8_sizeOf : ByteArray := prog_10_method_50_code
def yX8_sizeOf : MethodName := ⟨RX8, "sizeOf", "(II)I"⟩
abbrev cX8_ask : ByteArray := prog_10_method_51_code
def yX8_ask : MethodName := ⟨RX8, "ask", "(II)I"⟩
abbrev cX8_trace : ByteArray := prog_10_method_52_code
def yX8_trace : MethodName := ⟨RX8, "trace", "(I)I"⟩
abbrev cX8_count : ByteArray := prog_10_method_53_code
def yX8_count : MethodName := ⟨RX8, "count", "(I)I"⟩
abbrev cX8_status : ByteArray := prog_10_method_54_code
def yX8_status : MethodName := ⟨RX8, "status", "()I"⟩
def RJ6 : String := "java/lang/Integer"
def TJ6 : u_T := fun k => match k with
  | _ => ("", "", "", false)
def tyJ6 : Nat → FieldType := fun k => match k with
  | _ => .int
abbrev wsJ60 : List Cond := u_ws RJ6 TJ6 0
theorem nmJ6 : ∀ a, a < 0 → ∀ b, b < 0 → a ≠ b → (TJ6 a).2.1 ≠ (TJ6 b).2.1 := by decide +kernel
theorem tyJ6_ok : ∀ k, k < 0 → parseFieldDescriptor (TJ6 k).2.2.1 = some (tyJ6 k) := by decide +kernel
abbrev cJ6_bitCount_0f7a4 : ByteArray := prog_11_method_49_code
def yJ6_bitCount_0f7a4 : MethodName := ⟨RJ6, "bitCount", "(I)I"⟩
def RJ9 : String := "java/lang/Math"
def TJ9 : u_T := fun k => match k with
  | _ => ("", "", "", false)
def tyJ9 : Nat → FieldType := fun k => match k with
  | _ => .int
abbrev wsJ90 : List Cond := u_ws RJ9 TJ9 0
theorem nmJ9 : ∀ a, a < 0 → ∀ b, b < 0 → a ≠ b → (TJ9 a).2.1 ≠ (TJ9 b).2.1 := by decide +kernel
theorem tyJ9_ok : ∀ k, k < 0 → parseFieldDescriptor (TJ9 k).2.2.1 = some (tyJ9 k) := by decide +kernel
abbrev cJ9_max_7cf53 : ByteArray := prog_12_method_65_code
def yJ9_max_7cf53 : MethodName := ⟨RJ9, "max", "(II)I"⟩
abbrev cJ9_min_7cf53 : ByteArray := prog_12_method_69_code
def yJ9_min_7cf53 : MethodName := ⟨RJ9, "min", "(II)I"⟩
def RJ10 : String := "java/lang/System"
def TJ10 : u_T := fun k => match k with
  | _ => ("", "", "", false)
def tyJ10 : Nat → FieldType := fun k => match k with
  | _ => .int
abbrev wsJ100 : List Cond := u_ws RJ10 TJ10 0
theorem nmJ10 : ∀ a, a < 0 → ∀ b, b < 0 → a ≠ b → (TJ10 a).2.1 ≠ (TJ10 b).2.1 := by decide +kernel
theorem tyJ10_ok : ∀ k, k < 0 → parseFieldDescriptor (TJ10 k).2.2.1 = some (tyJ10 k) := by decide +kernel
def RJ7 : String := "java/util/Arrays"
def TJ7 : u_T := fun k => match k with
  | _ => ("", "", "", false)
def tyJ7 : Nat → FieldType := fun k => match k with
  | _ => .int
abbrev wsJ70 : List Cond := u_ws RJ7 TJ7 0
theorem nmJ7 : ∀ a, a < 0 → ∀ b, b < 0 → a ≠ b → (TJ7 a).2.1 ≠ (TJ7 b).2.1 := by decide +kernel
theorem tyJ7_ok : ∀ k, k < 0 → parseFieldDescriptor (TJ7 k).2.2.1 = some (tyJ7 k) := by decide +kernel
abbrev cJ7_fill_d0a16 : ByteArray := prog_14_method_101_code
def yJ7_fill_d0a16 : MethodName := ⟨RJ7, "fill", "([JJ)V"⟩
abbrev cJ7_fill_53178 : ByteArray := prog_14_method_103_code
def yJ7_fill_53178 : MethodName := ⟨RJ7, "fill", "([II)V"⟩
def RL : String := "InningsHouseLaw"
abbrev cL_law : ByteArray := code
def yL_law : MethodName := ⟨RL, "law", "([I)Z"⟩
def wsX0_init : List Cond := .code yX0_init cX0_init 1 none :: ([.methodLink RX0 3 objectInit, .instanceMethod objectInit, .code objectInit ⟨#[0xb1]⟩ 1 none, .arrayClass .int, .fieldLink RX0 11 "InningsHouse$Asks" "numbers" "[I"] ++ wsX00)
def wsX6_toldKind : List Cond := .code yX6_toldKind cX6_toldKind 1 (some .int) :: ([.fieldLink RX6 9 "InningsHouse$Striker" "chances" "[I", .fieldLink RX6 15 "InningsHouse$Striker" "steals" "I"] ++ wsX60)
def wsX0_leave : List Cond := .code yX0_leave cX0_leave 2 none :: ([.fieldLink RX0 64 "InningsHouse$Asks" "left" "I", .fieldLink RX0 11 "InningsHouse$Asks" "numbers" "[I"] ++ wsX00)
def wsX0_markLent : List Cond := .code yX0_markLent cX0_markLent 2 (some .int) :: ([.fieldLink RX0 55 "InningsHouse$Striker" "chances" "[I", .methodLink RX0 47 yX0_leave, .instanceMethod yX0_leave, .selects RX0 yX0_leave yX0_leave, .initialized RX0, .code yX0_leave cX0_leave 2 none, .fieldLink RX0 64 "InningsHouse$Asks" "left" "I", .fieldLink RX0 11 "InningsHouse$Asks" "numbers" "[I"] ++ wsX60 ++ wsX00)
def wsX0_markOfSafe : List Cond := .code yX0_markOfSafe cX0_markOfSafe 2 (some .int) :: ([.methodLink RX0 47 yX0_leave, .instanceMethod yX0_leave, .selects RX0 yX0_leave yX0_leave, .initialized RX0, .code yX0_leave cX0_leave 2 none, .fieldLink RX0 64 "InningsHouse$Asks" "left" "I", .fieldLink RX0 11 "InningsHouse$Asks" "numbers" "[I", .methodLink RX0 44 yX0_markLent, .instanceMethod yX0_markLent, .selects RX0 yX0_markLent yX0_markLent, .code yX0_markLent cX0_markLent 2 (some .int), .fieldLink RX0 55 "InningsHouse$Striker" "chances" "[I"] ++ wsX00 ++ wsX60)
def wsX0_markOfQuick : List Cond := .code yX0_markOfQuick cX0_markOfQuick 2 (some .int) :: ([.methodLink RX0 47 yX0_leave, .instanceMethod yX0_leave, .selects RX0 yX0_leave yX0_leave, .initialized RX0, .code yX0_leave cX0_leave 2 none, .fieldLink RX0 64 "InningsHouse$Asks" "left" "I", .fieldLink RX0 11 "InningsHouse$Asks" "numbers" "[I", .methodLink RX0 44 yX0_markLent, .instanceMethod yX0_markLent, .selects RX0 yX0_markLent yX0_markLent, .code yX0_markLent cX0_markLent 2 (some .int), .fieldLink RX0 55 "InningsHouse$Striker" "chances" "[I"] ++ wsX00 ++ wsX60)
def wsX0_sizeLent : List Cond := .code yX0_sizeLent cX0_sizeLent 2 (some .int) :: ([.fieldLink RX0 51 "InningsHouse$Striker" "steals" "I", .methodLink RX0 47 yX0_leave, .instanceMethod yX0_leave, .selects RX0 yX0_leave yX0_leave, .initialized RX0, .code yX0_leave cX0_leave 2 none, .fieldLink RX0 64 "InningsHouse$Asks" "left" "I", .fieldLink RX0 11 "InningsHouse$Asks" "numbers" "[I"] ++ wsX60 ++ wsX00)
def wsX0_sizeOfSafe : List Cond := .code yX0_sizeOfSafe cX0_sizeOfSafe 2 (some .int) :: ([.fieldLink RX0 55 "InningsHouse$Striker" "chances" "[I", .methodLink RX0 47 yX0_leave, .instanceMethod yX0_leave, .selects RX0 yX0_leave yX0_leave, .initialized RX0, .code yX0_leave cX0_leave 2 none, .fieldLink RX0 64 "InningsHouse$Asks" "left" "I", .fieldLink RX0 11 "InningsHouse$Asks" "numbers" "[I", .methodLink RX0 32 yX0_sizeLent, .instanceMethod yX0_sizeLent, .selects RX0 yX0_sizeLent yX0_sizeLent, .code yX0_sizeLent cX0_sizeLent 2 (some .int), .fieldLink RX0 51 "InningsHouse$Striker" "steals" "I"] ++ wsX60 ++ wsX00)
def wsX0_sizeOfStrong : List Cond := .code yX0_sizeOfStrong cX0_sizeOfStrong 2 (some .int) :: ([.methodLink RX0 47 yX0_leave, .instanceMethod yX0_leave, .selects RX0 yX0_leave yX0_leave, .initialized RX0, .code yX0_leave cX0_leave 2 none, .fieldLink RX0 64 "InningsHouse$Asks" "left" "I", .fieldLink RX0 11 "InningsHouse$Asks" "numbers" "[I", .methodLink RX0 25 yX0_sizeOfSafe, .instanceMethod yX0_sizeOfSafe, .selects RX0 yX0_sizeOfSafe yX0_sizeOfSafe, .code yX0_sizeOfSafe cX0_sizeOfSafe 2 (some .int), .fieldLink RX0 55 "InningsHouse$Striker" "chances" "[I", .methodLink RX0 32 yX0_sizeLent, .instanceMethod yX0_sizeLent, .selects RX0 yX0_sizeLent yX0_sizeLent, .code yX0_sizeLent cX0_sizeLent 2 (some .int), .fieldLink RX0 51 "InningsHouse$Striker" "steals" "I"] ++ wsX00 ++ wsX60)
def wsX0_markOf_r1 : List Cond := [Cond.methodLink RX0 15 yX6_toldKind, Cond.instanceMethod yX6_toldKind, Cond.selects RX6 yX6_toldKind yX6_toldKind, Cond.initialized RX6, Cond.code yX6_toldKind cX6_toldKind 1 (some .int), Cond.fieldLink RX6 9 "InningsHouse$Striker" "chances" "[I", Cond.fieldLink RX6 15 "InningsHouse$Striker" "steals" "I", Cond.methodLink RX0 35 yX0_markOfStrong, Cond.instanceMethod yX0_markOfStrong, Cond.selects RX0 yX0_markOfStrong yX0_markOfStrong, Cond.initialized RX0, Cond.methodLink RX0 38 yX0_markOfSafe, Cond.instanceMethod yX0_markOfSafe, Cond.selects RX0 yX0_markOfSafe yX0_markOfSafe, Cond.code yX0_markOfSafe cX0_markOfSafe 2 (some .int), Cond.methodLink RX0 47 yX0_leave, Cond.instanceMethod yX0_leave, Cond.selects RX0 yX0_leave yX0_leave, Cond.code yX0_leave cX0_leave 2 none, Cond.fieldLink RX0 64 "InningsHouse$Asks" "left" "I", Cond.fieldLink RX0 11 "InningsHouse$Asks" "numbers" "[I", Cond.methodLink RX0 44 yX0_markLent, Cond.instanceMethod yX0_markLent, Cond.selects RX0 yX0_markLent yX0_markLent]
def wsX0_markOf_r2 : List Cond := [Cond.code yX0_markLent cX0_markLent 2 (some .int), Cond.fieldLink RX0 55 "InningsHouse$Striker" "chances" "[I", Cond.methodLink RX0 41 yX0_markOfQuick, Cond.instanceMethod yX0_markOfQuick, Cond.selects RX0 yX0_markOfQuick yX0_markOfQuick, Cond.code yX0_markOfQuick cX0_markOfQuick 2 (some .int), Cond.code yX0_markOfStrong cX0_markOfStrong 4 (some .int), Cond.methodLink RX0 61 yX0_sizeOf, Cond.instanceMethod yX0_sizeOf, Cond.selects RX0 yX0_sizeOf yX0_sizeOf, Cond.code yX0_sizeOf cX0_sizeOf 3 (some .int), Cond.methodLink RX0 21 yX0_sizeOfStrong, Cond.instanceMethod yX0_sizeOfStrong, Cond.selects RX0 yX0_sizeOfStrong yX0_sizeOfStrong, Cond.code yX0_sizeOfStrong cX0_sizeOfStrong 2 (some .int), Cond.methodLink RX0 25 yX0_sizeOfSafe, Cond.instanceMethod yX0_sizeOfSafe, Cond.selects RX0 yX0_sizeOfSafe yX0_sizeOfSafe, Cond.code yX0_sizeOfSafe cX0_sizeOfSafe 2 (some .int), Cond.methodLink RX0 32 yX0_sizeLent, Cond.instanceMethod yX0_sizeLent, Cond.selects RX0 yX0_sizeLent yX0_sizeLent, Cond.code yX0_sizeLent cX0_sizeLent 2 (some .int), Cond.fieldLink RX0 51 "InningsHouse$Striker" "steals" "I"]
def wsX0_markOf_r3 : List Cond := [Cond.methodLink RX0 28 yX0_sizeOfQuick, Cond.instanceMethod yX0_sizeOfQuick, Cond.selects RX0 yX0_sizeOfQuick yX0_sizeOfQuick, Cond.code yX0_sizeOfQuick cX0_sizeOfQuick 4 (some .int), Cond.methodLink RX0 58 yX0_markOf, Cond.instanceMethod yX0_markOf, Cond.selects RX0 yX0_markOf yX0_markOf]
def wsX0_markOf : List Cond := .code yX0_markOf cX0_markOf 3 (some .int) :: ((wsX0_markOf_r1 ++ (wsX0_markOf_r2 ++ wsX0_markOf_r3)) ++ wsX60 ++ wsX00)
def wsX0_markOfStrong_r1 : List Cond := [Cond.methodLink RX0 47 yX0_leave, Cond.instanceMethod yX0_leave, Cond.selects RX0 yX0_leave yX0_leave, Cond.initialized RX0, Cond.code yX0_leave cX0_leave 2 none, Cond.fieldLink RX0 64 "InningsHouse$Asks" "left" "I", Cond.fieldLink RX0 11 "InningsHouse$Asks" "numbers" "[I", Cond.methodLink RX0 38 yX0_markOfSafe, Cond.instanceMethod yX0_markOfSafe, Cond.selects RX0 yX0_markOfSafe yX0_markOfSafe, Cond.code yX0_markOfSafe cX0_markOfSafe 2 (some .int), Cond.methodLink RX0 44 yX0_markLent, Cond.instanceMethod yX0_markLent, Cond.selects RX0 yX0_markLent yX0_markLent, Cond.code yX0_markLent cX0_markLent 2 (some .int), Cond.fieldLink RX0 55 "InningsHouse$Striker" "chances" "[I", Cond.methodLink RX0 61 yX0_sizeOf, Cond.instanceMethod yX0_sizeOf, Cond.selects RX0 yX0_sizeOf yX0_sizeOf, Cond.code yX0_markOf cX0_markOf 3 (some .int), Cond.methodLink RX0 15 yX6_toldKind, Cond.instanceMethod yX6_toldKind, Cond.selects RX6 yX6_toldKind yX6_toldKind, Cond.initialized RX6]
def wsX0_markOfStrong_r2 : List Cond := [Cond.code yX6_toldKind cX6_toldKind 1 (some .int), Cond.fieldLink RX6 9 "InningsHouse$Striker" "chances" "[I", Cond.fieldLink RX6 15 "InningsHouse$Striker" "steals" "I", Cond.methodLink RX0 35 yX0_markOfStrong, Cond.instanceMethod yX0_markOfStrong, Cond.selects RX0 yX0_markOfStrong yX0_markOfStrong, Cond.methodLink RX0 41 yX0_markOfQuick, Cond.instanceMethod yX0_markOfQuick, Cond.selects RX0 yX0_markOfQuick yX0_markOfQuick, Cond.code yX0_markOfQuick cX0_markOfQuick 2 (some .int), Cond.code yX0_sizeOf cX0_sizeOf 3 (some .int), Cond.methodLink RX0 21 yX0_sizeOfStrong, Cond.instanceMethod yX0_sizeOfStrong, Cond.selects RX0 yX0_sizeOfStrong yX0_sizeOfStrong, Cond.code yX0_sizeOfStrong cX0_sizeOfStrong 2 (some .int), Cond.methodLink RX0 25 yX0_sizeOfSafe, Cond.instanceMethod yX0_sizeOfSafe, Cond.selects RX0 yX0_sizeOfSafe yX0_sizeOfSafe, Cond.code yX0_sizeOfSafe cX0_sizeOfSafe 2 (some .int), Cond.methodLink RX0 32 yX0_sizeLent, Cond.instanceMethod yX0_sizeLent, Cond.selects RX0 yX0_sizeLent yX0_sizeLent, Cond.code yX0_sizeLent cX0_sizeLent 2 (some .int), Cond.fieldLink RX0 51 "InningsHouse$Striker" "steals" "I"]
def wsX0_markOfStrong_r3 : List Cond := [Cond.methodLink RX0 28 yX0_sizeOfQuick, Cond.instanceMethod yX0_sizeOfQuick, Cond.selects RX0 yX0_sizeOfQuick yX0_sizeOfQuick, Cond.code yX0_sizeOfQuick cX0_sizeOfQuick 4 (some .int), Cond.methodLink RX0 58 yX0_markOf, Cond.instanceMethod yX0_markOf, Cond.selects RX0 yX0_markOf yX0_markOf]
def wsX0_markOfStrong : List Cond := .code yX0_markOfStrong cX0_markOfStrong 4 (some .int) :: ((wsX0_markOfStrong_r1 ++ (wsX0_markOfStrong_r2 ++ wsX0_markOfStrong_r3)) ++ wsX60 ++ wsX00)
def wsX0_sizeOf_r1 : List Cond := [Cond.methodLink RX0 15 yX6_toldKind, Cond.instanceMethod yX6_toldKind, Cond.selects RX6 yX6_toldKind yX6_toldKind, Cond.initialized RX6, Cond.code yX6_toldKind cX6_toldKind 1 (some .int), Cond.fieldLink RX6 9 "InningsHouse$Striker" "chances" "[I", Cond.fieldLink RX6 15 "InningsHouse$Striker" "steals" "I", Cond.methodLink RX0 21 yX0_sizeOfStrong, Cond.instanceMethod yX0_sizeOfStrong, Cond.selects RX0 yX0_sizeOfStrong yX0_sizeOfStrong, Cond.initialized RX0, Cond.code yX0_sizeOfStrong cX0_sizeOfStrong 2 (some .int), Cond.methodLink RX0 47 yX0_leave, Cond.instanceMethod yX0_leave, Cond.selects RX0 yX0_leave yX0_leave, Cond.code yX0_leave cX0_leave 2 none, Cond.fieldLink RX0 64 "InningsHouse$Asks" "left" "I", Cond.fieldLink RX0 11 "InningsHouse$Asks" "numbers" "[I", Cond.methodLink RX0 25 yX0_sizeOfSafe, Cond.instanceMethod yX0_sizeOfSafe, Cond.selects RX0 yX0_sizeOfSafe yX0_sizeOfSafe, Cond.code yX0_sizeOfSafe cX0_sizeOfSafe 2 (some .int), Cond.fieldLink RX0 55 "InningsHouse$Striker" "chances" "[I", Cond.methodLink RX0 32 yX0_sizeLent]
def wsX0_sizeOf_r2 : List Cond := [Cond.instanceMethod yX0_sizeLent, Cond.selects RX0 yX0_sizeLent yX0_sizeLent, Cond.code yX0_sizeLent cX0_sizeLent 2 (some .int), Cond.fieldLink RX0 51 "InningsHouse$Striker" "steals" "I", Cond.methodLink RX0 28 yX0_sizeOfQuick, Cond.instanceMethod yX0_sizeOfQuick, Cond.selects RX0 yX0_sizeOfQuick yX0_sizeOfQuick, Cond.code yX0_markOf cX0_markOf 3 (some .int), Cond.methodLink RX0 35 yX0_markOfStrong, Cond.instanceMethod yX0_markOfStrong, Cond.selects RX0 yX0_markOfStrong yX0_markOfStrong, Cond.methodLink RX0 38 yX0_markOfSafe, Cond.instanceMethod yX0_markOfSafe, Cond.selects RX0 yX0_markOfSafe yX0_markOfSafe, Cond.code yX0_markOfSafe cX0_markOfSafe 2 (some .int), Cond.methodLink RX0 44 yX0_markLent, Cond.instanceMethod yX0_markLent, Cond.selects RX0 yX0_markLent yX0_markLent, Cond.code yX0_markLent cX0_markLent 2 (some .int), Cond.methodLink RX0 41 yX0_markOfQuick, Cond.instanceMethod yX0_markOfQuick, Cond.selects RX0 yX0_markOfQuick yX0_markOfQuick, Cond.code yX0_markOfQuick cX0_markOfQuick 2 (some .int), Cond.code yX0_markOfStrong cX0_markOfStrong 4 (some .int)]
def wsX0_sizeOf_r3 : List Cond := [Cond.methodLink RX0 61 yX0_sizeOf, Cond.instanceMethod yX0_sizeOf, Cond.selects RX0 yX0_sizeOf yX0_sizeOf, Cond.code yX0_sizeOfQuick cX0_sizeOfQuick 4 (some .int), Cond.methodLink RX0 58 yX0_markOf, Cond.instanceMethod yX0_markOf, Cond.selects RX0 yX0_markOf yX0_markOf]
def wsX0_sizeOf : List Cond := .code yX0_sizeOf cX0_sizeOf 3 (some .int) :: ((wsX0_sizeOf_r1 ++ (wsX0_sizeOf_r2 ++ wsX0_sizeOf_r3)) ++ wsX60 ++ wsX00)
def wsX0_sizeOfQuick_r1 : List Cond := [Cond.methodLink RX0 47 yX0_leave, Cond.instanceMethod yX0_leave, Cond.selects RX0 yX0_leave yX0_leave, Cond.initialized RX0, Cond.code yX0_leave cX0_leave 2 none, Cond.fieldLink RX0 64 "InningsHouse$Asks" "left" "I", Cond.fieldLink RX0 11 "InningsHouse$Asks" "numbers" "[I", Cond.methodLink RX0 32 yX0_sizeLent, Cond.instanceMethod yX0_sizeLent, Cond.selects RX0 yX0_sizeLent yX0_sizeLent, Cond.code yX0_sizeLent cX0_sizeLent 2 (some .int), Cond.fieldLink RX0 51 "InningsHouse$Striker" "steals" "I", Cond.methodLink RX0 58 yX0_markOf, Cond.instanceMethod yX0_markOf, Cond.selects RX0 yX0_markOf yX0_markOf, Cond.code yX0_markOf cX0_markOf 3 (some .int), Cond.methodLink RX0 15 yX6_toldKind, Cond.instanceMethod yX6_toldKind, Cond.selects RX6 yX6_toldKind yX6_toldKind, Cond.initialized RX6, Cond.code yX6_toldKind cX6_toldKind 1 (some .int), Cond.fieldLink RX6 9 "InningsHouse$Striker" "chances" "[I", Cond.fieldLink RX6 15 "InningsHouse$Striker" "steals" "I", Cond.methodLink RX0 35 yX0_markOfStrong]
def wsX0_sizeOfQuick_r2 : List Cond := [Cond.instanceMethod yX0_markOfStrong, Cond.selects RX0 yX0_markOfStrong yX0_markOfStrong, Cond.methodLink RX0 38 yX0_markOfSafe, Cond.instanceMethod yX0_markOfSafe, Cond.selects RX0 yX0_markOfSafe yX0_markOfSafe, Cond.code yX0_markOfSafe cX0_markOfSafe 2 (some .int), Cond.methodLink RX0 44 yX0_markLent, Cond.instanceMethod yX0_markLent, Cond.selects RX0 yX0_markLent yX0_markLent, Cond.code yX0_markLent cX0_markLent 2 (some .int), Cond.fieldLink RX0 55 "InningsHouse$Striker" "chances" "[I", Cond.methodLink RX0 41 yX0_markOfQuick, Cond.instanceMethod yX0_markOfQuick, Cond.selects RX0 yX0_markOfQuick yX0_markOfQuick, Cond.code yX0_markOfQuick cX0_markOfQuick 2 (some .int), Cond.code yX0_markOfStrong cX0_markOfStrong 4 (some .int), Cond.methodLink RX0 61 yX0_sizeOf, Cond.instanceMethod yX0_sizeOf, Cond.selects RX0 yX0_sizeOf yX0_sizeOf, Cond.code yX0_sizeOf cX0_sizeOf 3 (some .int), Cond.methodLink RX0 21 yX0_sizeOfStrong, Cond.instanceMethod yX0_sizeOfStrong, Cond.selects RX0 yX0_sizeOfStrong yX0_sizeOfStrong, Cond.code yX0_sizeOfStrong cX0_sizeOfStrong 2 (some .int)]
def wsX0_sizeOfQuick_r3 : List Cond := [Cond.methodLink RX0 25 yX0_sizeOfSafe, Cond.instanceMethod yX0_sizeOfSafe, Cond.selects RX0 yX0_sizeOfSafe yX0_sizeOfSafe, Cond.code yX0_sizeOfSafe cX0_sizeOfSafe 2 (some .int), Cond.methodLink RX0 28 yX0_sizeOfQuick, Cond.instanceMethod yX0_sizeOfQuick, Cond.selects RX0 yX0_sizeOfQuick yX0_sizeOfQuick]
def wsX0_sizeOfQuick : List Cond := .code yX0_sizeOfQuick cX0_sizeOfQuick 4 (some .int) :: ((wsX0_sizeOfQuick_r1 ++ (wsX0_sizeOfQuick_r2 ++ wsX0_sizeOfQuick_r3)) ++ wsX60 ++ wsX00)
def wsX1_canSteal : List Cond := .code yX1_canSteal cX1_canSteal 1 (some .boolean) :: ([])
def wsX1_menAfterWalk : List Cond := .code yX1_menAfterWalk cX1_menAfterWalk 1 (some .int) :: ([])
def wsX1_menAfter : List Cond := .code yX1_menAfter cX1_menAfter 2 (some .int) :: ([.methodLink RX1 34 yX1_menAfterWalk, .static yX1_menAfterWalk, .initialized RX1, .code yX1_menAfterWalk cX1_menAfterWalk 1 (some .int)])
def wsJ6_bitCount_0f7a4 : List Cond := .code yJ6_bitCount_0f7a4 cJ6_bitCount_0f7a4 1 (some .int) :: ([.constant RJ6 265 (1431655765), .constant RJ6 266 (858993459), .constant RJ6 267 (252645135)])
def wsX1_menHome : List Cond := .code yX1_menHome cX1_menHome 2 (some .int) :: ([.methodLink RX1 38 yJ6_bitCount_0f7a4, .static yJ6_bitCount_0f7a4, .initialized RJ6, .code yJ6_bitCount_0f7a4 cJ6_bitCount_0f7a4 1 (some .int), .constant RJ6 265 (1431655765), .constant RJ6 266 (858993459), .constant RJ6 267 (252645135)])
def wsX1_tell : List Cond := .code yX1_tell cX1_tell 6 none :: ([.fieldLink RX1 9 "InningsHouse$Bases" "standings" "[I", .constant RX1 26 (-1000000), .fieldLink RX1 15 "InningsHouse$Bases" "runs" "[I", .methodLink RX1 22 yX1_canSteal, .static yX1_canSteal, .initialized RX1, .code yX1_canSteal cX1_canSteal 1 (some .boolean), .methodLink RX1 27 yX1_menAfter, .static yX1_menAfter, .code yX1_menAfter cX1_menAfter 2 (some .int), .methodLink RX1 34 yX1_menAfterWalk, .static yX1_menAfterWalk, .code yX1_menAfterWalk cX1_menAfterWalk 1 (some .int), .methodLink RX1 31 yX1_menHome, .static yX1_menHome, .code yX1_menHome cX1_menHome 2 (some .int), .methodLink RX1 38 yJ6_bitCount_0f7a4, .static yJ6_bitCount_0f7a4, .initialized RJ6, .code yJ6_bitCount_0f7a4 cJ6_bitCount_0f7a4 1 (some .int), .constant RJ6 265 (1431655765), .constant RJ6 266 (858993459), .constant RJ6 267 (252645135)] ++ wsX10)
def wsX1_init_r1 : List Cond := [Cond.methodLink RX1 3 objectInit, Cond.instanceMethod objectInit, Cond.code objectInit ⟨#[0xb1]⟩ 1 none, Cond.arrayClass .int, Cond.fieldLink RX1 9 "InningsHouse$Bases" "standings" "[I", Cond.fieldLink RX1 15 "InningsHouse$Bases" "runs" "[I", Cond.methodLink RX1 18 yX1_tell, Cond.instanceMethod yX1_tell, Cond.selects RX1 yX1_tell yX1_tell, Cond.initialized RX1, Cond.code yX1_tell cX1_tell 6 none, Cond.constant RX1 26 (-1000000), Cond.methodLink RX1 22 yX1_canSteal, Cond.static yX1_canSteal, Cond.code yX1_canSteal cX1_canSteal 1 (some .boolean), Cond.methodLink RX1 27 yX1_menAfter, Cond.static yX1_menAfter, Cond.code yX1_menAfter cX1_menAfter 2 (some .int), Cond.methodLink RX1 34 yX1_menAfterWalk, Cond.static yX1_menAfterWalk, Cond.code yX1_menAfterWalk cX1_menAfterWalk 1 (some .int), Cond.methodLink RX1 31 yX1_menHome, Cond.static yX1_menHome, Cond.code yX1_menHome cX1_menHome 2 (some .int)]
def wsX1_init_r2 : List Cond := [Cond.methodLink RX1 38 yJ6_bitCount_0f7a4, Cond.static yJ6_bitCount_0f7a4, Cond.initialized RJ6, Cond.code yJ6_bitCount_0f7a4 cJ6_bitCount_0f7a4 1 (some .int), Cond.constant RJ6 265 (1431655765), Cond.constant RJ6 266 (858993459), Cond.constant RJ6 267 (252645135)]
def wsX1_init : List Cond := .code yX1_init cX1_init 3 none :: ((wsX1_init_r1 ++ wsX1_init_r2) ++ wsX10)
def wsX1_standingAfter : List Cond := .code yX1_standingAfter cX1_standingAfter 3 (some .int) :: ([.fieldLink RX1 9 "InningsHouse$Bases" "standings" "[I"] ++ wsX10)
def wsX1_runsOf : List Cond := .code yX1_runsOf cX1_runsOf 3 (some .int) :: ([.fieldLink RX1 15 "InningsHouse$Bases" "runs" "[I"] ++ wsX10)
def wsX1_someoneIsOn : List Cond := .code yX1_someoneIsOn cX1_someoneIsOn 1 (some .boolean) :: ([])
def wsX2_init : List Cond := .code yX2_init cX2_init 3 none :: ([.methodLink RX2 3 objectInit, .instanceMethod objectInit, .code objectInit ⟨#[0xb1]⟩ 1 none, .arrayClass .int, .fieldLink RX2 9 "InningsHouse$Lineup" "row" "[I", .fieldLink RX2 15 "InningsHouse$Lineup" "kept" "[I", .arrayClass .long, .fieldLink RX2 18 "InningsHouse$Lineup" "means" "[J", .fieldLink RX2 22 "InningsHouse$Lineup" "meansBehind" "[J", .fieldLink RX2 25 "InningsHouse$Lineup" "likelies" "[I", .fieldLink RX2 28 "InningsHouse$Lineup" "likeliesBehind" "[I", .fieldLink RX2 31 "InningsHouse$Lineup" "bases" "LInningsHouse$Bases;", .fieldLink RX2 35 "InningsHouse$Lineup" "strikers" "[LInningsHouse$Striker;"] ++ wsX20)
def wsX2_take : List Cond := .code yX2_take cX2_take 4 none :: ([.fieldLink RX2 9 "InningsHouse$Lineup" "row" "[I", .methodLink RX2 39 arraycopyName, .native arraycopyName, .static arraycopyName, .initialized "java/lang/System", .fieldLink RX2 45 "InningsHouse$Lineup" "places" "I"] ++ wsX20)
def wsJ7_fill_d0a16 : List Cond := .code yJ7_fill_d0a16 cJ7_fill_d0a16 5 none :: ([])
def wsX2_chancesAt : List Cond := .code yX2_chancesAt cX2_chancesAt 2 (some (.array .int)) :: ([.fieldLink RX2 35 "InningsHouse$Lineup" "strikers" "[LInningsHouse$Striker;", .fieldLink RX2 9 "InningsHouse$Lineup" "row" "[I", .fieldLink RX2 45 "InningsHouse$Lineup" "places" "I", .fieldLink RX2 90 "InningsHouse$Striker" "chances" "[I"] ++ wsX20 ++ wsX60)
def wsX2_fillMeansOf : List Cond := .code yX2_fillMeansOf cX2_fillMeansOf 11 none :: ([.fieldLink RX2 22 "InningsHouse$Lineup" "meansBehind" "[J", .fieldLink RX2 31 "InningsHouse$Lineup" "bases" "LInningsHouse$Bases;", .fieldLink RX2 82 "InningsHouse$Bases" "standings" "[I", .fieldLink RX2 85 "InningsHouse$Bases" "runs" "[I", .constantLong RX2 62 (1000000), .fieldLink RX2 18 "InningsHouse$Lineup" "means" "[J", .constantLong RX2 88 (1000)] ++ wsX20 ++ wsX10)
def wsX2_fillMeans : List Cond := .code yX2_fillMeans cX2_fillMeans 5 none :: ([.fieldLink RX2 18 "InningsHouse$Lineup" "means" "[J", .fieldLink RX2 22 "InningsHouse$Lineup" "meansBehind" "[J", .methodLink RX2 68 yJ7_fill_d0a16, .static yJ7_fill_d0a16, .initialized RJ7, .code yJ7_fill_d0a16 cJ7_fill_d0a16 5 none, .methodLink RX2 74 yX2_chancesAt, .instanceMethod yX2_chancesAt, .selects RX2 yX2_chancesAt yX2_chancesAt, .initialized RX2, .code yX2_chancesAt cX2_chancesAt 2 (some (.array .int)), .fieldLink RX2 35 "InningsHouse$Lineup" "strikers" "[LInningsHouse$Striker;", .fieldLink RX2 9 "InningsHouse$Lineup" "row" "[I", .fieldLink RX2 45 "InningsHouse$Lineup" "places" "I", .fieldLink RX2 90 "InningsHouse$Striker" "chances" "[I", .methodLink RX2 78 yX2_fillMeansOf, .instanceMethod yX2_fillMeansOf, .selects RX2 yX2_fillMeansOf yX2_fillMeansOf, .code yX2_fillMeansOf cX2_fillMeansOf 11 none, .fieldLink RX2 31 "InningsHouse$Lineup" "bases" "LInningsHouse$Bases;", .fieldLink RX2 82 "InningsHouse$Bases" "standings" "[I", .fieldLink RX2 85 "InningsHouse$Bases" "runs" "[I", .constantLong RX2 62 (1000000), .constantLong RX2 88 (1000)] ++ wsX20 ++ wsX60 ++ wsX10)
def wsX2_meanFrom_r1 : List Cond := [Cond.fieldLink RX2 18 "InningsHouse$Lineup" "means" "[J", Cond.methodLink RX2 49 yX2_fillMeans, Cond.instanceMethod yX2_fillMeans, Cond.selects RX2 yX2_fillMeans yX2_fillMeans, Cond.initialized RX2, Cond.code yX2_fillMeans cX2_fillMeans 5 none, Cond.fieldLink RX2 22 "InningsHouse$Lineup" "meansBehind" "[J", Cond.methodLink RX2 68 yJ7_fill_d0a16, Cond.static yJ7_fill_d0a16, Cond.initialized RJ7, Cond.code yJ7_fill_d0a16 cJ7_fill_d0a16 5 none, Cond.methodLink RX2 74 yX2_chancesAt, Cond.instanceMethod yX2_chancesAt, Cond.selects RX2 yX2_chancesAt yX2_chancesAt, Cond.code yX2_chancesAt cX2_chancesAt 2 (some (.array .int)), Cond.fieldLink RX2 35 "InningsHouse$Lineup" "strikers" "[LInningsHouse$Striker;", Cond.fieldLink RX2 9 "InningsHouse$Lineup" "row" "[I", Cond.fieldLink RX2 45 "InningsHouse$Lineup" "places" "I", Cond.fieldLink RX2 90 "InningsHouse$Striker" "chances" "[I", Cond.methodLink RX2 78 yX2_fillMeansOf, Cond.instanceMethod yX2_fillMeansOf, Cond.selects RX2 yX2_fillMeansOf yX2_fillMeansOf, Cond.code yX2_fillMeansOf cX2_fillMeansOf 11 none, Cond.fieldLink RX2 31 "InningsHouse$Lineup" "bases" "LInningsHouse$Bases;"]
def wsX2_meanFrom_r2 : List Cond := [Cond.fieldLink RX2 82 "InningsHouse$Bases" "standings" "[I", Cond.fieldLink RX2 85 "InningsHouse$Bases" "runs" "[I", Cond.constantLong RX2 62 (1000000), Cond.constantLong RX2 88 (1000)]
def wsX2_meanFrom : List Cond := .code yX2_meanFrom cX2_meanFrom 4 (some .int) :: ((wsX2_meanFrom_r1 ++ wsX2_meanFrom_r2) ++ wsX20 ++ wsX60 ++ wsX10)
def wsX2_worthOf_r1 : List Cond := [Cond.fieldLink RX2 22 "InningsHouse$Lineup" "meansBehind" "[J", Cond.fieldLink RX2 31 "InningsHouse$Lineup" "bases" "LInningsHouse$Bases;", Cond.constantLong RX2 62 (1000000), Cond.fieldLink RX2 18 "InningsHouse$Lineup" "means" "[J", Cond.methodLink RX2 49 yX2_fillMeans, Cond.instanceMethod yX2_fillMeans, Cond.selects RX2 yX2_fillMeans yX2_fillMeans, Cond.initialized RX2, Cond.code yX2_fillMeans cX2_fillMeans 5 none, Cond.methodLink RX2 68 yJ7_fill_d0a16, Cond.static yJ7_fill_d0a16, Cond.initialized RJ7, Cond.code yJ7_fill_d0a16 cJ7_fill_d0a16 5 none, Cond.methodLink RX2 74 yX2_chancesAt, Cond.instanceMethod yX2_chancesAt, Cond.selects RX2 yX2_chancesAt yX2_chancesAt, Cond.code yX2_chancesAt cX2_chancesAt 2 (some (.array .int)), Cond.fieldLink RX2 35 "InningsHouse$Lineup" "strikers" "[LInningsHouse$Striker;", Cond.fieldLink RX2 9 "InningsHouse$Lineup" "row" "[I", Cond.fieldLink RX2 45 "InningsHouse$Lineup" "places" "I", Cond.fieldLink RX2 90 "InningsHouse$Striker" "chances" "[I", Cond.methodLink RX2 78 yX2_fillMeansOf, Cond.instanceMethod yX2_fillMeansOf, Cond.selects RX2 yX2_fillMeansOf yX2_fillMeansOf]
def wsX2_worthOf_r2 : List Cond := [Cond.code yX2_fillMeansOf cX2_fillMeansOf 11 none, Cond.fieldLink RX2 82 "InningsHouse$Bases" "standings" "[I", Cond.fieldLink RX2 85 "InningsHouse$Bases" "runs" "[I", Cond.constantLong RX2 88 (1000), Cond.methodLink RX2 53 yX1_standingAfter, Cond.instanceMethod yX1_standingAfter, Cond.selects RX1 yX1_standingAfter yX1_standingAfter, Cond.initialized RX1, Cond.code yX1_standingAfter cX1_standingAfter 3 (some .int), Cond.fieldLink RX1 9 "InningsHouse$Bases" "standings" "[I", Cond.methodLink RX2 59 yX1_runsOf, Cond.instanceMethod yX1_runsOf, Cond.selects RX1 yX1_runsOf yX1_runsOf, Cond.code yX1_runsOf cX1_runsOf 3 (some .int), Cond.fieldLink RX1 15 "InningsHouse$Bases" "runs" "[I"]
def wsX2_worthOf : List Cond := .code yX2_worthOf cX2_worthOf 7 (some .int) :: ((wsX2_worthOf_r1 ++ wsX2_worthOf_r2) ++ wsX20 ++ wsX60 ++ wsX10)
def wsX2_rateNow_r1 : List Cond := [Cond.fieldLink RX2 45 "InningsHouse$Lineup" "places" "I", Cond.methodLink RX2 64 yX2_meanFrom, Cond.instanceMethod yX2_meanFrom, Cond.selects RX2 yX2_meanFrom yX2_meanFrom, Cond.initialized RX2, Cond.code yX2_meanFrom cX2_meanFrom 4 (some .int), Cond.fieldLink RX2 18 "InningsHouse$Lineup" "means" "[J", Cond.methodLink RX2 49 yX2_fillMeans, Cond.instanceMethod yX2_fillMeans, Cond.selects RX2 yX2_fillMeans yX2_fillMeans, Cond.code yX2_fillMeans cX2_fillMeans 5 none, Cond.fieldLink RX2 22 "InningsHouse$Lineup" "meansBehind" "[J", Cond.methodLink RX2 68 yJ7_fill_d0a16, Cond.static yJ7_fill_d0a16, Cond.initialized RJ7, Cond.code yJ7_fill_d0a16 cJ7_fill_d0a16 5 none, Cond.methodLink RX2 74 yX2_chancesAt, Cond.instanceMethod yX2_chancesAt, Cond.selects RX2 yX2_chancesAt yX2_chancesAt, Cond.code yX2_chancesAt cX2_chancesAt 2 (some (.array .int)), Cond.fieldLink RX2 35 "InningsHouse$Lineup" "strikers" "[LInningsHouse$Striker;", Cond.fieldLink RX2 9 "InningsHouse$Lineup" "row" "[I", Cond.fieldLink RX2 90 "InningsHouse$Striker" "chances" "[I", Cond.methodLink RX2 78 yX2_fillMeansOf]
def wsX2_rateNow_r2 : List Cond := [Cond.instanceMethod yX2_fillMeansOf, Cond.selects RX2 yX2_fillMeansOf yX2_fillMeansOf, Cond.code yX2_fillMeansOf cX2_fillMeansOf 11 none, Cond.fieldLink RX2 31 "InningsHouse$Lineup" "bases" "LInningsHouse$Bases;", Cond.fieldLink RX2 82 "InningsHouse$Bases" "standings" "[I", Cond.fieldLink RX2 85 "InningsHouse$Bases" "runs" "[I", Cond.constantLong RX2 62 (1000000), Cond.constantLong RX2 88 (1000)]
def wsX2_rateNow : List Cond := .code yX2_rateNow cX2_rateNow 1 (some .int) :: ((wsX2_rateNow_r1 ++ wsX2_rateNow_r2) ++ wsX20 ++ wsX60 ++ wsX10)
def wsJ7_fill_53178 : List Cond := .code yJ7_fill_53178 cJ7_fill_53178 4 none :: ([])
def wsX2_beginLikelies : List Cond := .code yX2_beginLikelies cX2_beginLikelies 2 none :: ([.constant RX2 95 (1000000), .methodLink RX2 103 yJ7_fill_53178, .static yJ7_fill_53178, .initialized RJ7, .code yJ7_fill_53178 cJ7_fill_53178 4 none])
def wsX2_fillLikeliesOf : List Cond := .code yX2_fillLikeliesOf cX2_fillLikeliesOf 11 none :: ([.fieldLink RX2 31 "InningsHouse$Lineup" "bases" "LInningsHouse$Bases;", .fieldLink RX2 28 "InningsHouse$Lineup" "likeliesBehind" "[I", .fieldLink RX2 25 "InningsHouse$Lineup" "likelies" "[I", .constantLong RX2 88 (1000), .methodLink RX2 59 yX1_runsOf, .instanceMethod yX1_runsOf, .selects RX1 yX1_runsOf yX1_runsOf, .initialized RX1, .code yX1_runsOf cX1_runsOf 3 (some .int), .fieldLink RX1 15 "InningsHouse$Bases" "runs" "[I", .methodLink RX2 53 yX1_standingAfter, .instanceMethod yX1_standingAfter, .selects RX1 yX1_standingAfter yX1_standingAfter, .code yX1_standingAfter cX1_standingAfter 3 (some .int), .fieldLink RX1 9 "InningsHouse$Bases" "standings" "[I"] ++ wsX20 ++ wsX10)
def wsX2_likelyFrom_r1 : List Cond := [Cond.constant RX2 95 (1000000), Cond.fieldLink RX2 25 "InningsHouse$Lineup" "likelies" "[I", Cond.fieldLink RX2 28 "InningsHouse$Lineup" "likeliesBehind" "[I", Cond.methodLink RX2 96 yX2_beginLikelies, Cond.static yX2_beginLikelies, Cond.initialized RX2, Cond.code yX2_beginLikelies cX2_beginLikelies 2 none, Cond.methodLink RX2 103 yJ7_fill_53178, Cond.static yJ7_fill_53178, Cond.initialized RJ7, Cond.code yJ7_fill_53178 cJ7_fill_53178 4 none, Cond.methodLink RX2 74 yX2_chancesAt, Cond.instanceMethod yX2_chancesAt, Cond.selects RX2 yX2_chancesAt yX2_chancesAt, Cond.code yX2_chancesAt cX2_chancesAt 2 (some (.array .int)), Cond.fieldLink RX2 35 "InningsHouse$Lineup" "strikers" "[LInningsHouse$Striker;", Cond.fieldLink RX2 9 "InningsHouse$Lineup" "row" "[I", Cond.fieldLink RX2 45 "InningsHouse$Lineup" "places" "I", Cond.fieldLink RX2 90 "InningsHouse$Striker" "chances" "[I", Cond.methodLink RX2 99 yX2_fillLikeliesOf, Cond.instanceMethod yX2_fillLikeliesOf, Cond.selects RX2 yX2_fillLikeliesOf yX2_fillLikeliesOf, Cond.code yX2_fillLikeliesOf cX2_fillLikeliesOf 11 none, Cond.fieldLink RX2 31 "InningsHouse$Lineup" "bases" "LInningsHouse$Bases;"]
def wsX2_likelyFrom_r2 : List Cond := [Cond.constantLong RX2 88 (1000), Cond.methodLink RX2 59 yX1_runsOf, Cond.instanceMethod yX1_runsOf, Cond.selects RX1 yX1_runsOf yX1_runsOf, Cond.initialized RX1, Cond.code yX1_runsOf cX1_runsOf 3 (some .int), Cond.fieldLink RX1 15 "InningsHouse$Bases" "runs" "[I", Cond.methodLink RX2 53 yX1_standingAfter, Cond.instanceMethod yX1_standingAfter, Cond.selects RX1 yX1_standingAfter yX1_standingAfter, Cond.code yX1_standingAfter cX1_standingAfter 3 (some .int), Cond.fieldLink RX1 9 "InningsHouse$Bases" "standings" "[I"]
def wsX2_likelyFrom : List Cond := .code yX2_likelyFrom cX2_likelyFrom 8 (some .int) :: ((wsX2_likelyFrom_r1 ++ wsX2_likelyFrom_r2) ++ wsX20 ++ wsX60 ++ wsX10)
def wsX2_exchange : List Cond := .code yX2_exchange cX2_exchange 4 none :: ([.fieldLink RX2 9 "InningsHouse$Lineup" "row" "[I"] ++ wsX20)
def wsX2_exchangeFirstBetter_r1 : List Cond := [Cond.fieldLink RX2 45 "InningsHouse$Lineup" "places" "I", Cond.fieldLink RX2 9 "InningsHouse$Lineup" "row" "[I", Cond.methodLink RX2 110 yX2_rateNow, Cond.instanceMethod yX2_rateNow, Cond.selects RX2 yX2_rateNow yX2_rateNow, Cond.initialized RX2, Cond.code yX2_rateNow cX2_rateNow 1 (some .int), Cond.methodLink RX2 64 yX2_meanFrom, Cond.instanceMethod yX2_meanFrom, Cond.selects RX2 yX2_meanFrom yX2_meanFrom, Cond.code yX2_meanFrom cX2_meanFrom 4 (some .int), Cond.fieldLink RX2 18 "InningsHouse$Lineup" "means" "[J", Cond.methodLink RX2 49 yX2_fillMeans, Cond.instanceMethod yX2_fillMeans, Cond.selects RX2 yX2_fillMeans yX2_fillMeans, Cond.code yX2_fillMeans cX2_fillMeans 5 none, Cond.fieldLink RX2 22 "InningsHouse$Lineup" "meansBehind" "[J", Cond.methodLink RX2 68 yJ7_fill_d0a16, Cond.static yJ7_fill_d0a16, Cond.initialized RJ7, Cond.code yJ7_fill_d0a16 cJ7_fill_d0a16 5 none, Cond.methodLink RX2 74 yX2_chancesAt, Cond.instanceMethod yX2_chancesAt, Cond.selects RX2 yX2_chancesAt yX2_chancesAt]
def wsX2_exchangeFirstBetter_r2 : List Cond := [Cond.code yX2_chancesAt cX2_chancesAt 2 (some (.array .int)), Cond.fieldLink RX2 35 "InningsHouse$Lineup" "strikers" "[LInningsHouse$Striker;", Cond.fieldLink RX2 90 "InningsHouse$Striker" "chances" "[I", Cond.methodLink RX2 78 yX2_fillMeansOf, Cond.instanceMethod yX2_fillMeansOf, Cond.selects RX2 yX2_fillMeansOf yX2_fillMeansOf, Cond.code yX2_fillMeansOf cX2_fillMeansOf 11 none, Cond.fieldLink RX2 31 "InningsHouse$Lineup" "bases" "LInningsHouse$Bases;", Cond.fieldLink RX2 82 "InningsHouse$Bases" "standings" "[I", Cond.fieldLink RX2 85 "InningsHouse$Bases" "runs" "[I", Cond.constantLong RX2 62 (1000000), Cond.constantLong RX2 88 (1000), Cond.methodLink RX2 114 yX2_exchange, Cond.instanceMethod yX2_exchange, Cond.selects RX2 yX2_exchange yX2_exchange, Cond.code yX2_exchange cX2_exchange 4 none]
def wsX2_exchangeFirstBetter : List Cond := .code yX2_exchangeFirstBetter cX2_exchangeFirstBetter 4 (some .boolean) :: ((wsX2_exchangeFirstBetter_r1 ++ wsX2_exchangeFirstBetter_r2) ++ wsX20 ++ wsX60 ++ wsX10)
def wsX2_exchangeWhileBetter_r1 : List Cond := [Cond.methodLink RX2 106 yX2_exchangeFirstBetter, Cond.instanceMethod yX2_exchangeFirstBetter, Cond.selects RX2 yX2_exchangeFirstBetter yX2_exchangeFirstBetter, Cond.initialized RX2, Cond.code yX2_exchangeFirstBetter cX2_exchangeFirstBetter 4 (some .boolean), Cond.fieldLink RX2 45 "InningsHouse$Lineup" "places" "I", Cond.fieldLink RX2 9 "InningsHouse$Lineup" "row" "[I", Cond.methodLink RX2 110 yX2_rateNow, Cond.instanceMethod yX2_rateNow, Cond.selects RX2 yX2_rateNow yX2_rateNow, Cond.code yX2_rateNow cX2_rateNow 1 (some .int), Cond.methodLink RX2 64 yX2_meanFrom, Cond.instanceMethod yX2_meanFrom, Cond.selects RX2 yX2_meanFrom yX2_meanFrom, Cond.code yX2_meanFrom cX2_meanFrom 4 (some .int), Cond.fieldLink RX2 18 "InningsHouse$Lineup" "means" "[J", Cond.methodLink RX2 49 yX2_fillMeans, Cond.instanceMethod yX2_fillMeans, Cond.selects RX2 yX2_fillMeans yX2_fillMeans, Cond.code yX2_fillMeans cX2_fillMeans 5 none, Cond.fieldLink RX2 22 "InningsHouse$Lineup" "meansBehind" "[J", Cond.methodLink RX2 68 yJ7_fill_d0a16, Cond.static yJ7_fill_d0a16, Cond.initialized RJ7]
def wsX2_exchangeWhileBetter_r2 : List Cond := [Cond.code yJ7_fill_d0a16 cJ7_fill_d0a16 5 none, Cond.methodLink RX2 74 yX2_chancesAt, Cond.instanceMethod yX2_chancesAt, Cond.selects RX2 yX2_chancesAt yX2_chancesAt, Cond.code yX2_chancesAt cX2_chancesAt 2 (some (.array .int)), Cond.fieldLink RX2 35 "InningsHouse$Lineup" "strikers" "[LInningsHouse$Striker;", Cond.fieldLink RX2 90 "InningsHouse$Striker" "chances" "[I", Cond.methodLink RX2 78 yX2_fillMeansOf, Cond.instanceMethod yX2_fillMeansOf, Cond.selects RX2 yX2_fillMeansOf yX2_fillMeansOf, Cond.code yX2_fillMeansOf cX2_fillMeansOf 11 none, Cond.fieldLink RX2 31 "InningsHouse$Lineup" "bases" "LInningsHouse$Bases;", Cond.fieldLink RX2 82 "InningsHouse$Bases" "standings" "[I", Cond.fieldLink RX2 85 "InningsHouse$Bases" "runs" "[I", Cond.constantLong RX2 62 (1000000), Cond.constantLong RX2 88 (1000), Cond.methodLink RX2 114 yX2_exchange, Cond.instanceMethod yX2_exchange, Cond.selects RX2 yX2_exchange yX2_exchange, Cond.code yX2_exchange cX2_exchange 4 none]
def wsX2_exchangeWhileBetter : List Cond := .code yX2_exchangeWhileBetter cX2_exchangeWhileBetter 2 (some .int) :: ((wsX2_exchangeWhileBetter_r1 ++ wsX2_exchangeWhileBetter_r2) ++ wsX20 ++ wsX60 ++ wsX10)
def wsX2_sortRow : List Cond := .code yX2_sortRow cX2_sortRow 3 none :: ([.fieldLink RX2 45 "InningsHouse$Lineup" "places" "I", .fieldLink RX2 9 "InningsHouse$Lineup" "row" "[I", .methodLink RX2 114 yX2_exchange, .instanceMethod yX2_exchange, .selects RX2 yX2_exchange yX2_exchange, .initialized RX2, .code yX2_exchange cX2_exchange 4 none] ++ wsX20)
def wsX2_halvesWereMetExchanged : List Cond := .code yX2_halvesWereMetExchanged cX2_halvesWereMetExchanged 3 (some .boolean) :: ([.fieldLink RX2 45 "InningsHouse$Lineup" "places" "I", .fieldLink RX2 9 "InningsHouse$Lineup" "row" "[I"] ++ wsX20)
def wsX2_nextRow : List Cond := .code yX2_nextRow cX2_nextRow 5 (some .boolean) :: ([.fieldLink RX2 45 "InningsHouse$Lineup" "places" "I", .fieldLink RX2 9 "InningsHouse$Lineup" "row" "[I", .methodLink RX2 114 yX2_exchange, .instanceMethod yX2_exchange, .selects RX2 yX2_exchange yX2_exchange, .initialized RX2, .code yX2_exchange cX2_exchange 4 none] ++ wsX20)
def wsX2_becomeBest_r1 : List Cond := [Cond.fieldLink RX2 9 "InningsHouse$Lineup" "row" "[I", Cond.fieldLink RX2 15 "InningsHouse$Lineup" "kept" "[I", Cond.fieldLink RX2 45 "InningsHouse$Lineup" "places" "I", Cond.methodLink RX2 39 arraycopyName, Cond.native arraycopyName, Cond.static arraycopyName, Cond.initialized "java/lang/System", Cond.methodLink RX2 117 yX2_sortRow, Cond.instanceMethod yX2_sortRow, Cond.selects RX2 yX2_sortRow yX2_sortRow, Cond.initialized RX2, Cond.code yX2_sortRow cX2_sortRow 3 none, Cond.methodLink RX2 114 yX2_exchange, Cond.instanceMethod yX2_exchange, Cond.selects RX2 yX2_exchange yX2_exchange, Cond.code yX2_exchange cX2_exchange 4 none, Cond.methodLink RX2 120 yX2_halvesWereMetExchanged, Cond.instanceMethod yX2_halvesWereMetExchanged, Cond.selects RX2 yX2_halvesWereMetExchanged yX2_halvesWereMetExchanged, Cond.code yX2_halvesWereMetExchanged cX2_halvesWereMetExchanged 3 (some .boolean), Cond.methodLink RX2 110 yX2_rateNow, Cond.instanceMethod yX2_rateNow, Cond.selects RX2 yX2_rateNow yX2_rateNow, Cond.code yX2_rateNow cX2_rateNow 1 (some .int)]
def wsX2_becomeBest_r2 : List Cond := [Cond.methodLink RX2 64 yX2_meanFrom, Cond.instanceMethod yX2_meanFrom, Cond.selects RX2 yX2_meanFrom yX2_meanFrom, Cond.code yX2_meanFrom cX2_meanFrom 4 (some .int), Cond.fieldLink RX2 18 "InningsHouse$Lineup" "means" "[J", Cond.methodLink RX2 49 yX2_fillMeans, Cond.instanceMethod yX2_fillMeans, Cond.selects RX2 yX2_fillMeans yX2_fillMeans, Cond.code yX2_fillMeans cX2_fillMeans 5 none, Cond.fieldLink RX2 22 "InningsHouse$Lineup" "meansBehind" "[J", Cond.methodLink RX2 68 yJ7_fill_d0a16, Cond.static yJ7_fill_d0a16, Cond.initialized RJ7, Cond.code yJ7_fill_d0a16 cJ7_fill_d0a16 5 none, Cond.methodLink RX2 74 yX2_chancesAt, Cond.instanceMethod yX2_chancesAt, Cond.selects RX2 yX2_chancesAt yX2_chancesAt, Cond.code yX2_chancesAt cX2_chancesAt 2 (some (.array .int)), Cond.fieldLink RX2 35 "InningsHouse$Lineup" "strikers" "[LInningsHouse$Striker;", Cond.fieldLink RX2 90 "InningsHouse$Striker" "chances" "[I", Cond.methodLink RX2 78 yX2_fillMeansOf, Cond.instanceMethod yX2_fillMeansOf, Cond.selects RX2 yX2_fillMeansOf yX2_fillMeansOf, Cond.code yX2_fillMeansOf cX2_fillMeansOf 11 none]
def wsX2_becomeBest_r3 : List Cond := [Cond.fieldLink RX2 31 "InningsHouse$Lineup" "bases" "LInningsHouse$Bases;", Cond.fieldLink RX2 82 "InningsHouse$Bases" "standings" "[I", Cond.fieldLink RX2 85 "InningsHouse$Bases" "runs" "[I", Cond.constantLong RX2 62 (1000000), Cond.constantLong RX2 88 (1000), Cond.methodLink RX2 123 yX2_nextRow, Cond.instanceMethod yX2_nextRow, Cond.selects RX2 yX2_nextRow yX2_nextRow, Cond.code yX2_nextRow cX2_nextRow 5 (some .boolean)]
def wsX2_becomeBest : List Cond := .code yX2_becomeBest cX2_becomeBest 4 (some .int) :: ((wsX2_becomeBest_r1 ++ (wsX2_becomeBest_r2 ++ wsX2_becomeBest_r3)) ++ wsX20 ++ wsX60 ++ wsX10)
def wsX3_init : List Cond := .code yX3_init cX3_init 2 none :: ([.methodLink RX3 3 objectInit, .instanceMethod objectInit, .code objectInit ⟨#[0xb1]⟩ 1 none, .arrayClass .int, .fieldLink RX3 9 "InningsHouse$LogReader" "times" "[I", .fieldLink RX3 15 "InningsHouse$LogReader" "bases" "LInningsHouse$Bases;"] ++ wsX30)
def wsX7_within : List Cond := .code yX7_within cX7_within 3 (some .boolean) :: ([])
def wsX3_fits : List Cond := .code yX3_fits cX3_fits 5 (some .boolean) :: ([.fieldLink RX3 36 "InningsHouse$LogReader" "standing" "I", .fieldLink RX3 15 "InningsHouse$LogReader" "bases" "LInningsHouse$Bases;", .constant RX3 25 (-1000000), .fieldLink RX3 9 "InningsHouse$LogReader" "times" "[I", .fieldLink RX3 30 "InningsHouse$LogReader" "runs" "I", .fieldLink RX3 33 "InningsHouse$LogReader" "halves" "I", .static yX7_within, .initialized RX7, .code yX7_within cX7_within 3 (some .boolean), .methodLink RX3 46 yX1_standingAfter, .instanceMethod yX1_standingAfter, .selects RX1 yX1_standingAfter yX1_standingAfter, .initialized RX1, .code yX1_standingAfter cX1_standingAfter 3 (some .int), .fieldLink RX1 9 "InningsHouse$Bases" "standings" "[I", .methodLink RX3 52 yX1_runsOf, .instanceMethod yX1_runsOf, .selects RX1 yX1_runsOf yX1_runsOf, .code yX1_runsOf cX1_runsOf 3 (some .int), .fieldLink RX1 15 "InningsHouse$Bases" "runs" "[I"] ++ wsX30 ++ wsX10)
def wsX3_read_r1 : List Cond := [Cond.fieldLink RX3 9 "InningsHouse$LogReader" "times" "[I", Cond.constant RX3 25 (-1000000), Cond.fieldLink RX3 26 "InningsHouse$LogReader" "clash" "I", Cond.fieldLink RX3 30 "InningsHouse$LogReader" "runs" "I", Cond.fieldLink RX3 33 "InningsHouse$LogReader" "halves" "I", Cond.fieldLink RX3 36 "InningsHouse$LogReader" "standing" "I", Cond.methodLink RX3 19 yJ7_fill_53178, Cond.static yJ7_fill_53178, Cond.initialized RJ7, Cond.code yJ7_fill_53178 cJ7_fill_53178 4 none, Cond.methodLink RX3 39 yX3_fits, Cond.instanceMethod yX3_fits, Cond.selects RX3 yX3_fits yX3_fits, Cond.initialized RX3, Cond.code yX3_fits cX3_fits 5 (some .boolean), Cond.fieldLink RX3 15 "InningsHouse$LogReader" "bases" "LInningsHouse$Bases;", Cond.static yX7_within, Cond.initialized RX7, Cond.code yX7_within cX7_within 3 (some .boolean), Cond.methodLink RX3 46 yX1_standingAfter, Cond.instanceMethod yX1_standingAfter, Cond.selects RX1 yX1_standingAfter yX1_standingAfter, Cond.initialized RX1, Cond.code yX1_standingAfter cX1_standingAfter 3 (some .int)]
def wsX3_read_r2 : List Cond := [Cond.fieldLink RX1 9 "InningsHouse$Bases" "standings" "[I", Cond.methodLink RX3 52 yX1_runsOf, Cond.instanceMethod yX1_runsOf, Cond.selects RX1 yX1_runsOf yX1_runsOf, Cond.code yX1_runsOf cX1_runsOf 3 (some .int), Cond.fieldLink RX1 15 "InningsHouse$Bases" "runs" "[I"]
def wsX3_read : List Cond := .code yX3_read cX3_read 6 none :: ((wsX3_read_r1 ++ wsX3_read_r2) ++ wsX30 ++ wsX10)
def wsX3_howManyStrikes : List Cond := .code yX3_howManyStrikes cX3_howManyStrikes 3 (some .int) :: ([.fieldLink RX3 9 "InningsHouse$LogReader" "times" "[I"] ++ wsX30)
def wsX3_told : List Cond := .code yX3_told cX3_told 2 (some .int) :: ([.fieldLink RX3 26 "InningsHouse$LogReader" "clash" "I", .fieldLink RX3 30 "InningsHouse$LogReader" "runs" "I", .fieldLink RX3 33 "InningsHouse$LogReader" "halves" "I", .fieldLink RX3 36 "InningsHouse$LogReader" "standing" "I", .fieldLink RX3 9 "InningsHouse$LogReader" "times" "[I", .constant RX3 55 (-1000001), .static yX7_within, .initialized RX7, .code yX7_within cX7_within 3 (some .boolean)] ++ wsX30)
def wsX4_init : List Cond := .code yX4_init cX4_init 4 none :: ([.methodLink RX4 3 objectInit, .instanceMethod objectInit, .code objectInit ⟨#[0xb1]⟩ 1 none, .arrayClass .int, .constant RX4 9 (-1000000), .fieldLink RX4 10 "InningsHouse$Match" "teams" "[I", .fieldLink RX4 16 "InningsHouse$Match" "starts" "[I", .fieldLink RX4 19 "InningsHouse$Match" "wins" "[I", .fieldLink RX4 22 "InningsHouse$Match" "winsBehind" "[I", .fieldLink RX4 25 "InningsHouse$Match" "bases" "LInningsHouse$Bases;", .fieldLink RX4 29 "InningsHouse$Match" "strikers" "[LInningsHouse$Striker;", .constant RX4 33 (1000000), .constant RX4 34 (500000), .fieldLink RX4 35 "InningsHouse$Match" "knownHalves" "I"] ++ wsX40)
def wsX4_forget : List Cond := .code yX4_forget cX4_forget 1 none :: ([.fieldLink RX4 35 "InningsHouse$Match" "knownHalves" "I"] ++ wsX40)
def wsX4_howManyTeams : List Cond := .code yX4_howManyTeams cX4_howManyTeams 1 (some .int) :: ([.fieldLink RX4 10 "InningsHouse$Match" "teams" "[I", .constant RX4 9 (-1000000)] ++ wsX40)
def wsX4_beginHalf : List Cond := .code yX4_beginHalf cX4_beginHalf 6 none :: ([.fieldLink RX4 16 "InningsHouse$Match" "starts" "[I"] ++ wsX40)
def wsX4_winAfter : List Cond := .code yX4_winAfter cX4_winAfter 6 (some .int) :: ([.fieldLink RX4 59 "InningsHouse$Match" "strikingTeam" "I", .fieldLink RX4 25 "InningsHouse$Match" "bases" "LInningsHouse$Bases;", .fieldLink RX4 102 "InningsHouse$Bases" "runs" "[I", .fieldLink RX4 22 "InningsHouse$Match" "winsBehind" "[I", .fieldLink RX4 105 "InningsHouse$Bases" "standings" "[I"] ++ wsX40 ++ wsX10)
def wsX4_winByStrike : List Cond := .code yX4_winByStrike cX4_winByStrike 6 (some .int) :: ([.fieldLink RX4 29 "InningsHouse$Match" "strikers" "[LInningsHouse$Striker;", .fieldLink RX4 10 "InningsHouse$Match" "teams" "[I", .fieldLink RX4 59 "InningsHouse$Match" "strikingTeam" "I", .fieldLink RX4 94 "InningsHouse$Striker" "chances" "[I", .methodLink RX4 78 yX4_winAfter, .instanceMethod yX4_winAfter, .selects RX4 yX4_winAfter yX4_winAfter, .initialized RX4, .code yX4_winAfter cX4_winAfter 6 (some .int), .fieldLink RX4 25 "InningsHouse$Match" "bases" "LInningsHouse$Bases;", .fieldLink RX4 102 "InningsHouse$Bases" "runs" "[I", .fieldLink RX4 22 "InningsHouse$Match" "winsBehind" "[I", .fieldLink RX4 105 "InningsHouse$Bases" "standings" "[I"] ++ wsX40 ++ wsX60 ++ wsX10)
def wsX4_betterOf : List Cond := .code yX4_betterOf cX4_betterOf 3 (some .int) :: ([.fieldLink RX4 59 "InningsHouse$Match" "strikingTeam" "I", .methodLink RX4 39 Lib.Math.max.name, .static Lib.Math.max.name, .initialized "java/lang/Math", .code Lib.Math.max.name Lib.Math.max.code 2 (some .int), .methodLink RX4 91 Lib.Math.min.name, .static Lib.Math.min.name, .code Lib.Math.min.name Lib.Math.min.code 2 (some .int)] ++ wsX40)
def wsX4_winBySteal : List Cond := .code yX4_winBySteal cX4_winBySteal 5 (some .int) :: ([.fieldLink RX4 29 "InningsHouse$Match" "strikers" "[LInningsHouse$Striker;", .fieldLink RX4 10 "InningsHouse$Match" "teams" "[I", .fieldLink RX4 59 "InningsHouse$Match" "strikingTeam" "I", .fieldLink RX4 99 "InningsHouse$Striker" "steals" "I", .methodLink RX4 78 yX4_winAfter, .instanceMethod yX4_winAfter, .selects RX4 yX4_winAfter yX4_winAfter, .initialized RX4, .code yX4_winAfter cX4_winAfter 6 (some .int), .fieldLink RX4 25 "InningsHouse$Match" "bases" "LInningsHouse$Bases;", .fieldLink RX4 102 "InningsHouse$Bases" "runs" "[I", .fieldLink RX4 22 "InningsHouse$Match" "winsBehind" "[I", .fieldLink RX4 105 "InningsHouse$Bases" "standings" "[I"] ++ wsX40 ++ wsX60 ++ wsX10)
def wsX4_winByBest_r1 : List Cond := [Cond.methodLink RX4 69 yX4_winByStrike, Cond.instanceMethod yX4_winByStrike, Cond.selects RX4 yX4_winByStrike yX4_winByStrike, Cond.initialized RX4, Cond.code yX4_winByStrike cX4_winByStrike 6 (some .int), Cond.fieldLink RX4 29 "InningsHouse$Match" "strikers" "[LInningsHouse$Striker;", Cond.fieldLink RX4 10 "InningsHouse$Match" "teams" "[I", Cond.fieldLink RX4 59 "InningsHouse$Match" "strikingTeam" "I", Cond.fieldLink RX4 94 "InningsHouse$Striker" "chances" "[I", Cond.methodLink RX4 78 yX4_winAfter, Cond.instanceMethod yX4_winAfter, Cond.selects RX4 yX4_winAfter yX4_winAfter, Cond.code yX4_winAfter cX4_winAfter 6 (some .int), Cond.fieldLink RX4 25 "InningsHouse$Match" "bases" "LInningsHouse$Bases;", Cond.fieldLink RX4 102 "InningsHouse$Bases" "runs" "[I", Cond.fieldLink RX4 22 "InningsHouse$Match" "winsBehind" "[I", Cond.fieldLink RX4 105 "InningsHouse$Bases" "standings" "[I", Cond.methodLink RX4 72 yX1_someoneIsOn, Cond.static yX1_someoneIsOn, Cond.initialized RX1, Cond.code yX1_someoneIsOn cX1_someoneIsOn 1 (some .boolean), Cond.methodLink RX4 82 yX4_betterOf, Cond.instanceMethod yX4_betterOf, Cond.selects RX4 yX4_betterOf yX4_betterOf]
def wsX4_winByBest_r2 : List Cond := [Cond.code yX4_betterOf cX4_betterOf 3 (some .int), Cond.methodLink RX4 39 Lib.Math.max.name, Cond.static Lib.Math.max.name, Cond.initialized "java/lang/Math", Cond.code Lib.Math.max.name Lib.Math.max.code 2 (some .int), Cond.methodLink RX4 91 Lib.Math.min.name, Cond.static Lib.Math.min.name, Cond.code Lib.Math.min.name Lib.Math.min.code 2 (some .int), Cond.methodLink RX4 85 yX1_canSteal, Cond.static yX1_canSteal, Cond.code yX1_canSteal cX1_canSteal 1 (some .boolean), Cond.methodLink RX4 88 yX4_winBySteal, Cond.instanceMethod yX4_winBySteal, Cond.selects RX4 yX4_winBySteal yX4_winBySteal, Cond.code yX4_winBySteal cX4_winBySteal 5 (some .int), Cond.fieldLink RX4 99 "InningsHouse$Striker" "steals" "I"]
def wsX4_winByBest : List Cond := .code yX4_winByBest cX4_winByBest 4 (some .int) :: ((wsX4_winByBest_r1 ++ wsX4_winByBest_r2) ++ wsX40 ++ wsX60 ++ wsX10)
def wsX4_fillHalf_r1 : List Cond := [Cond.fieldLink RX4 59 "InningsHouse$Match" "strikingTeam" "I", Cond.fieldLink RX4 19 "InningsHouse$Match" "wins" "[I", Cond.fieldLink RX4 22 "InningsHouse$Match" "winsBehind" "[I", Cond.methodLink RX4 62 yX4_beginHalf, Cond.instanceMethod yX4_beginHalf, Cond.selects RX4 yX4_beginHalf yX4_beginHalf, Cond.initialized RX4, Cond.code yX4_beginHalf cX4_beginHalf 6 none, Cond.fieldLink RX4 16 "InningsHouse$Match" "starts" "[I", Cond.methodLink RX4 66 yX4_winByBest, Cond.instanceMethod yX4_winByBest, Cond.selects RX4 yX4_winByBest yX4_winByBest, Cond.code yX4_winByBest cX4_winByBest 4 (some .int), Cond.methodLink RX4 69 yX4_winByStrike, Cond.instanceMethod yX4_winByStrike, Cond.selects RX4 yX4_winByStrike yX4_winByStrike, Cond.code yX4_winByStrike cX4_winByStrike 6 (some .int), Cond.fieldLink RX4 29 "InningsHouse$Match" "strikers" "[LInningsHouse$Striker;", Cond.fieldLink RX4 10 "InningsHouse$Match" "teams" "[I", Cond.fieldLink RX4 94 "InningsHouse$Striker" "chances" "[I", Cond.methodLink RX4 78 yX4_winAfter, Cond.instanceMethod yX4_winAfter, Cond.selects RX4 yX4_winAfter yX4_winAfter, Cond.code yX4_winAfter cX4_winAfter 6 (some .int)]
def wsX4_fillHalf_r2 : List Cond := [Cond.fieldLink RX4 25 "InningsHouse$Match" "bases" "LInningsHouse$Bases;", Cond.fieldLink RX4 102 "InningsHouse$Bases" "runs" "[I", Cond.fieldLink RX4 105 "InningsHouse$Bases" "standings" "[I", Cond.methodLink RX4 72 yX1_someoneIsOn, Cond.static yX1_someoneIsOn, Cond.initialized RX1, Cond.code yX1_someoneIsOn cX1_someoneIsOn 1 (some .boolean), Cond.methodLink RX4 82 yX4_betterOf, Cond.instanceMethod yX4_betterOf, Cond.selects RX4 yX4_betterOf yX4_betterOf, Cond.code yX4_betterOf cX4_betterOf 3 (some .int), Cond.methodLink RX4 39 Lib.Math.max.name, Cond.static Lib.Math.max.name, Cond.initialized "java/lang/Math", Cond.code Lib.Math.max.name Lib.Math.max.code 2 (some .int), Cond.methodLink RX4 91 Lib.Math.min.name, Cond.static Lib.Math.min.name, Cond.code Lib.Math.min.name Lib.Math.min.code 2 (some .int), Cond.methodLink RX4 85 yX1_canSteal, Cond.static yX1_canSteal, Cond.code yX1_canSteal cX1_canSteal 1 (some .boolean), Cond.methodLink RX4 88 yX4_winBySteal, Cond.instanceMethod yX4_winBySteal, Cond.selects RX4 yX4_winBySteal yX4_winBySteal]
def wsX4_fillHalf_r3 : List Cond := [Cond.code yX4_winBySteal cX4_winBySteal 5 (some .int), Cond.fieldLink RX4 99 "InningsHouse$Striker" "steals" "I"]
def wsX4_fillHalf : List Cond := .code yX4_fillHalf cX4_fillHalf 7 none :: ((wsX4_fillHalf_r1 ++ (wsX4_fillHalf_r2 ++ wsX4_fillHalf_r3)) ++ wsX40 ++ wsX60 ++ wsX10)
def wsX4_learnStarts_r1 : List Cond := [Cond.fieldLink RX4 35 "InningsHouse$Match" "knownHalves" "I", Cond.fieldLink RX4 16 "InningsHouse$Match" "starts" "[I", Cond.fieldLink RX4 19 "InningsHouse$Match" "wins" "[I", Cond.methodLink RX4 49 yX4_fillHalf, Cond.instanceMethod yX4_fillHalf, Cond.selects RX4 yX4_fillHalf yX4_fillHalf, Cond.initialized RX4, Cond.code yX4_fillHalf cX4_fillHalf 7 none, Cond.fieldLink RX4 59 "InningsHouse$Match" "strikingTeam" "I", Cond.fieldLink RX4 22 "InningsHouse$Match" "winsBehind" "[I", Cond.methodLink RX4 62 yX4_beginHalf, Cond.instanceMethod yX4_beginHalf, Cond.selects RX4 yX4_beginHalf yX4_beginHalf, Cond.code yX4_beginHalf cX4_beginHalf 6 none, Cond.methodLink RX4 66 yX4_winByBest, Cond.instanceMethod yX4_winByBest, Cond.selects RX4 yX4_winByBest yX4_winByBest, Cond.code yX4_winByBest cX4_winByBest 4 (some .int), Cond.methodLink RX4 69 yX4_winByStrike, Cond.instanceMethod yX4_winByStrike, Cond.selects RX4 yX4_winByStrike yX4_winByStrike, Cond.code yX4_winByStrike cX4_winByStrike 6 (some .int), Cond.fieldLink RX4 29 "InningsHouse$Match" "strikers" "[LInningsHouse$Striker;", Cond.fieldLink RX4 10 "InningsHouse$Match" "teams" "[I"]
def wsX4_learnStarts_r2 : List Cond := [Cond.fieldLink RX4 94 "InningsHouse$Striker" "chances" "[I", Cond.methodLink RX4 78 yX4_winAfter, Cond.instanceMethod yX4_winAfter, Cond.selects RX4 yX4_winAfter yX4_winAfter, Cond.code yX4_winAfter cX4_winAfter 6 (some .int), Cond.fieldLink RX4 25 "InningsHouse$Match" "bases" "LInningsHouse$Bases;", Cond.fieldLink RX4 102 "InningsHouse$Bases" "runs" "[I", Cond.fieldLink RX4 105 "InningsHouse$Bases" "standings" "[I", Cond.methodLink RX4 72 yX1_someoneIsOn, Cond.static yX1_someoneIsOn, Cond.initialized RX1, Cond.code yX1_someoneIsOn cX1_someoneIsOn 1 (some .boolean), Cond.methodLink RX4 82 yX4_betterOf, Cond.instanceMethod yX4_betterOf, Cond.selects RX4 yX4_betterOf yX4_betterOf, Cond.code yX4_betterOf cX4_betterOf 3 (some .int), Cond.methodLink RX4 39 Lib.Math.max.name, Cond.static Lib.Math.max.name, Cond.initialized "java/lang/Math", Cond.code Lib.Math.max.name Lib.Math.max.code 2 (some .int), Cond.methodLink RX4 91 Lib.Math.min.name, Cond.static Lib.Math.min.name, Cond.code Lib.Math.min.name Lib.Math.min.code 2 (some .int), Cond.methodLink RX4 85 yX1_canSteal]
def wsX4_learnStarts_r3 : List Cond := [Cond.static yX1_canSteal, Cond.code yX1_canSteal cX1_canSteal 1 (some .boolean), Cond.methodLink RX4 88 yX4_winBySteal, Cond.instanceMethod yX4_winBySteal, Cond.selects RX4 yX4_winBySteal yX4_winBySteal, Cond.code yX4_winBySteal cX4_winBySteal 5 (some .int), Cond.fieldLink RX4 99 "InningsHouse$Striker" "steals" "I"]
def wsX4_learnStarts : List Cond := .code yX4_learnStarts cX4_learnStarts 4 none :: ((wsX4_learnStarts_r1 ++ (wsX4_learnStarts_r2 ++ wsX4_learnStarts_r3)) ++ wsX40 ++ wsX60 ++ wsX10)
def wsX4_choiceAt : List Cond := .code yX4_choiceAt cX4_choiceAt 5 (some .int) :: ([.fieldLink RX4 19 "InningsHouse$Match" "wins" "[I", .methodLink RX4 69 yX4_winByStrike, .instanceMethod yX4_winByStrike, .selects RX4 yX4_winByStrike yX4_winByStrike, .initialized RX4, .code yX4_winByStrike cX4_winByStrike 6 (some .int), .fieldLink RX4 29 "InningsHouse$Match" "strikers" "[LInningsHouse$Striker;", .fieldLink RX4 10 "InningsHouse$Match" "teams" "[I", .fieldLink RX4 59 "InningsHouse$Match" "strikingTeam" "I", .fieldLink RX4 94 "InningsHouse$Striker" "chances" "[I", .methodLink RX4 78 yX4_winAfter, .instanceMethod yX4_winAfter, .selects RX4 yX4_winAfter yX4_winAfter, .code yX4_winAfter cX4_winAfter 6 (some .int), .fieldLink RX4 25 "InningsHouse$Match" "bases" "LInningsHouse$Bases;", .fieldLink RX4 102 "InningsHouse$Bases" "runs" "[I", .fieldLink RX4 22 "InningsHouse$Match" "winsBehind" "[I", .fieldLink RX4 105 "InningsHouse$Bases" "standings" "[I", .methodLink RX4 72 yX1_someoneIsOn, .static yX1_someoneIsOn, .initialized RX1, .code yX1_someoneIsOn cX1_someoneIsOn 1 (some .boolean)] ++ wsX40 ++ wsX60 ++ wsX10)
def wsX4_walkIsBetter : List Cond := .code yX4_walkIsBetter cX4_walkIsBetter 6 (some .int) :: ([.fieldLink RX4 19 "InningsHouse$Match" "wins" "[I", .fieldLink RX4 59 "InningsHouse$Match" "strikingTeam" "I", .methodLink RX4 78 yX4_winAfter, .instanceMethod yX4_winAfter, .selects RX4 yX4_winAfter yX4_winAfter, .initialized RX4, .code yX4_winAfter cX4_winAfter 6 (some .int), .fieldLink RX4 25 "InningsHouse$Match" "bases" "LInningsHouse$Bases;", .fieldLink RX4 102 "InningsHouse$Bases" "runs" "[I", .fieldLink RX4 22 "InningsHouse$Match" "winsBehind" "[I", .fieldLink RX4 105 "InningsHouse$Bases" "standings" "[I"] ++ wsX40 ++ wsX10)
def wsX4_told_r1 : List Cond := [Cond.constant RX4 9 (-1000000), Cond.methodLink RX4 39 Lib.Math.max.name, Cond.static Lib.Math.max.name, Cond.initialized "java/lang/Math", Cond.code Lib.Math.max.name Lib.Math.max.code 2 (some .int), Cond.fieldLink RX4 16 "InningsHouse$Match" "starts" "[I", Cond.fieldLink RX4 19 "InningsHouse$Match" "wins" "[I", Cond.methodLink RX4 45 yX4_learnStarts, Cond.instanceMethod yX4_learnStarts, Cond.selects RX4 yX4_learnStarts yX4_learnStarts, Cond.initialized RX4, Cond.code yX4_learnStarts cX4_learnStarts 4 none, Cond.fieldLink RX4 35 "InningsHouse$Match" "knownHalves" "I", Cond.methodLink RX4 49 yX4_fillHalf, Cond.instanceMethod yX4_fillHalf, Cond.selects RX4 yX4_fillHalf yX4_fillHalf, Cond.code yX4_fillHalf cX4_fillHalf 7 none, Cond.fieldLink RX4 59 "InningsHouse$Match" "strikingTeam" "I", Cond.fieldLink RX4 22 "InningsHouse$Match" "winsBehind" "[I", Cond.methodLink RX4 62 yX4_beginHalf, Cond.instanceMethod yX4_beginHalf, Cond.selects RX4 yX4_beginHalf yX4_beginHalf, Cond.code yX4_beginHalf cX4_beginHalf 6 none, Cond.methodLink RX4 66 yX4_winByBest]
def wsX4_told_r2 : List Cond := [Cond.instanceMethod yX4_winByBest, Cond.selects RX4 yX4_winByBest yX4_winByBest, Cond.code yX4_winByBest cX4_winByBest 4 (some .int), Cond.methodLink RX4 69 yX4_winByStrike, Cond.instanceMethod yX4_winByStrike, Cond.selects RX4 yX4_winByStrike yX4_winByStrike, Cond.code yX4_winByStrike cX4_winByStrike 6 (some .int), Cond.fieldLink RX4 29 "InningsHouse$Match" "strikers" "[LInningsHouse$Striker;", Cond.fieldLink RX4 10 "InningsHouse$Match" "teams" "[I", Cond.fieldLink RX4 94 "InningsHouse$Striker" "chances" "[I", Cond.methodLink RX4 78 yX4_winAfter, Cond.instanceMethod yX4_winAfter, Cond.selects RX4 yX4_winAfter yX4_winAfter, Cond.code yX4_winAfter cX4_winAfter 6 (some .int), Cond.fieldLink RX4 25 "InningsHouse$Match" "bases" "LInningsHouse$Bases;", Cond.fieldLink RX4 102 "InningsHouse$Bases" "runs" "[I", Cond.fieldLink RX4 105 "InningsHouse$Bases" "standings" "[I", Cond.methodLink RX4 72 yX1_someoneIsOn, Cond.static yX1_someoneIsOn, Cond.initialized RX1, Cond.code yX1_someoneIsOn cX1_someoneIsOn 1 (some .boolean), Cond.methodLink RX4 82 yX4_betterOf, Cond.instanceMethod yX4_betterOf, Cond.selects RX4 yX4_betterOf yX4_betterOf]
def wsX4_told_r3 : List Cond := [Cond.code yX4_betterOf cX4_betterOf 3 (some .int), Cond.methodLink RX4 91 Lib.Math.min.name, Cond.static Lib.Math.min.name, Cond.code Lib.Math.min.name Lib.Math.min.code 2 (some .int), Cond.methodLink RX4 85 yX1_canSteal, Cond.static yX1_canSteal, Cond.code yX1_canSteal cX1_canSteal 1 (some .boolean), Cond.methodLink RX4 88 yX4_winBySteal, Cond.instanceMethod yX4_winBySteal, Cond.selects RX4 yX4_winBySteal yX4_winBySteal, Cond.code yX4_winBySteal cX4_winBySteal 5 (some .int), Cond.fieldLink RX4 99 "InningsHouse$Striker" "steals" "I", Cond.methodLink RX4 53 yX4_choiceAt, Cond.instanceMethod yX4_choiceAt, Cond.selects RX4 yX4_choiceAt yX4_choiceAt, Cond.code yX4_choiceAt cX4_choiceAt 5 (some .int), Cond.methodLink RX4 56 yX4_walkIsBetter, Cond.instanceMethod yX4_walkIsBetter, Cond.selects RX4 yX4_walkIsBetter yX4_walkIsBetter, Cond.code yX4_walkIsBetter cX4_walkIsBetter 6 (some .int)]
def wsX4_told : List Cond := .code yX4_told cX4_told 9 (some .int) :: ((wsX4_told_r1 ++ (wsX4_told_r2 ++ wsX4_told_r3)) ++ wsX40 ++ wsX60 ++ wsX10)
def wsX5_init : List Cond := .code yX5_init cX5_init 1 none :: ([.methodLink RX5 1 objectInit, .instanceMethod objectInit, .code objectInit ⟨#[0xb1]⟩ 1 none, .arrayClass .int, .fieldLink RX5 9 "InningsHouse$Sheet" "items" "[I", .fieldLink RX5 13 "InningsHouse$Sheet" "missing" "Z"] ++ wsX50)
def wsX5_begin : List Cond := .code yX5_begin cX5_begin 3 none :: ([.fieldLink RX5 13 "InningsHouse$Sheet" "missing" "Z", .fieldLink RX5 17 "InningsHouse$Sheet" "lane" "I", .fieldLink RX5 21 "InningsHouse$Sheet" "size" "I", .fieldLink RX5 9 "InningsHouse$Sheet" "items" "[I", .methodLink RX5 24 yJ7_fill_53178, .static yJ7_fill_53178, .initialized RJ7, .code yJ7_fill_53178 cJ7_fill_53178 4 none] ++ wsX50)
def wsX5_holds : List Cond := .code yX5_holds cX5_holds 3 (some .boolean) :: ([.fieldLink RX5 21 "InningsHouse$Sheet" "size" "I"] ++ wsX50)
def wsX5_cutToLane : List Cond := .code yX5_cutToLane cX5_cutToLane 2 (some .int) :: ([.fieldLink RX5 17 "InningsHouse$Sheet" "lane" "I"] ++ wsX50)
def wsX6_init : List Cond := .code yX6_init cX6_init 1 none :: ([.methodLink RX6 3 objectInit, .instanceMethod objectInit, .code objectInit ⟨#[0xb1]⟩ 1 none, .arrayClass .int, .fieldLink RX6 9 "InningsHouse$Striker" "chances" "[I"] ++ wsX60)
def wsX6_giveTheRestToOut : List Cond := .code yX6_giveTheRestToOut cX6_giveTheRestToOut 3 none :: ([.fieldLink RX6 9 "InningsHouse$Striker" "chances" "[I"] ++ wsX60)
def wsX6_chanceOrSteals : List Cond := .code yX6_chanceOrSteals cX6_chanceOrSteals 2 (some .int) :: ([.fieldLink RX6 15 "InningsHouse$Striker" "steals" "I", .fieldLink RX6 9 "InningsHouse$Striker" "chances" "[I"] ++ wsX60)
def wsX6_isOne : List Cond := .code yX6_isOne cX6_isOne 3 (some .boolean) :: ([.methodLink RX6 19 yX6_toldKind, .instanceMethod yX6_toldKind, .selects RX6 yX6_toldKind yX6_toldKind, .initialized RX6, .code yX6_toldKind cX6_toldKind 1 (some .int), .fieldLink RX6 9 "InningsHouse$Striker" "chances" "[I", .fieldLink RX6 15 "InningsHouse$Striker" "steals" "I"] ++ wsX60)
def wsX7_init_r1 : List Cond := [Cond.methodLink RX7 1 objectInit, Cond.instanceMethod objectInit, Cond.code objectInit ⟨#[0xb1]⟩ 1 none, Cond.classLink RX7 9 RX5, Cond.fieldLink RX7 11 "InningsHouse" "sheets" "[LInningsHouse$Sheet;", Cond.instantiable RX5 4, Cond.initialized RX5, Cond.classLink RX7 16 RX6, Cond.fieldLink RX7 18 "InningsHouse" "strikers" "[LInningsHouse$Striker;", Cond.instantiable RX6 2, Cond.initialized RX6, Cond.fieldLink RX7 23 "InningsHouse" "strikerCount" "I", Cond.classLink RX7 27 RX1, Cond.instantiable RX1 2, Cond.initialized RX1, Cond.fieldLink RX7 30 "InningsHouse" "bases" "LInningsHouse$Bases;", Cond.classLink RX7 34 RX2, Cond.instantiable RX2 9, Cond.initialized RX2, Cond.fieldLink RX7 39 "InningsHouse" "lineup" "LInningsHouse$Lineup;", Cond.classLink RX7 43 RX4, Cond.instantiable RX4 8, Cond.initialized RX4, Cond.fieldLink RX7 46 "InningsHouse" "match" "LInningsHouse$Match;"]
def wsX7_init_r2 : List Cond := [Cond.classLink RX7 50 RX3, Cond.instantiable RX3 6, Cond.initialized RX3, Cond.fieldLink RX7 55 "InningsHouse" "reader" "LInningsHouse$LogReader;", Cond.classLink RX7 59 RX0, Cond.instantiable RX0 2, Cond.initialized RX0, Cond.fieldLink RX7 62 "InningsHouse" "asks" "LInningsHouse$Asks;", Cond.fieldLink RX7 66 "InningsHouse" "finding" "I", Cond.instanceMethod yX5_init, Cond.code yX5_init cX5_init 1 none, Cond.methodLink RX5 1 objectInit, Cond.arrayClass .int, Cond.fieldLink RX5 9 "InningsHouse$Sheet" "items" "[I", Cond.fieldLink RX5 13 "InningsHouse$Sheet" "missing" "Z", Cond.instanceMethod yX6_init, Cond.code yX6_init cX6_init 1 none, Cond.methodLink RX6 3 objectInit, Cond.fieldLink RX6 9 "InningsHouse$Striker" "chances" "[I", Cond.methodLink RX7 29 yX1_init, Cond.instanceMethod yX1_init, Cond.code yX1_init cX1_init 3 none, Cond.methodLink RX1 3 objectInit, Cond.fieldLink RX1 9 "InningsHouse$Bases" "standings" "[I"]
def wsX7_init_r3 : List Cond := [Cond.fieldLink RX1 15 "InningsHouse$Bases" "runs" "[I", Cond.methodLink RX1 18 yX1_tell, Cond.instanceMethod yX1_tell, Cond.selects RX1 yX1_tell yX1_tell, Cond.code yX1_tell cX1_tell 6 none, Cond.constant RX1 26 (-1000000), Cond.methodLink RX1 22 yX1_canSteal, Cond.static yX1_canSteal, Cond.code yX1_canSteal cX1_canSteal 1 (some .boolean), Cond.methodLink RX1 27 yX1_menAfter, Cond.static yX1_menAfter, Cond.code yX1_menAfter cX1_menAfter 2 (some .int), Cond.methodLink RX1 34 yX1_menAfterWalk, Cond.static yX1_menAfterWalk, Cond.code yX1_menAfterWalk cX1_menAfterWalk 1 (some .int), Cond.methodLink RX1 31 yX1_menHome, Cond.static yX1_menHome, Cond.code yX1_menHome cX1_menHome 2 (some .int), Cond.methodLink RX1 38 yJ6_bitCount_0f7a4, Cond.static yJ6_bitCount_0f7a4, Cond.initialized RJ6, Cond.code yJ6_bitCount_0f7a4 cJ6_bitCount_0f7a4 1 (some .int), Cond.constant RJ6 265 (1431655765), Cond.constant RJ6 266 (858993459)]
def wsX7_init_r4 : List Cond := [Cond.constant RJ6 267 (252645135), Cond.methodLink RX7 36 yX2_init, Cond.instanceMethod yX2_init, Cond.code yX2_init cX2_init 3 none, Cond.methodLink RX2 3 objectInit, Cond.fieldLink RX2 9 "InningsHouse$Lineup" "row" "[I", Cond.fieldLink RX2 15 "InningsHouse$Lineup" "kept" "[I", Cond.arrayClass .long, Cond.fieldLink RX2 18 "InningsHouse$Lineup" "means" "[J", Cond.fieldLink RX2 22 "InningsHouse$Lineup" "meansBehind" "[J", Cond.fieldLink RX2 25 "InningsHouse$Lineup" "likelies" "[I", Cond.fieldLink RX2 28 "InningsHouse$Lineup" "likeliesBehind" "[I", Cond.fieldLink RX2 31 "InningsHouse$Lineup" "bases" "LInningsHouse$Bases;", Cond.fieldLink RX2 35 "InningsHouse$Lineup" "strikers" "[LInningsHouse$Striker;", Cond.methodLink RX7 45 yX4_init, Cond.instanceMethod yX4_init, Cond.code yX4_init cX4_init 4 none, Cond.methodLink RX4 3 objectInit, Cond.constant RX4 9 (-1000000), Cond.fieldLink RX4 10 "InningsHouse$Match" "teams" "[I", Cond.fieldLink RX4 16 "InningsHouse$Match" "starts" "[I", Cond.fieldLink RX4 19 "InningsHouse$Match" "wins" "[I", Cond.fieldLink RX4 22 "InningsHouse$Match" "winsBehind" "[I", Cond.fieldLink RX4 25 "InningsHouse$Match" "bases" "LInningsHouse$Bases;"]
def wsX7_init_r5 : List Cond := [Cond.fieldLink RX4 29 "InningsHouse$Match" "strikers" "[LInningsHouse$Striker;", Cond.constant RX4 33 (1000000), Cond.constant RX4 34 (500000), Cond.fieldLink RX4 35 "InningsHouse$Match" "knownHalves" "I", Cond.methodLink RX7 52 yX3_init, Cond.instanceMethod yX3_init, Cond.code yX3_init cX3_init 2 none, Cond.methodLink RX3 3 objectInit, Cond.fieldLink RX3 9 "InningsHouse$LogReader" "times" "[I", Cond.fieldLink RX3 15 "InningsHouse$LogReader" "bases" "LInningsHouse$Bases;", Cond.instanceMethod yX0_init, Cond.code yX0_init cX0_init 1 none, Cond.methodLink RX0 3 objectInit, Cond.fieldLink RX0 11 "InningsHouse$Asks" "numbers" "[I"]
def wsX7_init : List Cond := .code yX7_init cX7_init 2 none :: ((wsX7_init_r1 ++ (wsX7_init_r2 ++ (wsX7_init_r3 ++ (wsX7_init_r4 ++ wsX7_init_r5)))) ++ wsX70 ++ wsX50 ++ wsX60 ++ wsX10 ++ wsX20 ++ wsX40 ++ wsX30 ++ wsX00)
def wsX7_isSheet : List Cond := .code yX7_isSheet cX7_isSheet 1 (some .boolean) :: ([.methodLink RX7 73 yX7_within, .static yX7_within, .initialized RX7, .code yX7_within cX7_within 3 (some .boolean)])
def wsX7_found : List Cond := .code yX7_found cX7_found 2 (some .int) :: ([.fieldLink RX7 66 "InningsHouse" "finding" "I", .constant RX7 233 (-1000010)] ++ wsX70)
def wsX7_fine : List Cond := .code yX7_fine cX7_fine 2 (some .int) :: ([.fieldLink RX7 66 "InningsHouse" "finding" "I"] ++ wsX70)
def wsX7_sheet_r1 : List Cond := [Cond.constant RX7 77 (-1000001), Cond.fieldLink RX7 11 "InningsHouse" "sheets" "[LInningsHouse$Sheet;", Cond.methodLink RX7 69 yX7_isSheet, Cond.static yX7_isSheet, Cond.initialized RX7, Cond.code yX7_isSheet cX7_isSheet 1 (some .boolean), Cond.methodLink RX7 73 yX7_within, Cond.static yX7_within, Cond.code yX7_within cX7_within 3 (some .boolean), Cond.methodLink RX7 78 yX7_found, Cond.instanceMethod yX7_found, Cond.selects RX7 yX7_found yX7_found, Cond.code yX7_found cX7_found 2 (some .int), Cond.fieldLink RX7 66 "InningsHouse" "finding" "I", Cond.constant RX7 233 (-1000010), Cond.methodLink RX7 82 yX5_begin, Cond.instanceMethod yX5_begin, Cond.selects RX5 yX5_begin yX5_begin, Cond.initialized RX5, Cond.code yX5_begin cX5_begin 3 none, Cond.fieldLink RX5 13 "InningsHouse$Sheet" "missing" "Z", Cond.fieldLink RX5 17 "InningsHouse$Sheet" "lane" "I", Cond.fieldLink RX5 21 "InningsHouse$Sheet" "size" "I", Cond.fieldLink RX5 9 "InningsHouse$Sheet" "items" "[I"]
def wsX7_sheet_r2 : List Cond := [Cond.methodLink RX5 24 yJ7_fill_53178, Cond.static yJ7_fill_53178, Cond.initialized RJ7, Cond.code yJ7_fill_53178 cJ7_fill_53178 4 none, Cond.methodLink RX7 86 yX7_fine, Cond.instanceMethod yX7_fine, Cond.selects RX7 yX7_fine yX7_fine, Cond.code yX7_fine cX7_fine 2 (some .int)]
def wsX7_sheet : List Cond := .code yX7_sheet cX7_sheet 4 (some .int) :: ((wsX7_sheet_r1 ++ wsX7_sheet_r2) ++ wsX70 ++ wsX50)
def wsX7_set_r1 : List Cond := [Cond.constant RX7 77 (-1000001), Cond.fieldLink RX7 11 "InningsHouse" "sheets" "[LInningsHouse$Sheet;", Cond.fieldLink RX7 89 "InningsHouse$Sheet" "missing" "Z", Cond.fieldLink RX7 97 "InningsHouse$Sheet" "items" "[I", Cond.methodLink RX7 69 yX7_isSheet, Cond.static yX7_isSheet, Cond.initialized RX7, Cond.code yX7_isSheet cX7_isSheet 1 (some .boolean), Cond.methodLink RX7 73 yX7_within, Cond.static yX7_within, Cond.code yX7_within cX7_within 3 (some .boolean), Cond.methodLink RX7 78 yX7_found, Cond.instanceMethod yX7_found, Cond.selects RX7 yX7_found yX7_found, Cond.code yX7_found cX7_found 2 (some .int), Cond.fieldLink RX7 66 "InningsHouse" "finding" "I", Cond.constant RX7 233 (-1000010), Cond.methodLink RX7 93 yX5_holds, Cond.instanceMethod yX5_holds, Cond.selects RX5 yX5_holds yX5_holds, Cond.initialized RX5, Cond.code yX5_holds cX5_holds 3 (some .boolean), Cond.fieldLink RX5 21 "InningsHouse$Sheet" "size" "I", Cond.methodLink RX7 101 yX5_cutToLane]
def wsX7_set_r2 : List Cond := [Cond.instanceMethod yX5_cutToLane, Cond.selects RX5 yX5_cutToLane yX5_cutToLane, Cond.code yX5_cutToLane cX5_cutToLane 2 (some .int), Cond.fieldLink RX5 17 "InningsHouse$Sheet" "lane" "I", Cond.methodLink RX7 86 yX7_fine, Cond.instanceMethod yX7_fine, Cond.selects RX7 yX7_fine yX7_fine, Cond.code yX7_fine cX7_fine 2 (some .int)]
def wsX7_set : List Cond := .code yX7_set cX7_set 5 (some .int) :: ((wsX7_set_r1 ++ wsX7_set_r2) ++ wsX70 ++ wsX50)
def wsX7_copy_r1 : List Cond := [Cond.constant RX7 77 (-1000001), Cond.fieldLink RX7 11 "InningsHouse" "sheets" "[LInningsHouse$Sheet;", Cond.fieldLink RX7 89 "InningsHouse$Sheet" "missing" "Z", Cond.fieldLink RX7 104 "InningsHouse$Sheet" "lane" "I", Cond.fieldLink RX7 97 "InningsHouse$Sheet" "items" "[I", Cond.methodLink RX7 107 arraycopyName, Cond.native arraycopyName, Cond.static arraycopyName, Cond.initialized "java/lang/System", Cond.methodLink RX7 69 yX7_isSheet, Cond.static yX7_isSheet, Cond.initialized RX7, Cond.code yX7_isSheet cX7_isSheet 1 (some .boolean), Cond.methodLink RX7 73 yX7_within, Cond.static yX7_within, Cond.code yX7_within cX7_within 3 (some .boolean), Cond.methodLink RX7 78 yX7_found, Cond.instanceMethod yX7_found, Cond.selects RX7 yX7_found yX7_found, Cond.code yX7_found cX7_found 2 (some .int), Cond.fieldLink RX7 66 "InningsHouse" "finding" "I", Cond.constant RX7 233 (-1000010), Cond.methodLink RX7 93 yX5_holds, Cond.instanceMethod yX5_holds]
def wsX7_copy_r2 : List Cond := [Cond.selects RX5 yX5_holds yX5_holds, Cond.initialized RX5, Cond.code yX5_holds cX5_holds 3 (some .boolean), Cond.fieldLink RX5 21 "InningsHouse$Sheet" "size" "I", Cond.methodLink RX7 86 yX7_fine, Cond.instanceMethod yX7_fine, Cond.selects RX7 yX7_fine yX7_fine, Cond.code yX7_fine cX7_fine 2 (some .int)]
def wsX7_copy : List Cond := .code yX7_copy cX7_copy 8 (some .int) :: ((wsX7_copy_r1 ++ wsX7_copy_r2) ++ wsX70 ++ wsX50)
def wsX7_drop : List Cond := .code yX7_drop cX7_drop 3 (some .int) :: ([.constant RX7 77 (-1000001), .fieldLink RX7 11 "InningsHouse" "sheets" "[LInningsHouse$Sheet;", .fieldLink RX7 89 "InningsHouse$Sheet" "missing" "Z", .fieldLink RX7 113 "InningsHouse$Sheet" "size" "I", .methodLink RX7 69 yX7_isSheet, .static yX7_isSheet, .initialized RX7, .code yX7_isSheet cX7_isSheet 1 (some .boolean), .methodLink RX7 73 yX7_within, .static yX7_within, .code yX7_within cX7_within 3 (some .boolean), .methodLink RX7 78 yX7_found, .instanceMethod yX7_found, .selects RX7 yX7_found yX7_found, .code yX7_found cX7_found 2 (some .int), .fieldLink RX7 66 "InningsHouse" "finding" "I", .constant RX7 233 (-1000010), .methodLink RX7 86 yX7_fine, .instanceMethod yX7_fine, .selects RX7 yX7_fine yX7_fine, .code yX7_fine cX7_fine 2 (some .int)] ++ wsX70 ++ wsX50)
def wsX7_behind : List Cond := .code yX7_behind cX7_behind 4 (some .int) :: ([.constant RX7 77 (-1000001), .fieldLink RX7 30 "InningsHouse" "bases" "LInningsHouse$Bases;", .methodLink RX7 73 yX7_within, .static yX7_within, .initialized RX7, .code yX7_within cX7_within 3 (some .boolean), .methodLink RX7 116 yX1_standingAfter, .instanceMethod yX1_standingAfter, .selects RX1 yX1_standingAfter yX1_standingAfter, .initialized RX1, .code yX1_standingAfter cX1_standingAfter 3 (some .int), .fieldLink RX1 9 "InningsHouse$Bases" "standings" "[I", .methodLink RX7 120 yX1_runsOf, .instanceMethod yX1_runsOf, .selects RX1 yX1_runsOf yX1_runsOf, .code yX1_runsOf cX1_runsOf 3 (some .int), .fieldLink RX1 15 "InningsHouse$Bases" "runs" "[I"] ++ wsX70 ++ wsX10)
def wsX7_isChance : List Cond := .code yX7_isChance cX7_isChance 1 (some .boolean) :: ([.methodLink RX7 73 yX7_within, .static yX7_within, .initialized RX7, .code yX7_within cX7_within 3 (some .boolean)])
def wsX7_admitted : List Cond := .code yX7_admitted cX7_admitted 2 (some .int) :: ([.fieldLink RX7 23 "InningsHouse" "strikerCount" "I"] ++ wsX70)
def wsX7_striker : List Cond := .code yX7_striker cX7_striker 8 (some .int) :: ([.constant RX7 77 (-1000001), .fieldLink RX7 23 "InningsHouse" "strikerCount" "I", .constant RX7 126 (-1000003), .fieldLink RX7 18 "InningsHouse" "strikers" "[LInningsHouse$Striker;", .fieldLink RX7 127 "InningsHouse$Striker" "chances" "[I", .fieldLink RX7 133 "InningsHouse$Striker" "steals" "I", .methodLink RX7 123 yX7_isChance, .static yX7_isChance, .initialized RX7, .code yX7_isChance cX7_isChance 1 (some .boolean), .methodLink RX7 73 yX7_within, .static yX7_within, .code yX7_within cX7_within 3 (some .boolean), .methodLink RX7 130 yX6_giveTheRestToOut, .instanceMethod yX6_giveTheRestToOut, .selects RX6 yX6_giveTheRestToOut yX6_giveTheRestToOut, .initialized RX6, .code yX6_giveTheRestToOut cX6_giveTheRestToOut 3 none, .fieldLink RX6 9 "InningsHouse$Striker" "chances" "[I", .methodLink RX7 136 yX7_admitted, .instanceMethod yX7_admitted, .selects RX7 yX7_admitted yX7_admitted, .code yX7_admitted cX7_admitted 2 (some .int)] ++ wsX70 ++ wsX60)
def wsX7_isStriker : List Cond := .code yX7_isStriker cX7_isStriker 2 (some .boolean) :: ([.fieldLink RX7 23 "InningsHouse" "strikerCount" "I", .methodLink RX7 73 yX7_within, .static yX7_within, .initialized RX7, .code yX7_within cX7_within 3 (some .boolean)] ++ wsX70)
def wsX7_train_r1 : List Cond := [Cond.constant RX7 77 (-1000001), Cond.fieldLink RX7 18 "InningsHouse" "strikers" "[LInningsHouse$Striker;", Cond.fieldLink RX7 133 "InningsHouse$Striker" "steals" "I", Cond.fieldLink RX7 127 "InningsHouse$Striker" "chances" "[I", Cond.constant RX7 146 (-1000002), Cond.fieldLink RX7 46 "InningsHouse" "match" "LInningsHouse$Match;", Cond.methodLink RX7 140 yX7_isStriker, Cond.instanceMethod yX7_isStriker, Cond.selects RX7 yX7_isStriker yX7_isStriker, Cond.initialized RX7, Cond.code yX7_isStriker cX7_isStriker 2 (some .boolean), Cond.fieldLink RX7 23 "InningsHouse" "strikerCount" "I", Cond.methodLink RX7 73 yX7_within, Cond.static yX7_within, Cond.code yX7_within cX7_within 3 (some .boolean), Cond.methodLink RX7 123 yX7_isChance, Cond.static yX7_isChance, Cond.code yX7_isChance cX7_isChance 1 (some .boolean), Cond.methodLink RX7 143 yX6_chanceOrSteals, Cond.instanceMethod yX6_chanceOrSteals, Cond.selects RX6 yX6_chanceOrSteals yX6_chanceOrSteals, Cond.initialized RX6, Cond.code yX6_chanceOrSteals cX6_chanceOrSteals 2 (some .int), Cond.fieldLink RX6 15 "InningsHouse$Striker" "steals" "I"]
def wsX7_train_r2 : List Cond := [Cond.fieldLink RX6 9 "InningsHouse$Striker" "chances" "[I", Cond.methodLink RX7 130 yX6_giveTheRestToOut, Cond.instanceMethod yX6_giveTheRestToOut, Cond.selects RX6 yX6_giveTheRestToOut yX6_giveTheRestToOut, Cond.code yX6_giveTheRestToOut cX6_giveTheRestToOut 3 none, Cond.methodLink RX7 147 yX4_forget, Cond.instanceMethod yX4_forget, Cond.selects RX4 yX4_forget yX4_forget, Cond.initialized RX4, Cond.code yX4_forget cX4_forget 1 none, Cond.fieldLink RX4 35 "InningsHouse$Match" "knownHalves" "I"]
def wsX7_train : List Cond := .code yX7_train cX7_train 6 (some .int) :: ((wsX7_train_r1 ++ wsX7_train_r2) ++ wsX70 ++ wsX60 ++ wsX40)
def wsX7_chance : List Cond := .code yX7_chance cX7_chance 3 (some .int) :: ([.constant RX7 77 (-1000001), .fieldLink RX7 18 "InningsHouse" "strikers" "[LInningsHouse$Striker;", .methodLink RX7 140 yX7_isStriker, .instanceMethod yX7_isStriker, .selects RX7 yX7_isStriker yX7_isStriker, .initialized RX7, .code yX7_isStriker cX7_isStriker 2 (some .boolean), .fieldLink RX7 23 "InningsHouse" "strikerCount" "I", .methodLink RX7 73 yX7_within, .static yX7_within, .code yX7_within cX7_within 3 (some .boolean), .methodLink RX7 143 yX6_chanceOrSteals, .instanceMethod yX6_chanceOrSteals, .selects RX6 yX6_chanceOrSteals yX6_chanceOrSteals, .initialized RX6, .code yX6_chanceOrSteals cX6_chanceOrSteals 2 (some .int), .fieldLink RX6 15 "InningsHouse$Striker" "steals" "I", .fieldLink RX6 9 "InningsHouse$Striker" "chances" "[I"] ++ wsX70 ++ wsX60)
def wsX7_order_r1 : List Cond := [Cond.constant RX7 77 (-1000001), Cond.fieldLink RX7 11 "InningsHouse" "sheets" "[LInningsHouse$Sheet;", Cond.fieldLink RX7 89 "InningsHouse$Sheet" "missing" "Z", Cond.fieldLink RX7 97 "InningsHouse$Sheet" "items" "[I", Cond.fieldLink RX7 39 "InningsHouse" "lineup" "LInningsHouse$Lineup;", Cond.methodLink RX7 69 yX7_isSheet, Cond.static yX7_isSheet, Cond.initialized RX7, Cond.code yX7_isSheet cX7_isSheet 1 (some .boolean), Cond.methodLink RX7 73 yX7_within, Cond.static yX7_within, Cond.code yX7_within cX7_within 3 (some .boolean), Cond.methodLink RX7 78 yX7_found, Cond.instanceMethod yX7_found, Cond.selects RX7 yX7_found yX7_found, Cond.code yX7_found cX7_found 2 (some .int), Cond.fieldLink RX7 66 "InningsHouse" "finding" "I", Cond.constant RX7 233 (-1000010), Cond.methodLink RX7 93 yX5_holds, Cond.instanceMethod yX5_holds, Cond.selects RX5 yX5_holds yX5_holds, Cond.initialized RX5, Cond.code yX5_holds cX5_holds 3 (some .boolean), Cond.fieldLink RX5 21 "InningsHouse$Sheet" "size" "I"]
def wsX7_order_r2 : List Cond := [Cond.methodLink RX7 140 yX7_isStriker, Cond.instanceMethod yX7_isStriker, Cond.selects RX7 yX7_isStriker yX7_isStriker, Cond.code yX7_isStriker cX7_isStriker 2 (some .boolean), Cond.fieldLink RX7 23 "InningsHouse" "strikerCount" "I", Cond.methodLink RX7 150 yX2_take, Cond.instanceMethod yX2_take, Cond.selects RX2 yX2_take yX2_take, Cond.initialized RX2, Cond.code yX2_take cX2_take 4 none, Cond.fieldLink RX2 9 "InningsHouse$Lineup" "row" "[I", Cond.methodLink RX2 39 arraycopyName, Cond.native arraycopyName, Cond.static arraycopyName, Cond.initialized "java/lang/System", Cond.fieldLink RX2 45 "InningsHouse$Lineup" "places" "I", Cond.methodLink RX7 86 yX7_fine, Cond.instanceMethod yX7_fine, Cond.selects RX7 yX7_fine yX7_fine, Cond.code yX7_fine cX7_fine 2 (some .int)]
def wsX7_order : List Cond := .code yX7_order cX7_order 6 (some .int) :: ((wsX7_order_r1 ++ wsX7_order_r2) ++ wsX70 ++ wsX50 ++ wsX20)
def wsX7_isPlace : List Cond := .code yX7_isPlace cX7_isPlace 2 (some .boolean) :: ([.fieldLink RX7 39 "InningsHouse" "lineup" "LInningsHouse$Lineup;", .fieldLink RX7 155 "InningsHouse$Lineup" "places" "I", .methodLink RX7 73 yX7_within, .static yX7_within, .initialized RX7, .code yX7_within cX7_within 3 (some .boolean)] ++ wsX70 ++ wsX20)
def wsX7_striking : List Cond := .code yX7_striking cX7_striking 2 (some .int) :: ([.constant RX7 154 (-1000000), .fieldLink RX7 39 "InningsHouse" "lineup" "LInningsHouse$Lineup;", .fieldLink RX7 155 "InningsHouse$Lineup" "places" "I", .fieldLink RX7 161 "InningsHouse$Lineup" "row" "[I", .constant RX7 77 (-1000001), .methodLink RX7 158 yX7_isPlace, .instanceMethod yX7_isPlace, .selects RX7 yX7_isPlace yX7_isPlace, .initialized RX7, .code yX7_isPlace cX7_isPlace 2 (some .boolean), .methodLink RX7 73 yX7_within, .static yX7_within, .code yX7_within cX7_within 3 (some .boolean)] ++ wsX70 ++ wsX20)
def wsX7_mean_r1 : List Cond := [Cond.constant RX7 77 (-1000001), Cond.fieldLink RX7 39 "InningsHouse" "lineup" "LInningsHouse$Lineup;", Cond.methodLink RX7 73 yX7_within, Cond.static yX7_within, Cond.initialized RX7, Cond.code yX7_within cX7_within 3 (some .boolean), Cond.methodLink RX7 158 yX7_isPlace, Cond.instanceMethod yX7_isPlace, Cond.selects RX7 yX7_isPlace yX7_isPlace, Cond.code yX7_isPlace cX7_isPlace 2 (some .boolean), Cond.fieldLink RX7 155 "InningsHouse$Lineup" "places" "I", Cond.methodLink RX7 164 yX2_meanFrom, Cond.instanceMethod yX2_meanFrom, Cond.selects RX2 yX2_meanFrom yX2_meanFrom, Cond.initialized RX2, Cond.code yX2_meanFrom cX2_meanFrom 4 (some .int), Cond.fieldLink RX2 18 "InningsHouse$Lineup" "means" "[J", Cond.methodLink RX2 49 yX2_fillMeans, Cond.instanceMethod yX2_fillMeans, Cond.selects RX2 yX2_fillMeans yX2_fillMeans, Cond.code yX2_fillMeans cX2_fillMeans 5 none, Cond.fieldLink RX2 22 "InningsHouse$Lineup" "meansBehind" "[J", Cond.methodLink RX2 68 yJ7_fill_d0a16, Cond.static yJ7_fill_d0a16]
def wsX7_mean_r2 : List Cond := [Cond.initialized RJ7, Cond.code yJ7_fill_d0a16 cJ7_fill_d0a16 5 none, Cond.methodLink RX2 74 yX2_chancesAt, Cond.instanceMethod yX2_chancesAt, Cond.selects RX2 yX2_chancesAt yX2_chancesAt, Cond.code yX2_chancesAt cX2_chancesAt 2 (some (.array .int)), Cond.fieldLink RX2 35 "InningsHouse$Lineup" "strikers" "[LInningsHouse$Striker;", Cond.fieldLink RX2 9 "InningsHouse$Lineup" "row" "[I", Cond.fieldLink RX2 45 "InningsHouse$Lineup" "places" "I", Cond.fieldLink RX2 90 "InningsHouse$Striker" "chances" "[I", Cond.methodLink RX2 78 yX2_fillMeansOf, Cond.instanceMethod yX2_fillMeansOf, Cond.selects RX2 yX2_fillMeansOf yX2_fillMeansOf, Cond.code yX2_fillMeansOf cX2_fillMeansOf 11 none, Cond.fieldLink RX2 31 "InningsHouse$Lineup" "bases" "LInningsHouse$Bases;", Cond.fieldLink RX2 82 "InningsHouse$Bases" "standings" "[I", Cond.fieldLink RX2 85 "InningsHouse$Bases" "runs" "[I", Cond.constantLong RX2 62 (1000000), Cond.constantLong RX2 88 (1000)]
def wsX7_mean : List Cond := .code yX7_mean cX7_mean 4 (some .int) :: ((wsX7_mean_r1 ++ wsX7_mean_r2) ++ wsX70 ++ wsX20 ++ wsX60 ++ wsX10)
def wsX7_likely_r1 : List Cond := [Cond.constant RX7 77 (-1000001), Cond.fieldLink RX7 39 "InningsHouse" "lineup" "LInningsHouse$Lineup;", Cond.methodLink RX7 73 yX7_within, Cond.static yX7_within, Cond.initialized RX7, Cond.code yX7_within cX7_within 3 (some .boolean), Cond.methodLink RX7 158 yX7_isPlace, Cond.instanceMethod yX7_isPlace, Cond.selects RX7 yX7_isPlace yX7_isPlace, Cond.code yX7_isPlace cX7_isPlace 2 (some .boolean), Cond.fieldLink RX7 155 "InningsHouse$Lineup" "places" "I", Cond.methodLink RX7 168 yX2_likelyFrom, Cond.instanceMethod yX2_likelyFrom, Cond.selects RX2 yX2_likelyFrom yX2_likelyFrom, Cond.initialized RX2, Cond.code yX2_likelyFrom cX2_likelyFrom 8 (some .int), Cond.constant RX2 95 (1000000), Cond.fieldLink RX2 25 "InningsHouse$Lineup" "likelies" "[I", Cond.fieldLink RX2 28 "InningsHouse$Lineup" "likeliesBehind" "[I", Cond.methodLink RX2 96 yX2_beginLikelies, Cond.static yX2_beginLikelies, Cond.code yX2_beginLikelies cX2_beginLikelies 2 none, Cond.methodLink RX2 103 yJ7_fill_53178, Cond.static yJ7_fill_53178]
def wsX7_likely_r2 : List Cond := [Cond.initialized RJ7, Cond.code yJ7_fill_53178 cJ7_fill_53178 4 none, Cond.methodLink RX2 74 yX2_chancesAt, Cond.instanceMethod yX2_chancesAt, Cond.selects RX2 yX2_chancesAt yX2_chancesAt, Cond.code yX2_chancesAt cX2_chancesAt 2 (some (.array .int)), Cond.fieldLink RX2 35 "InningsHouse$Lineup" "strikers" "[LInningsHouse$Striker;", Cond.fieldLink RX2 9 "InningsHouse$Lineup" "row" "[I", Cond.fieldLink RX2 45 "InningsHouse$Lineup" "places" "I", Cond.fieldLink RX2 90 "InningsHouse$Striker" "chances" "[I", Cond.methodLink RX2 99 yX2_fillLikeliesOf, Cond.instanceMethod yX2_fillLikeliesOf, Cond.selects RX2 yX2_fillLikeliesOf yX2_fillLikeliesOf, Cond.code yX2_fillLikeliesOf cX2_fillLikeliesOf 11 none, Cond.fieldLink RX2 31 "InningsHouse$Lineup" "bases" "LInningsHouse$Bases;", Cond.constantLong RX2 88 (1000), Cond.methodLink RX2 59 yX1_runsOf, Cond.instanceMethod yX1_runsOf, Cond.selects RX1 yX1_runsOf yX1_runsOf, Cond.initialized RX1, Cond.code yX1_runsOf cX1_runsOf 3 (some .int), Cond.fieldLink RX1 15 "InningsHouse$Bases" "runs" "[I", Cond.methodLink RX2 53 yX1_standingAfter, Cond.instanceMethod yX1_standingAfter]
def wsX7_likely_r3 : List Cond := [Cond.selects RX1 yX1_standingAfter yX1_standingAfter, Cond.code yX1_standingAfter cX1_standingAfter 3 (some .int), Cond.fieldLink RX1 9 "InningsHouse$Bases" "standings" "[I"]
def wsX7_likely : List Cond := .code yX7_likely cX7_likely 5 (some .int) :: ((wsX7_likely_r1 ++ (wsX7_likely_r2 ++ wsX7_likely_r3)) ++ wsX70 ++ wsX20 ++ wsX60 ++ wsX10)
def wsX7_worth_r1 : List Cond := [Cond.constant RX7 77 (-1000001), Cond.fieldLink RX7 39 "InningsHouse" "lineup" "LInningsHouse$Lineup;", Cond.methodLink RX7 73 yX7_within, Cond.static yX7_within, Cond.initialized RX7, Cond.code yX7_within cX7_within 3 (some .boolean), Cond.methodLink RX7 158 yX7_isPlace, Cond.instanceMethod yX7_isPlace, Cond.selects RX7 yX7_isPlace yX7_isPlace, Cond.code yX7_isPlace cX7_isPlace 2 (some .boolean), Cond.fieldLink RX7 155 "InningsHouse$Lineup" "places" "I", Cond.methodLink RX7 172 yX2_worthOf, Cond.instanceMethod yX2_worthOf, Cond.selects RX2 yX2_worthOf yX2_worthOf, Cond.initialized RX2, Cond.code yX2_worthOf cX2_worthOf 7 (some .int), Cond.fieldLink RX2 22 "InningsHouse$Lineup" "meansBehind" "[J", Cond.fieldLink RX2 31 "InningsHouse$Lineup" "bases" "LInningsHouse$Bases;", Cond.constantLong RX2 62 (1000000), Cond.fieldLink RX2 18 "InningsHouse$Lineup" "means" "[J", Cond.methodLink RX2 49 yX2_fillMeans, Cond.instanceMethod yX2_fillMeans, Cond.selects RX2 yX2_fillMeans yX2_fillMeans, Cond.code yX2_fillMeans cX2_fillMeans 5 none]
def wsX7_worth_r2 : List Cond := [Cond.methodLink RX2 68 yJ7_fill_d0a16, Cond.static yJ7_fill_d0a16, Cond.initialized RJ7, Cond.code yJ7_fill_d0a16 cJ7_fill_d0a16 5 none, Cond.methodLink RX2 74 yX2_chancesAt, Cond.instanceMethod yX2_chancesAt, Cond.selects RX2 yX2_chancesAt yX2_chancesAt, Cond.code yX2_chancesAt cX2_chancesAt 2 (some (.array .int)), Cond.fieldLink RX2 35 "InningsHouse$Lineup" "strikers" "[LInningsHouse$Striker;", Cond.fieldLink RX2 9 "InningsHouse$Lineup" "row" "[I", Cond.fieldLink RX2 45 "InningsHouse$Lineup" "places" "I", Cond.fieldLink RX2 90 "InningsHouse$Striker" "chances" "[I", Cond.methodLink RX2 78 yX2_fillMeansOf, Cond.instanceMethod yX2_fillMeansOf, Cond.selects RX2 yX2_fillMeansOf yX2_fillMeansOf, Cond.code yX2_fillMeansOf cX2_fillMeansOf 11 none, Cond.fieldLink RX2 82 "InningsHouse$Bases" "standings" "[I", Cond.fieldLink RX2 85 "InningsHouse$Bases" "runs" "[I", Cond.constantLong RX2 88 (1000), Cond.methodLink RX2 53 yX1_standingAfter, Cond.instanceMethod yX1_standingAfter, Cond.selects RX1 yX1_standingAfter yX1_standingAfter, Cond.initialized RX1, Cond.code yX1_standingAfter cX1_standingAfter 3 (some .int)]
def wsX7_worth_r3 : List Cond := [Cond.fieldLink RX1 9 "InningsHouse$Bases" "standings" "[I", Cond.methodLink RX2 59 yX1_runsOf, Cond.instanceMethod yX1_runsOf, Cond.selects RX1 yX1_runsOf yX1_runsOf, Cond.code yX1_runsOf cX1_runsOf 3 (some .int), Cond.fieldLink RX1 15 "InningsHouse$Bases" "runs" "[I"]
def wsX7_worth : List Cond := .code yX7_worth cX7_worth 5 (some .int) :: ((wsX7_worth_r1 ++ (wsX7_worth_r2 ++ wsX7_worth_r3)) ++ wsX70 ++ wsX20 ++ wsX60 ++ wsX10)
def wsX7_rate_r1 : List Cond := [Cond.fieldLink RX7 39 "InningsHouse" "lineup" "LInningsHouse$Lineup;", Cond.fieldLink RX7 155 "InningsHouse$Lineup" "places" "I", Cond.constant RX7 146 (-1000002), Cond.methodLink RX7 175 yX2_rateNow, Cond.instanceMethod yX2_rateNow, Cond.selects RX2 yX2_rateNow yX2_rateNow, Cond.initialized RX2, Cond.code yX2_rateNow cX2_rateNow 1 (some .int), Cond.fieldLink RX2 45 "InningsHouse$Lineup" "places" "I", Cond.methodLink RX2 64 yX2_meanFrom, Cond.instanceMethod yX2_meanFrom, Cond.selects RX2 yX2_meanFrom yX2_meanFrom, Cond.code yX2_meanFrom cX2_meanFrom 4 (some .int), Cond.fieldLink RX2 18 "InningsHouse$Lineup" "means" "[J", Cond.methodLink RX2 49 yX2_fillMeans, Cond.instanceMethod yX2_fillMeans, Cond.selects RX2 yX2_fillMeans yX2_fillMeans, Cond.code yX2_fillMeans cX2_fillMeans 5 none, Cond.fieldLink RX2 22 "InningsHouse$Lineup" "meansBehind" "[J", Cond.methodLink RX2 68 yJ7_fill_d0a16, Cond.static yJ7_fill_d0a16, Cond.initialized RJ7, Cond.code yJ7_fill_d0a16 cJ7_fill_d0a16 5 none, Cond.methodLink RX2 74 yX2_chancesAt]
def wsX7_rate_r2 : List Cond := [Cond.instanceMethod yX2_chancesAt, Cond.selects RX2 yX2_chancesAt yX2_chancesAt, Cond.code yX2_chancesAt cX2_chancesAt 2 (some (.array .int)), Cond.fieldLink RX2 35 "InningsHouse$Lineup" "strikers" "[LInningsHouse$Striker;", Cond.fieldLink RX2 9 "InningsHouse$Lineup" "row" "[I", Cond.fieldLink RX2 90 "InningsHouse$Striker" "chances" "[I", Cond.methodLink RX2 78 yX2_fillMeansOf, Cond.instanceMethod yX2_fillMeansOf, Cond.selects RX2 yX2_fillMeansOf yX2_fillMeansOf, Cond.code yX2_fillMeansOf cX2_fillMeansOf 11 none, Cond.fieldLink RX2 31 "InningsHouse$Lineup" "bases" "LInningsHouse$Bases;", Cond.fieldLink RX2 82 "InningsHouse$Bases" "standings" "[I", Cond.fieldLink RX2 85 "InningsHouse$Bases" "runs" "[I", Cond.constantLong RX2 62 (1000000), Cond.constantLong RX2 88 (1000)]
def wsX7_rate : List Cond := .code yX7_rate cX7_rate 1 (some .int) :: ((wsX7_rate_r1 ++ wsX7_rate_r2) ++ wsX70 ++ wsX20 ++ wsX60 ++ wsX10)
def wsX7_swapped_r1 : List Cond := [Cond.fieldLink RX7 39 "InningsHouse" "lineup" "LInningsHouse$Lineup;", Cond.fieldLink RX7 155 "InningsHouse$Lineup" "places" "I", Cond.constant RX7 146 (-1000002), Cond.methodLink RX7 178 yX2_exchangeWhileBetter, Cond.instanceMethod yX2_exchangeWhileBetter, Cond.selects RX2 yX2_exchangeWhileBetter yX2_exchangeWhileBetter, Cond.initialized RX2, Cond.code yX2_exchangeWhileBetter cX2_exchangeWhileBetter 2 (some .int), Cond.methodLink RX2 106 yX2_exchangeFirstBetter, Cond.instanceMethod yX2_exchangeFirstBetter, Cond.selects RX2 yX2_exchangeFirstBetter yX2_exchangeFirstBetter, Cond.code yX2_exchangeFirstBetter cX2_exchangeFirstBetter 4 (some .boolean), Cond.fieldLink RX2 45 "InningsHouse$Lineup" "places" "I", Cond.fieldLink RX2 9 "InningsHouse$Lineup" "row" "[I", Cond.methodLink RX2 110 yX2_rateNow, Cond.instanceMethod yX2_rateNow, Cond.selects RX2 yX2_rateNow yX2_rateNow, Cond.code yX2_rateNow cX2_rateNow 1 (some .int), Cond.methodLink RX2 64 yX2_meanFrom, Cond.instanceMethod yX2_meanFrom, Cond.selects RX2 yX2_meanFrom yX2_meanFrom, Cond.code yX2_meanFrom cX2_meanFrom 4 (some .int), Cond.fieldLink RX2 18 "InningsHouse$Lineup" "means" "[J", Cond.methodLink RX2 49 yX2_fillMeans]
def wsX7_swapped_r2 : List Cond := [Cond.instanceMethod yX2_fillMeans, Cond.selects RX2 yX2_fillMeans yX2_fillMeans, Cond.code yX2_fillMeans cX2_fillMeans 5 none, Cond.fieldLink RX2 22 "InningsHouse$Lineup" "meansBehind" "[J", Cond.methodLink RX2 68 yJ7_fill_d0a16, Cond.static yJ7_fill_d0a16, Cond.initialized RJ7, Cond.code yJ7_fill_d0a16 cJ7_fill_d0a16 5 none, Cond.methodLink RX2 74 yX2_chancesAt, Cond.instanceMethod yX2_chancesAt, Cond.selects RX2 yX2_chancesAt yX2_chancesAt, Cond.code yX2_chancesAt cX2_chancesAt 2 (some (.array .int)), Cond.fieldLink RX2 35 "InningsHouse$Lineup" "strikers" "[LInningsHouse$Striker;", Cond.fieldLink RX2 90 "InningsHouse$Striker" "chances" "[I", Cond.methodLink RX2 78 yX2_fillMeansOf, Cond.instanceMethod yX2_fillMeansOf, Cond.selects RX2 yX2_fillMeansOf yX2_fillMeansOf, Cond.code yX2_fillMeansOf cX2_fillMeansOf 11 none, Cond.fieldLink RX2 31 "InningsHouse$Lineup" "bases" "LInningsHouse$Bases;", Cond.fieldLink RX2 82 "InningsHouse$Bases" "standings" "[I", Cond.fieldLink RX2 85 "InningsHouse$Bases" "runs" "[I", Cond.constantLong RX2 62 (1000000), Cond.constantLong RX2 88 (1000), Cond.methodLink RX2 114 yX2_exchange]
def wsX7_swapped_r3 : List Cond := [Cond.instanceMethod yX2_exchange, Cond.selects RX2 yX2_exchange yX2_exchange, Cond.code yX2_exchange cX2_exchange 4 none]
def wsX7_swapped : List Cond := .code yX7_swapped cX7_swapped 1 (some .int) :: ((wsX7_swapped_r1 ++ (wsX7_swapped_r2 ++ wsX7_swapped_r3)) ++ wsX70 ++ wsX20 ++ wsX60 ++ wsX10)
def wsX7_best_r1 : List Cond := [Cond.fieldLink RX7 39 "InningsHouse" "lineup" "LInningsHouse$Lineup;", Cond.fieldLink RX7 155 "InningsHouse$Lineup" "places" "I", Cond.constant RX7 146 (-1000002), Cond.methodLink RX7 181 yX2_becomeBest, Cond.instanceMethod yX2_becomeBest, Cond.selects RX2 yX2_becomeBest yX2_becomeBest, Cond.initialized RX2, Cond.code yX2_becomeBest cX2_becomeBest 4 (some .int), Cond.fieldLink RX2 9 "InningsHouse$Lineup" "row" "[I", Cond.fieldLink RX2 15 "InningsHouse$Lineup" "kept" "[I", Cond.fieldLink RX2 45 "InningsHouse$Lineup" "places" "I", Cond.methodLink RX2 39 arraycopyName, Cond.native arraycopyName, Cond.static arraycopyName, Cond.initialized "java/lang/System", Cond.methodLink RX2 117 yX2_sortRow, Cond.instanceMethod yX2_sortRow, Cond.selects RX2 yX2_sortRow yX2_sortRow, Cond.code yX2_sortRow cX2_sortRow 3 none, Cond.methodLink RX2 114 yX2_exchange, Cond.instanceMethod yX2_exchange, Cond.selects RX2 yX2_exchange yX2_exchange, Cond.code yX2_exchange cX2_exchange 4 none, Cond.methodLink RX2 120 yX2_halvesWereMetExchanged]
def wsX7_best_r2 : List Cond := [Cond.instanceMethod yX2_halvesWereMetExchanged, Cond.selects RX2 yX2_halvesWereMetExchanged yX2_halvesWereMetExchanged, Cond.code yX2_halvesWereMetExchanged cX2_halvesWereMetExchanged 3 (some .boolean), Cond.methodLink RX2 110 yX2_rateNow, Cond.instanceMethod yX2_rateNow, Cond.selects RX2 yX2_rateNow yX2_rateNow, Cond.code yX2_rateNow cX2_rateNow 1 (some .int), Cond.methodLink RX2 64 yX2_meanFrom, Cond.instanceMethod yX2_meanFrom, Cond.selects RX2 yX2_meanFrom yX2_meanFrom, Cond.code yX2_meanFrom cX2_meanFrom 4 (some .int), Cond.fieldLink RX2 18 "InningsHouse$Lineup" "means" "[J", Cond.methodLink RX2 49 yX2_fillMeans, Cond.instanceMethod yX2_fillMeans, Cond.selects RX2 yX2_fillMeans yX2_fillMeans, Cond.code yX2_fillMeans cX2_fillMeans 5 none, Cond.fieldLink RX2 22 "InningsHouse$Lineup" "meansBehind" "[J", Cond.methodLink RX2 68 yJ7_fill_d0a16, Cond.static yJ7_fill_d0a16, Cond.initialized RJ7, Cond.code yJ7_fill_d0a16 cJ7_fill_d0a16 5 none, Cond.methodLink RX2 74 yX2_chancesAt, Cond.instanceMethod yX2_chancesAt, Cond.selects RX2 yX2_chancesAt yX2_chancesAt]
def wsX7_best_r3 : List Cond := [Cond.code yX2_chancesAt cX2_chancesAt 2 (some (.array .int)), Cond.fieldLink RX2 35 "InningsHouse$Lineup" "strikers" "[LInningsHouse$Striker;", Cond.fieldLink RX2 90 "InningsHouse$Striker" "chances" "[I", Cond.methodLink RX2 78 yX2_fillMeansOf, Cond.instanceMethod yX2_fillMeansOf, Cond.selects RX2 yX2_fillMeansOf yX2_fillMeansOf, Cond.code yX2_fillMeansOf cX2_fillMeansOf 11 none, Cond.fieldLink RX2 31 "InningsHouse$Lineup" "bases" "LInningsHouse$Bases;", Cond.fieldLink RX2 82 "InningsHouse$Bases" "standings" "[I", Cond.fieldLink RX2 85 "InningsHouse$Bases" "runs" "[I", Cond.constantLong RX2 62 (1000000), Cond.constantLong RX2 88 (1000), Cond.methodLink RX2 123 yX2_nextRow, Cond.instanceMethod yX2_nextRow, Cond.selects RX2 yX2_nextRow yX2_nextRow, Cond.code yX2_nextRow cX2_nextRow 5 (some .boolean)]
def wsX7_best : List Cond := .code yX7_best cX7_best 1 (some .int) :: ((wsX7_best_r1 ++ (wsX7_best_r2 ++ wsX7_best_r3)) ++ wsX70 ++ wsX20 ++ wsX60 ++ wsX10)
def wsX7_team : List Cond := .code yX7_team cX7_team 4 (some .int) :: ([.constant RX7 77 (-1000001), .fieldLink RX7 46 "InningsHouse" "match" "LInningsHouse$Match;", .fieldLink RX7 184 "InningsHouse$Match" "teams" "[I", .methodLink RX7 73 yX7_within, .static yX7_within, .initialized RX7, .code yX7_within cX7_within 3 (some .boolean), .methodLink RX7 140 yX7_isStriker, .instanceMethod yX7_isStriker, .selects RX7 yX7_isStriker yX7_isStriker, .code yX7_isStriker cX7_isStriker 2 (some .boolean), .fieldLink RX7 23 "InningsHouse" "strikerCount" "I", .methodLink RX7 147 yX4_forget, .instanceMethod yX4_forget, .selects RX4 yX4_forget yX4_forget, .initialized RX4, .code yX4_forget cX4_forget 1 none, .fieldLink RX4 35 "InningsHouse$Match" "knownHalves" "I"] ++ wsX70 ++ wsX40)
def wsX7_game_r1 : List Cond := [Cond.constant RX7 77 (-1000001), Cond.fieldLink RX7 46 "InningsHouse" "match" "LInningsHouse$Match;", Cond.constant RX7 146 (-1000002), Cond.methodLink RX7 73 yX7_within, Cond.static yX7_within, Cond.initialized RX7, Cond.code yX7_within cX7_within 3 (some .boolean), Cond.methodLink RX7 187 yX4_howManyTeams, Cond.instanceMethod yX4_howManyTeams, Cond.selects RX4 yX4_howManyTeams yX4_howManyTeams, Cond.initialized RX4, Cond.code yX4_howManyTeams cX4_howManyTeams 1 (some .int), Cond.fieldLink RX4 10 "InningsHouse$Match" "teams" "[I", Cond.constant RX4 9 (-1000000), Cond.methodLink RX7 190 yX4_told, Cond.instanceMethod yX4_told, Cond.selects RX4 yX4_told yX4_told, Cond.code yX4_told cX4_told 9 (some .int), Cond.methodLink RX4 39 Lib.Math.max.name, Cond.static Lib.Math.max.name, Cond.initialized "java/lang/Math", Cond.code Lib.Math.max.name Lib.Math.max.code 2 (some .int), Cond.fieldLink RX4 16 "InningsHouse$Match" "starts" "[I", Cond.fieldLink RX4 19 "InningsHouse$Match" "wins" "[I"]
def wsX7_game_r2 : List Cond := [Cond.methodLink RX4 45 yX4_learnStarts, Cond.instanceMethod yX4_learnStarts, Cond.selects RX4 yX4_learnStarts yX4_learnStarts, Cond.code yX4_learnStarts cX4_learnStarts 4 none, Cond.fieldLink RX4 35 "InningsHouse$Match" "knownHalves" "I", Cond.methodLink RX4 49 yX4_fillHalf, Cond.instanceMethod yX4_fillHalf, Cond.selects RX4 yX4_fillHalf yX4_fillHalf, Cond.code yX4_fillHalf cX4_fillHalf 7 none, Cond.fieldLink RX4 59 "InningsHouse$Match" "strikingTeam" "I", Cond.fieldLink RX4 22 "InningsHouse$Match" "winsBehind" "[I", Cond.methodLink RX4 62 yX4_beginHalf, Cond.instanceMethod yX4_beginHalf, Cond.selects RX4 yX4_beginHalf yX4_beginHalf, Cond.code yX4_beginHalf cX4_beginHalf 6 none, Cond.methodLink RX4 66 yX4_winByBest, Cond.instanceMethod yX4_winByBest, Cond.selects RX4 yX4_winByBest yX4_winByBest, Cond.code yX4_winByBest cX4_winByBest 4 (some .int), Cond.methodLink RX4 69 yX4_winByStrike, Cond.instanceMethod yX4_winByStrike, Cond.selects RX4 yX4_winByStrike yX4_winByStrike, Cond.code yX4_winByStrike cX4_winByStrike 6 (some .int), Cond.fieldLink RX4 29 "InningsHouse$Match" "strikers" "[LInningsHouse$Striker;"]
def wsX7_game_r3 : List Cond := [Cond.fieldLink RX4 94 "InningsHouse$Striker" "chances" "[I", Cond.methodLink RX4 78 yX4_winAfter, Cond.instanceMethod yX4_winAfter, Cond.selects RX4 yX4_winAfter yX4_winAfter, Cond.code yX4_winAfter cX4_winAfter 6 (some .int), Cond.fieldLink RX4 25 "InningsHouse$Match" "bases" "LInningsHouse$Bases;", Cond.fieldLink RX4 102 "InningsHouse$Bases" "runs" "[I", Cond.fieldLink RX4 105 "InningsHouse$Bases" "standings" "[I", Cond.methodLink RX4 72 yX1_someoneIsOn, Cond.static yX1_someoneIsOn, Cond.initialized RX1, Cond.code yX1_someoneIsOn cX1_someoneIsOn 1 (some .boolean), Cond.methodLink RX4 82 yX4_betterOf, Cond.instanceMethod yX4_betterOf, Cond.selects RX4 yX4_betterOf yX4_betterOf, Cond.code yX4_betterOf cX4_betterOf 3 (some .int), Cond.methodLink RX4 91 Lib.Math.min.name, Cond.static Lib.Math.min.name, Cond.code Lib.Math.min.name Lib.Math.min.code 2 (some .int), Cond.methodLink RX4 85 yX1_canSteal, Cond.static yX1_canSteal, Cond.code yX1_canSteal cX1_canSteal 1 (some .boolean), Cond.methodLink RX4 88 yX4_winBySteal, Cond.instanceMethod yX4_winBySteal]
def wsX7_game_r4 : List Cond := [Cond.selects RX4 yX4_winBySteal yX4_winBySteal, Cond.code yX4_winBySteal cX4_winBySteal 5 (some .int), Cond.fieldLink RX4 99 "InningsHouse$Striker" "steals" "I", Cond.methodLink RX4 53 yX4_choiceAt, Cond.instanceMethod yX4_choiceAt, Cond.selects RX4 yX4_choiceAt yX4_choiceAt, Cond.code yX4_choiceAt cX4_choiceAt 5 (some .int), Cond.methodLink RX4 56 yX4_walkIsBetter, Cond.instanceMethod yX4_walkIsBetter, Cond.selects RX4 yX4_walkIsBetter yX4_walkIsBetter, Cond.code yX4_walkIsBetter cX4_walkIsBetter 6 (some .int)]
def wsX7_game : List Cond := .code yX7_game cX7_game 6 (some .int) :: ((wsX7_game_r1 ++ (wsX7_game_r2 ++ (wsX7_game_r3 ++ wsX7_game_r4))) ++ wsX70 ++ wsX40 ++ wsX60 ++ wsX10)
def wsX7_findingOfLog : List Cond := .code yX7_findingOfLog cX7_findingOfLog 5 (some .int) :: ([.fieldLink RX7 11 "InningsHouse" "sheets" "[LInningsHouse$Sheet;", .fieldLink RX7 89 "InningsHouse$Sheet" "missing" "Z", .methodLink RX7 93 yX5_holds, .instanceMethod yX5_holds, .selects RX5 yX5_holds yX5_holds, .initialized RX5, .code yX5_holds cX5_holds 3 (some .boolean), .fieldLink RX5 21 "InningsHouse$Sheet" "size" "I"] ++ wsX70 ++ wsX50)
def wsX7_log_r1 : List Cond := [Cond.constant RX7 77 (-1000001), Cond.fieldLink RX7 55 "InningsHouse" "reader" "LInningsHouse$LogReader;", Cond.fieldLink RX7 11 "InningsHouse" "sheets" "[LInningsHouse$Sheet;", Cond.fieldLink RX7 97 "InningsHouse$Sheet" "items" "[I", Cond.methodLink RX7 69 yX7_isSheet, Cond.static yX7_isSheet, Cond.initialized RX7, Cond.code yX7_isSheet cX7_isSheet 1 (some .boolean), Cond.methodLink RX7 73 yX7_within, Cond.static yX7_within, Cond.code yX7_within cX7_within 3 (some .boolean), Cond.methodLink RX7 194 yX7_findingOfLog, Cond.instanceMethod yX7_findingOfLog, Cond.selects RX7 yX7_findingOfLog yX7_findingOfLog, Cond.code yX7_findingOfLog cX7_findingOfLog 5 (some .int), Cond.fieldLink RX7 89 "InningsHouse$Sheet" "missing" "Z", Cond.methodLink RX7 93 yX5_holds, Cond.instanceMethod yX5_holds, Cond.selects RX5 yX5_holds yX5_holds, Cond.initialized RX5, Cond.code yX5_holds cX5_holds 3 (some .boolean), Cond.fieldLink RX5 21 "InningsHouse$Sheet" "size" "I", Cond.methodLink RX7 78 yX7_found, Cond.instanceMethod yX7_found]
def wsX7_log_r2 : List Cond := [Cond.selects RX7 yX7_found yX7_found, Cond.code yX7_found cX7_found 2 (some .int), Cond.fieldLink RX7 66 "InningsHouse" "finding" "I", Cond.constant RX7 233 (-1000010), Cond.methodLink RX7 197 yX3_read, Cond.instanceMethod yX3_read, Cond.selects RX3 yX3_read yX3_read, Cond.initialized RX3, Cond.code yX3_read cX3_read 6 none, Cond.fieldLink RX3 9 "InningsHouse$LogReader" "times" "[I", Cond.constant RX3 25 (-1000000), Cond.fieldLink RX3 26 "InningsHouse$LogReader" "clash" "I", Cond.fieldLink RX3 30 "InningsHouse$LogReader" "runs" "I", Cond.fieldLink RX3 33 "InningsHouse$LogReader" "halves" "I", Cond.fieldLink RX3 36 "InningsHouse$LogReader" "standing" "I", Cond.methodLink RX3 19 yJ7_fill_53178, Cond.static yJ7_fill_53178, Cond.initialized RJ7, Cond.code yJ7_fill_53178 cJ7_fill_53178 4 none, Cond.methodLink RX3 39 yX3_fits, Cond.instanceMethod yX3_fits, Cond.selects RX3 yX3_fits yX3_fits, Cond.code yX3_fits cX3_fits 5 (some .boolean), Cond.fieldLink RX3 15 "InningsHouse$LogReader" "bases" "LInningsHouse$Bases;"]
def wsX7_log_r3 : List Cond := [Cond.methodLink RX3 46 yX1_standingAfter, Cond.instanceMethod yX1_standingAfter, Cond.selects RX1 yX1_standingAfter yX1_standingAfter, Cond.initialized RX1, Cond.code yX1_standingAfter cX1_standingAfter 3 (some .int), Cond.fieldLink RX1 9 "InningsHouse$Bases" "standings" "[I", Cond.methodLink RX3 52 yX1_runsOf, Cond.instanceMethod yX1_runsOf, Cond.selects RX1 yX1_runsOf yX1_runsOf, Cond.code yX1_runsOf cX1_runsOf 3 (some .int), Cond.fieldLink RX1 15 "InningsHouse$Bases" "runs" "[I", Cond.methodLink RX7 200 yX3_told, Cond.instanceMethod yX3_told, Cond.selects RX3 yX3_told yX3_told, Cond.code yX3_told cX3_told 2 (some .int), Cond.constant RX3 55 (-1000001), Cond.methodLink RX7 86 yX7_fine, Cond.instanceMethod yX7_fine, Cond.selects RX7 yX7_fine yX7_fine, Cond.code yX7_fine cX7_fine 2 (some .int)]
def wsX7_log : List Cond := .code yX7_log cX7_log 6 (some .int) :: ((wsX7_log_r1 ++ (wsX7_log_r2 ++ wsX7_log_r3)) ++ wsX70 ++ wsX50 ++ wsX30 ++ wsX10)
def wsX7_learn_r1 : List Cond := [Cond.constant RX7 77 (-1000001), Cond.fieldLink RX7 23 "InningsHouse" "strikerCount" "I", Cond.constant RX7 126 (-1000003), Cond.fieldLink RX7 55 "InningsHouse" "reader" "LInningsHouse$LogReader;", Cond.fieldLink RX7 11 "InningsHouse" "sheets" "[LInningsHouse$Sheet;", Cond.fieldLink RX7 97 "InningsHouse$Sheet" "items" "[I", Cond.constant RX7 146 (-1000002), Cond.fieldLink RX7 18 "InningsHouse" "strikers" "[LInningsHouse$Striker;", Cond.fieldLink RX7 127 "InningsHouse$Striker" "chances" "[I", Cond.fieldLink RX7 205 "InningsHouse$LogReader" "times" "[I", Cond.fieldLink RX7 133 "InningsHouse$Striker" "steals" "I", Cond.methodLink RX7 69 yX7_isSheet, Cond.static yX7_isSheet, Cond.initialized RX7, Cond.code yX7_isSheet cX7_isSheet 1 (some .boolean), Cond.methodLink RX7 73 yX7_within, Cond.static yX7_within, Cond.code yX7_within cX7_within 3 (some .boolean), Cond.methodLink RX7 123 yX7_isChance, Cond.static yX7_isChance, Cond.code yX7_isChance cX7_isChance 1 (some .boolean), Cond.methodLink RX7 194 yX7_findingOfLog, Cond.instanceMethod yX7_findingOfLog, Cond.selects RX7 yX7_findingOfLog yX7_findingOfLog]
def wsX7_learn_r2 : List Cond := [Cond.code yX7_findingOfLog cX7_findingOfLog 5 (some .int), Cond.fieldLink RX7 89 "InningsHouse$Sheet" "missing" "Z", Cond.methodLink RX7 93 yX5_holds, Cond.instanceMethod yX5_holds, Cond.selects RX5 yX5_holds yX5_holds, Cond.initialized RX5, Cond.code yX5_holds cX5_holds 3 (some .boolean), Cond.fieldLink RX5 21 "InningsHouse$Sheet" "size" "I", Cond.methodLink RX7 78 yX7_found, Cond.instanceMethod yX7_found, Cond.selects RX7 yX7_found yX7_found, Cond.code yX7_found cX7_found 2 (some .int), Cond.fieldLink RX7 66 "InningsHouse" "finding" "I", Cond.constant RX7 233 (-1000010), Cond.methodLink RX7 197 yX3_read, Cond.instanceMethod yX3_read, Cond.selects RX3 yX3_read yX3_read, Cond.initialized RX3, Cond.code yX3_read cX3_read 6 none, Cond.fieldLink RX3 9 "InningsHouse$LogReader" "times" "[I", Cond.constant RX3 25 (-1000000), Cond.fieldLink RX3 26 "InningsHouse$LogReader" "clash" "I", Cond.fieldLink RX3 30 "InningsHouse$LogReader" "runs" "I", Cond.fieldLink RX3 33 "InningsHouse$LogReader" "halves" "I"]
def wsX7_learn_r3 : List Cond := [Cond.fieldLink RX3 36 "InningsHouse$LogReader" "standing" "I", Cond.methodLink RX3 19 yJ7_fill_53178, Cond.static yJ7_fill_53178, Cond.initialized RJ7, Cond.code yJ7_fill_53178 cJ7_fill_53178 4 none, Cond.methodLink RX3 39 yX3_fits, Cond.instanceMethod yX3_fits, Cond.selects RX3 yX3_fits yX3_fits, Cond.code yX3_fits cX3_fits 5 (some .boolean), Cond.fieldLink RX3 15 "InningsHouse$LogReader" "bases" "LInningsHouse$Bases;", Cond.methodLink RX3 46 yX1_standingAfter, Cond.instanceMethod yX1_standingAfter, Cond.selects RX1 yX1_standingAfter yX1_standingAfter, Cond.initialized RX1, Cond.code yX1_standingAfter cX1_standingAfter 3 (some .int), Cond.fieldLink RX1 9 "InningsHouse$Bases" "standings" "[I", Cond.methodLink RX3 52 yX1_runsOf, Cond.instanceMethod yX1_runsOf, Cond.selects RX1 yX1_runsOf yX1_runsOf, Cond.code yX1_runsOf cX1_runsOf 3 (some .int), Cond.fieldLink RX1 15 "InningsHouse$Bases" "runs" "[I", Cond.methodLink RX7 202 yX3_howManyStrikes, Cond.instanceMethod yX3_howManyStrikes, Cond.selects RX3 yX3_howManyStrikes yX3_howManyStrikes]
def wsX7_learn_r4 : List Cond := [Cond.code yX3_howManyStrikes cX3_howManyStrikes 3 (some .int), Cond.methodLink RX7 130 yX6_giveTheRestToOut, Cond.instanceMethod yX6_giveTheRestToOut, Cond.selects RX6 yX6_giveTheRestToOut yX6_giveTheRestToOut, Cond.initialized RX6, Cond.code yX6_giveTheRestToOut cX6_giveTheRestToOut 3 none, Cond.fieldLink RX6 9 "InningsHouse$Striker" "chances" "[I", Cond.methodLink RX7 136 yX7_admitted, Cond.instanceMethod yX7_admitted, Cond.selects RX7 yX7_admitted yX7_admitted, Cond.code yX7_admitted cX7_admitted 2 (some .int), Cond.methodLink RX7 86 yX7_fine, Cond.instanceMethod yX7_fine, Cond.selects RX7 yX7_fine yX7_fine, Cond.code yX7_fine cX7_fine 2 (some .int)]
def wsX7_learn : List Cond := .code yX7_learn cX7_learn 9 (some .int) :: ((wsX7_learn_r1 ++ (wsX7_learn_r2 ++ (wsX7_learn_r3 ++ wsX7_learn_r4))) ++ wsX70 ++ wsX50 ++ wsX60 ++ wsX30 ++ wsX10)
def wsX7_kind : List Cond := .code yX7_kind cX7_kind 2 (some .int) :: ([.fieldLink RX7 18 "InningsHouse" "strikers" "[LInningsHouse$Striker;", .constant RX7 77 (-1000001), .methodLink RX7 140 yX7_isStriker, .instanceMethod yX7_isStriker, .selects RX7 yX7_isStriker yX7_isStriker, .initialized RX7, .code yX7_isStriker cX7_isStriker 2 (some .boolean), .fieldLink RX7 23 "InningsHouse" "strikerCount" "I", .methodLink RX7 73 yX7_within, .static yX7_within, .code yX7_within cX7_within 3 (some .boolean), .methodLink RX7 208 yX6_toldKind, .instanceMethod yX6_toldKind, .selects RX6 yX6_toldKind yX6_toldKind, .initialized RX6, .code yX6_toldKind cX6_toldKind 1 (some .int), .fieldLink RX6 9 "InningsHouse$Striker" "chances" "[I", .fieldLink RX6 15 "InningsHouse$Striker" "steals" "I"] ++ wsX70 ++ wsX60)
def wsX7_as_r1 : List Cond := [Cond.constant RX7 77 (-1000001), Cond.fieldLink RX7 18 "InningsHouse" "strikers" "[LInningsHouse$Striker;", Cond.fieldLink RX7 127 "InningsHouse$Striker" "chances" "[I", Cond.methodLink RX7 140 yX7_isStriker, Cond.instanceMethod yX7_isStriker, Cond.selects RX7 yX7_isStriker yX7_isStriker, Cond.initialized RX7, Cond.code yX7_isStriker cX7_isStriker 2 (some .boolean), Cond.fieldLink RX7 23 "InningsHouse" "strikerCount" "I", Cond.methodLink RX7 73 yX7_within, Cond.static yX7_within, Cond.code yX7_within cX7_within 3 (some .boolean), Cond.methodLink RX7 211 yX6_isOne, Cond.instanceMethod yX6_isOne, Cond.selects RX6 yX6_isOne yX6_isOne, Cond.initialized RX6, Cond.code yX6_isOne cX6_isOne 3 (some .boolean), Cond.methodLink RX6 19 yX6_toldKind, Cond.instanceMethod yX6_toldKind, Cond.selects RX6 yX6_toldKind yX6_toldKind, Cond.code yX6_toldKind cX6_toldKind 1 (some .int), Cond.fieldLink RX6 9 "InningsHouse$Striker" "chances" "[I", Cond.fieldLink RX6 15 "InningsHouse$Striker" "steals" "I", Cond.methodLink RX7 78 yX7_found]
def wsX7_as_r2 : List Cond := [Cond.instanceMethod yX7_found, Cond.selects RX7 yX7_found yX7_found, Cond.code yX7_found cX7_found 2 (some .int), Cond.fieldLink RX7 66 "InningsHouse" "finding" "I", Cond.constant RX7 233 (-1000010), Cond.methodLink RX7 86 yX7_fine, Cond.instanceMethod yX7_fine, Cond.selects RX7 yX7_fine yX7_fine, Cond.code yX7_fine cX7_fine 2 (some .int)]
def wsX7_as : List Cond := .code yX7_as cX7_as 3 (some .int) :: ((wsX7_as_r1 ++ wsX7_as_r2) ++ wsX70 ++ wsX60)
def wsX7_ask_r1 : List Cond := [Cond.constant RX7 77 (-1000001), Cond.fieldLink RX7 62 "InningsHouse" "asks" "LInningsHouse$Asks;", Cond.fieldLink RX7 214 "InningsHouse$Asks" "left" "I", Cond.fieldLink RX7 18 "InningsHouse" "strikers" "[LInningsHouse$Striker;", Cond.methodLink RX7 140 yX7_isStriker, Cond.instanceMethod yX7_isStriker, Cond.selects RX7 yX7_isStriker yX7_isStriker, Cond.initialized RX7, Cond.code yX7_isStriker cX7_isStriker 2 (some .boolean), Cond.fieldLink RX7 23 "InningsHouse" "strikerCount" "I", Cond.methodLink RX7 73 yX7_within, Cond.static yX7_within, Cond.code yX7_within cX7_within 3 (some .boolean), Cond.instanceMethod yX0_sizeOf, Cond.initialized RX0, Cond.selects RX0 yX0_sizeOf yX0_sizeOf, Cond.code yX0_sizeOf cX0_sizeOf 3 (some .int), Cond.methodLink RX0 15 yX6_toldKind, Cond.instanceMethod yX6_toldKind, Cond.selects RX6 yX6_toldKind yX6_toldKind, Cond.initialized RX6, Cond.code yX6_toldKind cX6_toldKind 1 (some .int), Cond.fieldLink RX6 9 "InningsHouse$Striker" "chances" "[I", Cond.fieldLink RX6 15 "InningsHouse$Striker" "steals" "I"]
def wsX7_ask_r2 : List Cond := [Cond.methodLink RX0 21 yX0_sizeOfStrong, Cond.instanceMethod yX0_sizeOfStrong, Cond.selects RX0 yX0_sizeOfStrong yX0_sizeOfStrong, Cond.code yX0_sizeOfStrong cX0_sizeOfStrong 2 (some .int), Cond.methodLink RX0 47 yX0_leave, Cond.instanceMethod yX0_leave, Cond.selects RX0 yX0_leave yX0_leave, Cond.code yX0_leave cX0_leave 2 none, Cond.fieldLink RX0 64 "InningsHouse$Asks" "left" "I", Cond.fieldLink RX0 11 "InningsHouse$Asks" "numbers" "[I", Cond.methodLink RX0 25 yX0_sizeOfSafe, Cond.instanceMethod yX0_sizeOfSafe, Cond.selects RX0 yX0_sizeOfSafe yX0_sizeOfSafe, Cond.code yX0_sizeOfSafe cX0_sizeOfSafe 2 (some .int), Cond.fieldLink RX0 55 "InningsHouse$Striker" "chances" "[I", Cond.methodLink RX0 32 yX0_sizeLent, Cond.instanceMethod yX0_sizeLent, Cond.selects RX0 yX0_sizeLent yX0_sizeLent, Cond.code yX0_sizeLent cX0_sizeLent 2 (some .int), Cond.fieldLink RX0 51 "InningsHouse$Striker" "steals" "I", Cond.methodLink RX0 28 yX0_sizeOfQuick, Cond.instanceMethod yX0_sizeOfQuick, Cond.selects RX0 yX0_sizeOfQuick yX0_sizeOfQuick, Cond.code yX0_markOf cX0_markOf 3 (some .int)]
def wsX7_ask_r3 : List Cond := [Cond.methodLink RX0 35 yX0_markOfStrong, Cond.instanceMethod yX0_markOfStrong, Cond.selects RX0 yX0_markOfStrong yX0_markOfStrong, Cond.methodLink RX0 38 yX0_markOfSafe, Cond.instanceMethod yX0_markOfSafe, Cond.selects RX0 yX0_markOfSafe yX0_markOfSafe, Cond.code yX0_markOfSafe cX0_markOfSafe 2 (some .int), Cond.methodLink RX0 44 yX0_markLent, Cond.instanceMethod yX0_markLent, Cond.selects RX0 yX0_markLent yX0_markLent, Cond.code yX0_markLent cX0_markLent 2 (some .int), Cond.methodLink RX0 41 yX0_markOfQuick, Cond.instanceMethod yX0_markOfQuick, Cond.selects RX0 yX0_markOfQuick yX0_markOfQuick, Cond.code yX0_markOfQuick cX0_markOfQuick 2 (some .int), Cond.code yX0_markOfStrong cX0_markOfStrong 4 (some .int), Cond.methodLink RX0 61 yX0_sizeOf, Cond.code yX0_sizeOfQuick cX0_sizeOfQuick 4 (some .int), Cond.methodLink RX0 58 yX0_markOf, Cond.instanceMethod yX0_markOf, Cond.selects RX0 yX0_markOf yX0_markOf]
def wsX7_ask : List Cond := .code yX7_ask cX7_ask 3 (some .int) :: ((wsX7_ask_r1 ++ (wsX7_ask_r2 ++ wsX7_ask_r3)) ++ wsX70 ++ wsX00 ++ wsX60)
def wsX7_trace : List Cond := .code yX7_trace cX7_trace 2 (some .int) :: ([.fieldLink RX7 62 "InningsHouse" "asks" "LInningsHouse$Asks;", .fieldLink RX7 214 "InningsHouse$Asks" "left" "I", .fieldLink RX7 224 "InningsHouse$Asks" "numbers" "[I", .constant RX7 154 (-1000000), .methodLink RX7 73 yX7_within, .static yX7_within, .initialized RX7, .code yX7_within cX7_within 3 (some .boolean)] ++ wsX70 ++ wsX00)
def wsX7_howManySheets : List Cond := .code yX7_howManySheets cX7_howManySheets 3 (some .int) :: ([.fieldLink RX7 11 "InningsHouse" "sheets" "[LInningsHouse$Sheet;", .fieldLink RX7 89 "InningsHouse$Sheet" "missing" "Z"] ++ wsX70 ++ wsX50)
def wsX7_howManyStrikers : List Cond := .code yX7_howManyStrikers cX7_howManyStrikers 4 (some .int) :: ([.fieldLink RX7 23 "InningsHouse" "strikerCount" "I", .fieldLink RX7 18 "InningsHouse" "strikers" "[LInningsHouse$Striker;", .methodLink RX7 211 yX6_isOne, .instanceMethod yX6_isOne, .selects RX6 yX6_isOne yX6_isOne, .initialized RX6, .code yX6_isOne cX6_isOne 3 (some .boolean), .methodLink RX6 19 yX6_toldKind, .instanceMethod yX6_toldKind, .selects RX6 yX6_toldKind yX6_toldKind, .code yX6_toldKind cX6_toldKind 1 (some .int), .fieldLink RX6 9 "InningsHouse$Striker" "chances" "[I", .fieldLink RX6 15 "InningsHouse$Striker" "steals" "I"] ++ wsX70 ++ wsX60)
def wsX7_count_r1 : List Cond := [Cond.fieldLink RX7 23 "InningsHouse" "strikerCount" "I", Cond.fieldLink RX7 39 "InningsHouse" "lineup" "LInningsHouse$Lineup;", Cond.fieldLink RX7 155 "InningsHouse$Lineup" "places" "I", Cond.fieldLink RX7 46 "InningsHouse" "match" "LInningsHouse$Match;", Cond.constant RX7 77 (-1000001), Cond.methodLink RX7 227 yX7_howManySheets, Cond.instanceMethod yX7_howManySheets, Cond.selects RX7 yX7_howManySheets yX7_howManySheets, Cond.initialized RX7, Cond.code yX7_howManySheets cX7_howManySheets 3 (some .int), Cond.fieldLink RX7 11 "InningsHouse" "sheets" "[LInningsHouse$Sheet;", Cond.fieldLink RX7 89 "InningsHouse$Sheet" "missing" "Z", Cond.methodLink RX7 230 yX7_howManyStrikers, Cond.instanceMethod yX7_howManyStrikers, Cond.selects RX7 yX7_howManyStrikers yX7_howManyStrikers, Cond.code yX7_howManyStrikers cX7_howManyStrikers 4 (some .int), Cond.fieldLink RX7 18 "InningsHouse" "strikers" "[LInningsHouse$Striker;", Cond.methodLink RX7 211 yX6_isOne, Cond.instanceMethod yX6_isOne, Cond.selects RX6 yX6_isOne yX6_isOne, Cond.initialized RX6, Cond.code yX6_isOne cX6_isOne 3 (some .boolean), Cond.methodLink RX6 19 yX6_toldKind, Cond.instanceMethod yX6_toldKind]
def wsX7_count_r2 : List Cond := [Cond.selects RX6 yX6_toldKind yX6_toldKind, Cond.code yX6_toldKind cX6_toldKind 1 (some .int), Cond.fieldLink RX6 9 "InningsHouse$Striker" "chances" "[I", Cond.fieldLink RX6 15 "InningsHouse$Striker" "steals" "I", Cond.methodLink RX7 187 yX4_howManyTeams, Cond.instanceMethod yX4_howManyTeams, Cond.selects RX4 yX4_howManyTeams yX4_howManyTeams, Cond.initialized RX4, Cond.code yX4_howManyTeams cX4_howManyTeams 1 (some .int), Cond.fieldLink RX4 10 "InningsHouse$Match" "teams" "[I", Cond.constant RX4 9 (-1000000)]
def wsX7_count : List Cond := .code yX7_count cX7_count 2 (some .int) :: ((wsX7_count_r1 ++ wsX7_count_r2) ++ wsX70 ++ wsX20 ++ wsX50 ++ wsX60 ++ wsX40)
def wsX7_status : List Cond := .code yX7_status cX7_status 1 (some .int) :: ([.fieldLink RX7 66 "InningsHouse" "finding" "I"] ++ wsX70)
def wsX8_init : List Cond := .code yX8_init cX8_init 1 none :: ([.methodLink RX8 1 objectInit, .instanceMethod objectInit, .code objectInit ⟨#[0xb1]⟩ 1 none, .arrayClass .int, .fieldLink RX8 7 "InningsHouseModel" "lane" "[I", .fieldLink RX8 13 "InningsHouseModel" "many" "[I", .fieldLink RX8 16 "InningsHouseModel" "item" "[I", .fieldLink RX8 19 "InningsHouseModel" "chance" "[I", .fieldLink RX8 22 "InningsHouseModel" "order" "[I", .fieldLink RX8 25 "InningsHouseModel" "mean" "[I", .constant RX8 28 (69750), .fieldLink RX8 29 "InningsHouseModel" "likely" "[I", .fieldLink RX8 32 "InningsHouseModel" "best" "[I", .constant RX8 35 (-1000000), .fieldLink RX8 36 "InningsHouseModel" "team" "[I", .constant RX8 39 (37050), .fieldLink RX8 40 "InningsHouseModel" "win" "[I", .fieldLink RX8 43 "InningsHouseModel" "choice" "[I", .fieldLink RX8 46 "InningsHouseModel" "often" "[I", .fieldLink RX8 49 "InningsHouseModel" "trace" "[I"] ++ wsX80)
def wsX8_in : List Cond := .code yX8_in cX8_in 6 (some .boolean) :: ([])
def wsX8_found : List Cond := .code yX8_found cX8_found 2 (some .int) :: ([.fieldLink RX8 56 "InningsHouseModel" "status" "I", .constant RX8 59 (-1000010)] ++ wsX80)
def wsX8_isSheet : List Cond := .code yX8_isSheet cX8_isSheet 1 (some .boolean) :: ([.constantLong RX8 60 (7), .methodLink RX8 62 yX8_in, .static yX8_in, .initialized RX8, .code yX8_in cX8_in 6 (some .boolean)])
def wsX8_sheet : List Cond := .code yX8_sheet cX8_sheet 5 (some .int) :: ([.fieldLink RX8 52 "InningsHouseModel" "thrown" "I", .constantLong RX8 70 (2), .constant RX8 72 (-1000001), .fieldLink RX8 56 "InningsHouseModel" "status" "I", .fieldLink RX8 7 "InningsHouseModel" "lane" "[I", .fieldLink RX8 13 "InningsHouseModel" "many" "[I", .fieldLink RX8 16 "InningsHouseModel" "item" "[I", .methodLink RX8 66 yX8_isSheet, .static yX8_isSheet, .initialized RX8, .code yX8_isSheet cX8_isSheet 1 (some .boolean), .constantLong RX8 60 (7), .methodLink RX8 62 yX8_in, .static yX8_in, .code yX8_in cX8_in 6 (some .boolean), .methodLink RX8 73 yX8_found, .instanceMethod yX8_found, .selects RX8 yX8_found yX8_found, .code yX8_found cX8_found 2 (some .int), .constant RX8 59 (-1000010)] ++ wsX80)
def wsX8_set : List Cond := .code yX8_set cX8_set 4 (some .int) :: ([.fieldLink RX8 52 "InningsHouseModel" "thrown" "I", .constant RX8 72 (-1000001), .fieldLink RX8 56 "InningsHouseModel" "status" "I", .fieldLink RX8 7 "InningsHouseModel" "lane" "[I", .fieldLink RX8 13 "InningsHouseModel" "many" "[I", .fieldLink RX8 16 "InningsHouseModel" "item" "[I", .methodLink RX8 66 yX8_isSheet, .static yX8_isSheet, .initialized RX8, .code yX8_isSheet cX8_isSheet 1 (some .boolean), .constantLong RX8 60 (7), .methodLink RX8 62 yX8_in, .static yX8_in, .code yX8_in cX8_in 6 (some .boolean), .methodLink RX8 73 yX8_found, .instanceMethod yX8_found, .selects RX8 yX8_found yX8_found, .code yX8_found cX8_found 2 (some .int), .constant RX8 59 (-1000010)] ++ wsX80)
def wsX8_copy : List Cond := .code yX8_copy cX8_copy 9 (some .int) :: ([.fieldLink RX8 52 "InningsHouseModel" "thrown" "I", .constant RX8 72 (-1000001), .fieldLink RX8 56 "InningsHouseModel" "status" "I", .fieldLink RX8 7 "InningsHouseModel" "lane" "[I", .fieldLink RX8 13 "InningsHouseModel" "many" "[I", .fieldLink RX8 16 "InningsHouseModel" "item" "[I", .methodLink RX8 66 yX8_isSheet, .static yX8_isSheet, .initialized RX8, .code yX8_isSheet cX8_isSheet 1 (some .boolean), .constantLong RX8 60 (7), .methodLink RX8 62 yX8_in, .static yX8_in, .code yX8_in cX8_in 6 (some .boolean), .methodLink RX8 73 yX8_found, .instanceMethod yX8_found, .selects RX8 yX8_found yX8_found, .code yX8_found cX8_found 2 (some .int), .constant RX8 59 (-1000010)] ++ wsX80)
def wsX8_drop : List Cond := .code yX8_drop cX8_drop 2 (some .int) :: ([.fieldLink RX8 52 "InningsHouseModel" "thrown" "I", .constant RX8 72 (-1000001), .fieldLink RX8 56 "InningsHouseModel" "status" "I", .fieldLink RX8 7 "InningsHouseModel" "lane" "[I", .fieldLink RX8 13 "InningsHouseModel" "many" "[I", .methodLink RX8 66 yX8_isSheet, .static yX8_isSheet, .initialized RX8, .code yX8_isSheet cX8_isSheet 1 (some .boolean), .constantLong RX8 60 (7), .methodLink RX8 62 yX8_in, .static yX8_in, .code yX8_in cX8_in 6 (some .boolean), .methodLink RX8 73 yX8_found, .instanceMethod yX8_found, .selects RX8 yX8_found yX8_found, .code yX8_found cX8_found 2 (some .int), .constant RX8 59 (-1000010)] ++ wsX80)
def wsX8_mayBe : List Cond := .code yX8_mayBe cX8_mayBe 2 (some .boolean) :: ([])
def wsX8_men : List Cond := .code yX8_men cX8_men 1 (some .int) :: ([])
def wsX8_next : List Cond := .code yX8_next cX8_next 4 (some .int) :: ([])
def wsX8_runs : List Cond := .code yX8_runs cX8_runs 3 (some .int) :: ([.methodLink RX8 77 yX8_men, .static yX8_men, .initialized RX8, .code yX8_men cX8_men 1 (some .int)])
def wsX8_behind : List Cond := .code yX8_behind cX8_behind 4 (some .int) :: ([.fieldLink RX8 52 "InningsHouseModel" "thrown" "I", .constantLong RX8 80 (23), .constantLong RX8 82 (8), .constant RX8 72 (-1000001), .constant RX8 35 (-1000000), .methodLink RX8 62 yX8_in, .static yX8_in, .initialized RX8, .code yX8_in cX8_in 6 (some .boolean), .methodLink RX8 84 yX8_mayBe, .static yX8_mayBe, .code yX8_mayBe cX8_mayBe 2 (some .boolean), .methodLink RX8 88 yX8_next, .static yX8_next, .code yX8_next cX8_next 4 (some .int), .methodLink RX8 92 yX8_runs, .static yX8_runs, .code yX8_runs cX8_runs 3 (some .int), .methodLink RX8 77 yX8_men, .static yX8_men, .code yX8_men cX8_men 1 (some .int)] ++ wsX80)
def wsX8_isStriker : List Cond := .code yX8_isStriker cX8_isStriker 2 (some .boolean) :: ([.fieldLink RX8 95 "InningsHouseModel" "strikers" "I", .methodLink RX8 62 yX8_in, .static yX8_in, .initialized RX8, .code yX8_in cX8_in 6 (some .boolean)] ++ wsX80)
def wsX8_isChance : List Cond := .code yX8_isChance cX8_isChance 1 (some .boolean) :: ([.constantLong RX8 98 (1000), .methodLink RX8 62 yX8_in, .static yX8_in, .initialized RX8, .code yX8_in cX8_in 6 (some .boolean)])
def wsX8_settle : List Cond := .code yX8_settle cX8_settle 2 none :: ([.fieldLink RX8 19 "InningsHouseModel" "chance" "[I"] ++ wsX80)
def wsX8_striker : List Cond := .code yX8_striker cX8_striker 8 (some .int) :: ([.fieldLink RX8 52 "InningsHouseModel" "thrown" "I", .constant RX8 72 (-1000001), .fieldLink RX8 95 "InningsHouseModel" "strikers" "I", .constant RX8 103 (-1000003), .fieldLink RX8 19 "InningsHouseModel" "chance" "[I", .methodLink RX8 100 yX8_isChance, .static yX8_isChance, .initialized RX8, .code yX8_isChance cX8_isChance 1 (some .boolean), .constantLong RX8 98 (1000), .methodLink RX8 62 yX8_in, .static yX8_in, .code yX8_in cX8_in 6 (some .boolean), .methodLink RX8 104 yX8_settle, .instanceMethod yX8_settle, .selects RX8 yX8_settle yX8_settle, .code yX8_settle cX8_settle 2 none] ++ wsX80)
def wsX8_train : List Cond := .code yX8_train cX8_train 5 (some .int) :: ([.fieldLink RX8 52 "InningsHouseModel" "thrown" "I", .constantLong RX8 111 (6), .constant RX8 72 (-1000001), .fieldLink RX8 19 "InningsHouseModel" "chance" "[I", .constant RX8 113 (-1000002), .methodLink RX8 108 yX8_isStriker, .instanceMethod yX8_isStriker, .selects RX8 yX8_isStriker yX8_isStriker, .initialized RX8, .code yX8_isStriker cX8_isStriker 2 (some .boolean), .fieldLink RX8 95 "InningsHouseModel" "strikers" "I", .methodLink RX8 62 yX8_in, .static yX8_in, .code yX8_in cX8_in 6 (some .boolean), .methodLink RX8 100 yX8_isChance, .static yX8_isChance, .code yX8_isChance cX8_isChance 1 (some .boolean), .constantLong RX8 98 (1000), .methodLink RX8 104 yX8_settle, .instanceMethod yX8_settle, .selects RX8 yX8_settle yX8_settle, .code yX8_settle cX8_settle 2 none] ++ wsX80)
def wsX8_chance : List Cond := .code yX8_chance cX8_chance 3 (some .int) :: ([.fieldLink RX8 52 "InningsHouseModel" "thrown" "I", .constantLong RX8 111 (6), .constant RX8 72 (-1000001), .fieldLink RX8 19 "InningsHouseModel" "chance" "[I", .methodLink RX8 108 yX8_isStriker, .instanceMethod yX8_isStriker, .selects RX8 yX8_isStriker yX8_isStriker, .initialized RX8, .code yX8_isStriker cX8_isStriker 2 (some .boolean), .fieldLink RX8 95 "InningsHouseModel" "strikers" "I", .methodLink RX8 62 yX8_in, .static yX8_in, .code yX8_in cX8_in 6 (some .boolean)] ++ wsX80)
def wsX8_order_r1 : List Cond := [Cond.fieldLink RX8 52 "InningsHouseModel" "thrown" "I", Cond.constantLong RX8 114 (9), Cond.constant RX8 72 (-1000001), Cond.fieldLink RX8 7 "InningsHouseModel" "lane" "[I", Cond.fieldLink RX8 13 "InningsHouseModel" "many" "[I", Cond.fieldLink RX8 16 "InningsHouseModel" "item" "[I", Cond.fieldLink RX8 56 "InningsHouseModel" "status" "I", Cond.fieldLink RX8 116 "InningsHouseModel" "places" "I", Cond.fieldLink RX8 22 "InningsHouseModel" "order" "[I", Cond.methodLink RX8 66 yX8_isSheet, Cond.static yX8_isSheet, Cond.initialized RX8, Cond.code yX8_isSheet cX8_isSheet 1 (some .boolean), Cond.constantLong RX8 60 (7), Cond.methodLink RX8 62 yX8_in, Cond.static yX8_in, Cond.code yX8_in cX8_in 6 (some .boolean), Cond.methodLink RX8 73 yX8_found, Cond.instanceMethod yX8_found, Cond.selects RX8 yX8_found yX8_found, Cond.code yX8_found cX8_found 2 (some .int), Cond.constant RX8 59 (-1000010), Cond.methodLink RX8 108 yX8_isStriker, Cond.instanceMethod yX8_isStriker]
def wsX8_order_r2 : List Cond := [Cond.selects RX8 yX8_isStriker yX8_isStriker, Cond.code yX8_isStriker cX8_isStriker 2 (some .boolean), Cond.fieldLink RX8 95 "InningsHouseModel" "strikers" "I"]
def wsX8_order : List Cond := .code yX8_order cX8_order 5 (some .int) :: ((wsX8_order_r1 ++ wsX8_order_r2) ++ wsX80)
def wsX8_striking : List Cond := .code yX8_striking cX8_striking 2 (some .int) :: ([.fieldLink RX8 52 "InningsHouseModel" "thrown" "I", .constant RX8 35 (-1000000), .fieldLink RX8 116 "InningsHouseModel" "places" "I", .fieldLink RX8 22 "InningsHouseModel" "order" "[I", .constant RX8 72 (-1000001), .methodLink RX8 62 yX8_in, .static yX8_in, .initialized RX8, .code yX8_in cX8_in 6 (some .boolean)] ++ wsX80)
def wsX8_findMeans : List Cond := .code yX8_findMeans cX8_findMeans 11 none :: ([.fieldLink RX8 116 "InningsHouseModel" "places" "I", .fieldLink RX8 19 "InningsHouseModel" "chance" "[I", .fieldLink RX8 22 "InningsHouseModel" "order" "[I", .constantLong RX8 119 (1000000), .fieldLink RX8 25 "InningsHouseModel" "mean" "[I", .constantLong RX8 98 (1000), .methodLink RX8 92 yX8_runs, .static yX8_runs, .initialized RX8, .code yX8_runs cX8_runs 3 (some .int), .methodLink RX8 77 yX8_men, .static yX8_men, .code yX8_men cX8_men 1 (some .int), .methodLink RX8 88 yX8_next, .static yX8_next, .code yX8_next cX8_next 4 (some .int)] ++ wsX80)
def wsX8_isAt : List Cond := .code yX8_isAt cX8_isAt 4 (some .boolean) :: ([.constantLong RX8 121 (24), .fieldLink RX8 116 "InningsHouseModel" "places" "I", .constantLong RX8 123 (30), .methodLink RX8 62 yX8_in, .static yX8_in, .initialized RX8, .code yX8_in cX8_in 6 (some .boolean)] ++ wsX80)
def wsX8_mean_r1 : List Cond := [Cond.fieldLink RX8 52 "InningsHouseModel" "thrown" "I", Cond.constant RX8 72 (-1000001), Cond.fieldLink RX8 25 "InningsHouseModel" "mean" "[I", Cond.methodLink RX8 125 yX8_isAt, Cond.instanceMethod yX8_isAt, Cond.selects RX8 yX8_isAt yX8_isAt, Cond.initialized RX8, Cond.code yX8_isAt cX8_isAt 4 (some .boolean), Cond.constantLong RX8 121 (24), Cond.fieldLink RX8 116 "InningsHouseModel" "places" "I", Cond.constantLong RX8 123 (30), Cond.methodLink RX8 62 yX8_in, Cond.static yX8_in, Cond.code yX8_in cX8_in 6 (some .boolean), Cond.methodLink RX8 129 yX8_findMeans, Cond.instanceMethod yX8_findMeans, Cond.selects RX8 yX8_findMeans yX8_findMeans, Cond.code yX8_findMeans cX8_findMeans 11 none, Cond.fieldLink RX8 19 "InningsHouseModel" "chance" "[I", Cond.fieldLink RX8 22 "InningsHouseModel" "order" "[I", Cond.constantLong RX8 119 (1000000), Cond.constantLong RX8 98 (1000), Cond.methodLink RX8 92 yX8_runs, Cond.static yX8_runs]
def wsX8_mean_r2 : List Cond := [Cond.code yX8_runs cX8_runs 3 (some .int), Cond.methodLink RX8 77 yX8_men, Cond.static yX8_men, Cond.code yX8_men cX8_men 1 (some .int), Cond.methodLink RX8 88 yX8_next, Cond.static yX8_next, Cond.code yX8_next cX8_next 4 (some .int)]
def wsX8_mean : List Cond := .code yX8_mean cX8_mean 4 (some .int) :: ((wsX8_mean_r1 ++ wsX8_mean_r2) ++ wsX80)
def wsX8_likely_r1 : List Cond := [Cond.fieldLink RX8 52 "InningsHouseModel" "thrown" "I", Cond.constantLong RX8 114 (9), Cond.constant RX8 72 (-1000001), Cond.fieldLink RX8 116 "InningsHouseModel" "places" "I", Cond.constantLong RX8 119 (1000000), Cond.fieldLink RX8 29 "InningsHouseModel" "likely" "[I", Cond.fieldLink RX8 19 "InningsHouseModel" "chance" "[I", Cond.fieldLink RX8 22 "InningsHouseModel" "order" "[I", Cond.constant RX8 132 (1000000), Cond.constantLong RX8 98 (1000), Cond.methodLink RX8 125 yX8_isAt, Cond.instanceMethod yX8_isAt, Cond.selects RX8 yX8_isAt yX8_isAt, Cond.initialized RX8, Cond.code yX8_isAt cX8_isAt 4 (some .boolean), Cond.constantLong RX8 121 (24), Cond.constantLong RX8 123 (30), Cond.methodLink RX8 62 yX8_in, Cond.static yX8_in, Cond.code yX8_in cX8_in 6 (some .boolean), Cond.methodLink RX8 92 yX8_runs, Cond.static yX8_runs, Cond.code yX8_runs cX8_runs 3 (some .int), Cond.methodLink RX8 77 yX8_men]
def wsX8_likely_r2 : List Cond := [Cond.static yX8_men, Cond.code yX8_men cX8_men 1 (some .int), Cond.methodLink RX8 88 yX8_next, Cond.static yX8_next, Cond.code yX8_next cX8_next 4 (some .int)]
def wsX8_likely : List Cond := .code yX8_likely cX8_likely 18 (some .int) :: ((wsX8_likely_r1 ++ wsX8_likely_r2) ++ wsX80)
def wsX8_worth_r1 : List Cond := [Cond.fieldLink RX8 52 "InningsHouseModel" "thrown" "I", Cond.constantLong RX8 111 (6), Cond.constant RX8 72 (-1000001), Cond.constant RX8 132 (1000000), Cond.fieldLink RX8 25 "InningsHouseModel" "mean" "[I", Cond.fieldLink RX8 116 "InningsHouseModel" "places" "I", Cond.methodLink RX8 125 yX8_isAt, Cond.instanceMethod yX8_isAt, Cond.selects RX8 yX8_isAt yX8_isAt, Cond.initialized RX8, Cond.code yX8_isAt cX8_isAt 4 (some .boolean), Cond.constantLong RX8 121 (24), Cond.constantLong RX8 123 (30), Cond.methodLink RX8 62 yX8_in, Cond.static yX8_in, Cond.code yX8_in cX8_in 6 (some .boolean), Cond.methodLink RX8 129 yX8_findMeans, Cond.instanceMethod yX8_findMeans, Cond.selects RX8 yX8_findMeans yX8_findMeans, Cond.code yX8_findMeans cX8_findMeans 11 none, Cond.fieldLink RX8 19 "InningsHouseModel" "chance" "[I", Cond.fieldLink RX8 22 "InningsHouseModel" "order" "[I", Cond.constantLong RX8 119 (1000000), Cond.constantLong RX8 98 (1000)]
def wsX8_worth_r2 : List Cond := [Cond.methodLink RX8 92 yX8_runs, Cond.static yX8_runs, Cond.code yX8_runs cX8_runs 3 (some .int), Cond.methodLink RX8 77 yX8_men, Cond.static yX8_men, Cond.code yX8_men cX8_men 1 (some .int), Cond.methodLink RX8 88 yX8_next, Cond.static yX8_next, Cond.code yX8_next cX8_next 4 (some .int)]
def wsX8_worth : List Cond := .code yX8_worth cX8_worth 5 (some .int) :: ((wsX8_worth_r1 ++ wsX8_worth_r2) ++ wsX80)
def wsX8_rateNow : List Cond := .code yX8_rateNow cX8_rateNow 1 (some .int) :: ([.fieldLink RX8 25 "InningsHouseModel" "mean" "[I", .fieldLink RX8 116 "InningsHouseModel" "places" "I", .methodLink RX8 129 yX8_findMeans, .instanceMethod yX8_findMeans, .selects RX8 yX8_findMeans yX8_findMeans, .initialized RX8, .code yX8_findMeans cX8_findMeans 11 none, .fieldLink RX8 19 "InningsHouseModel" "chance" "[I", .fieldLink RX8 22 "InningsHouseModel" "order" "[I", .constantLong RX8 119 (1000000), .constantLong RX8 98 (1000), .methodLink RX8 92 yX8_runs, .static yX8_runs, .code yX8_runs cX8_runs 3 (some .int), .methodLink RX8 77 yX8_men, .static yX8_men, .code yX8_men cX8_men 1 (some .int), .methodLink RX8 88 yX8_next, .static yX8_next, .code yX8_next cX8_next 4 (some .int)] ++ wsX80)
def wsX8_rate_r1 : List Cond := [Cond.fieldLink RX8 52 "InningsHouseModel" "thrown" "I", Cond.fieldLink RX8 116 "InningsHouseModel" "places" "I", Cond.constant RX8 113 (-1000002), Cond.methodLink RX8 133 yX8_rateNow, Cond.instanceMethod yX8_rateNow, Cond.selects RX8 yX8_rateNow yX8_rateNow, Cond.initialized RX8, Cond.code yX8_rateNow cX8_rateNow 1 (some .int), Cond.fieldLink RX8 25 "InningsHouseModel" "mean" "[I", Cond.methodLink RX8 129 yX8_findMeans, Cond.instanceMethod yX8_findMeans, Cond.selects RX8 yX8_findMeans yX8_findMeans, Cond.code yX8_findMeans cX8_findMeans 11 none, Cond.fieldLink RX8 19 "InningsHouseModel" "chance" "[I", Cond.fieldLink RX8 22 "InningsHouseModel" "order" "[I", Cond.constantLong RX8 119 (1000000), Cond.constantLong RX8 98 (1000), Cond.methodLink RX8 92 yX8_runs, Cond.static yX8_runs, Cond.code yX8_runs cX8_runs 3 (some .int), Cond.methodLink RX8 77 yX8_men, Cond.static yX8_men, Cond.code yX8_men cX8_men 1 (some .int), Cond.methodLink RX8 88 yX8_next]
def wsX8_rate_r2 : List Cond := [Cond.static yX8_next, Cond.code yX8_next cX8_next 4 (some .int)]
def wsX8_rate : List Cond := .code yX8_rate cX8_rate 1 (some .int) :: ((wsX8_rate_r1 ++ wsX8_rate_r2) ++ wsX80)
def wsX8_exchange : List Cond := .code yX8_exchange cX8_exchange 4 none :: ([.fieldLink RX8 22 "InningsHouseModel" "order" "[I"] ++ wsX80)
def wsX8_swapped_r1 : List Cond := [Cond.fieldLink RX8 52 "InningsHouseModel" "thrown" "I", Cond.fieldLink RX8 116 "InningsHouseModel" "places" "I", Cond.constant RX8 113 (-1000002), Cond.methodLink RX8 133 yX8_rateNow, Cond.instanceMethod yX8_rateNow, Cond.selects RX8 yX8_rateNow yX8_rateNow, Cond.initialized RX8, Cond.code yX8_rateNow cX8_rateNow 1 (some .int), Cond.fieldLink RX8 25 "InningsHouseModel" "mean" "[I", Cond.methodLink RX8 129 yX8_findMeans, Cond.instanceMethod yX8_findMeans, Cond.selects RX8 yX8_findMeans yX8_findMeans, Cond.code yX8_findMeans cX8_findMeans 11 none, Cond.fieldLink RX8 19 "InningsHouseModel" "chance" "[I", Cond.fieldLink RX8 22 "InningsHouseModel" "order" "[I", Cond.constantLong RX8 119 (1000000), Cond.constantLong RX8 98 (1000), Cond.methodLink RX8 92 yX8_runs, Cond.static yX8_runs, Cond.code yX8_runs cX8_runs 3 (some .int), Cond.methodLink RX8 77 yX8_men, Cond.static yX8_men, Cond.code yX8_men cX8_men 1 (some .int), Cond.methodLink RX8 88 yX8_next]
def wsX8_swapped_r2 : List Cond := [Cond.static yX8_next, Cond.code yX8_next cX8_next 4 (some .int), Cond.methodLink RX8 137 yX8_exchange, Cond.instanceMethod yX8_exchange, Cond.selects RX8 yX8_exchange yX8_exchange, Cond.code yX8_exchange cX8_exchange 4 none]
def wsX8_swapped : List Cond := .code yX8_swapped cX8_swapped 7 (some .int) :: ((wsX8_swapped_r1 ++ wsX8_swapped_r2) ++ wsX80)
def wsX8_nextOrder : List Cond := .code yX8_nextOrder cX8_nextOrder 5 (some .boolean) :: ([.fieldLink RX8 116 "InningsHouseModel" "places" "I", .fieldLink RX8 22 "InningsHouseModel" "order" "[I", .methodLink RX8 137 yX8_exchange, .instanceMethod yX8_exchange, .selects RX8 yX8_exchange yX8_exchange, .initialized RX8, .code yX8_exchange cX8_exchange 4 none] ++ wsX80)
def wsX8_best_r1 : List Cond := [Cond.fieldLink RX8 52 "InningsHouseModel" "thrown" "I", Cond.fieldLink RX8 116 "InningsHouseModel" "places" "I", Cond.constant RX8 113 (-1000002), Cond.fieldLink RX8 22 "InningsHouseModel" "order" "[I", Cond.fieldLink RX8 32 "InningsHouseModel" "best" "[I", Cond.methodLink RX8 137 yX8_exchange, Cond.instanceMethod yX8_exchange, Cond.selects RX8 yX8_exchange yX8_exchange, Cond.initialized RX8, Cond.code yX8_exchange cX8_exchange 4 none, Cond.methodLink RX8 133 yX8_rateNow, Cond.instanceMethod yX8_rateNow, Cond.selects RX8 yX8_rateNow yX8_rateNow, Cond.code yX8_rateNow cX8_rateNow 1 (some .int), Cond.fieldLink RX8 25 "InningsHouseModel" "mean" "[I", Cond.methodLink RX8 129 yX8_findMeans, Cond.instanceMethod yX8_findMeans, Cond.selects RX8 yX8_findMeans yX8_findMeans, Cond.code yX8_findMeans cX8_findMeans 11 none, Cond.fieldLink RX8 19 "InningsHouseModel" "chance" "[I", Cond.constantLong RX8 119 (1000000), Cond.constantLong RX8 98 (1000), Cond.methodLink RX8 92 yX8_runs, Cond.static yX8_runs]
def wsX8_best_r2 : List Cond := [Cond.code yX8_runs cX8_runs 3 (some .int), Cond.methodLink RX8 77 yX8_men, Cond.static yX8_men, Cond.code yX8_men cX8_men 1 (some .int), Cond.methodLink RX8 88 yX8_next, Cond.static yX8_next, Cond.code yX8_next cX8_next 4 (some .int), Cond.methodLink RX8 141 yX8_nextOrder, Cond.instanceMethod yX8_nextOrder, Cond.selects RX8 yX8_nextOrder yX8_nextOrder, Cond.code yX8_nextOrder cX8_nextOrder 5 (some .boolean)]
def wsX8_best : List Cond := .code yX8_best cX8_best 5 (some .int) :: ((wsX8_best_r1 ++ wsX8_best_r2) ++ wsX80)
def wsX8_team : List Cond := .code yX8_team cX8_team 4 (some .int) :: ([.fieldLink RX8 52 "InningsHouseModel" "thrown" "I", .constant RX8 72 (-1000001), .fieldLink RX8 36 "InningsHouseModel" "team" "[I", .methodLink RX8 62 yX8_in, .static yX8_in, .initialized RX8, .code yX8_in cX8_in 6 (some .boolean), .methodLink RX8 108 yX8_isStriker, .instanceMethod yX8_isStriker, .selects RX8 yX8_isStriker yX8_isStriker, .code yX8_isStriker cX8_isStriker 2 (some .boolean), .fieldLink RX8 95 "InningsHouseModel" "strikers" "I"] ++ wsX80)
def wsX8_placeOf : List Cond := .code yX8_placeOf cX8_placeOf 4 (some .int) :: ([])
def wsX8_winBehind : List Cond := .code yX8_winBehind cX8_winBehind 8 (some .int) :: ([.fieldLink RX8 40 "InningsHouseModel" "win" "[I", .methodLink RX8 92 yX8_runs, .static yX8_runs, .initialized RX8, .code yX8_runs cX8_runs 3 (some .int), .methodLink RX8 77 yX8_men, .static yX8_men, .code yX8_men cX8_men 1 (some .int), .methodLink RX8 88 yX8_next, .static yX8_next, .code yX8_next cX8_next 4 (some .int), .methodLink RX8 145 yX8_placeOf, .static yX8_placeOf, .code yX8_placeOf cX8_placeOf 4 (some .int)] ++ wsX80)
def wsX8_take : List Cond := .code yX8_take cX8_take 5 none :: ([.fieldLink RX8 40 "InningsHouseModel" "win" "[I", .fieldLink RX8 43 "InningsHouseModel" "choice" "[I"] ++ wsX80)
def wsX8_play_r1 : List Cond := [Cond.fieldLink RX8 43 "InningsHouseModel" "choice" "[I", Cond.constant RX8 35 (-1000000), Cond.fieldLink RX8 40 "InningsHouseModel" "win" "[I", Cond.constant RX8 132 (1000000), Cond.constant RX8 149 (500000), Cond.fieldLink RX8 36 "InningsHouseModel" "team" "[I", Cond.fieldLink RX8 19 "InningsHouseModel" "chance" "[I", Cond.constantLong RX8 98 (1000), Cond.methodLink RX8 145 yX8_placeOf, Cond.static yX8_placeOf, Cond.initialized RX8, Cond.code yX8_placeOf cX8_placeOf 4 (some .int), Cond.methodLink RX8 150 yX8_winBehind, Cond.instanceMethod yX8_winBehind, Cond.selects RX8 yX8_winBehind yX8_winBehind, Cond.code yX8_winBehind cX8_winBehind 8 (some .int), Cond.methodLink RX8 92 yX8_runs, Cond.static yX8_runs, Cond.code yX8_runs cX8_runs 3 (some .int), Cond.methodLink RX8 77 yX8_men, Cond.static yX8_men, Cond.code yX8_men cX8_men 1 (some .int), Cond.methodLink RX8 88 yX8_next, Cond.static yX8_next]
def wsX8_play_r2 : List Cond := [Cond.code yX8_next cX8_next 4 (some .int), Cond.methodLink RX8 154 yX8_take, Cond.instanceMethod yX8_take, Cond.selects RX8 yX8_take yX8_take, Cond.code yX8_take cX8_take 5 none, Cond.methodLink RX8 84 yX8_mayBe, Cond.static yX8_mayBe, Cond.code yX8_mayBe cX8_mayBe 2 (some .boolean)]
def wsX8_play : List Cond := .code yX8_play cX8_play 11 none :: ((wsX8_play_r1 ++ wsX8_play_r2) ++ wsX80)
def wsX8_game_r1 : List Cond := [Cond.fieldLink RX8 52 "InningsHouseModel" "thrown" "I", Cond.constantLong RX8 158 (5), Cond.constantLong RX8 160 (-9), Cond.constantLong RX8 114 (9), Cond.constantLong RX8 121 (24), Cond.constantLong RX8 162 (12), Cond.constantLong RX8 70 (2), Cond.constant RX8 72 (-1000001), Cond.fieldLink RX8 36 "InningsHouseModel" "team" "[I", Cond.constant RX8 35 (-1000000), Cond.constant RX8 113 (-1000002), Cond.fieldLink RX8 40 "InningsHouseModel" "win" "[I", Cond.fieldLink RX8 43 "InningsHouseModel" "choice" "[I", Cond.methodLink RX8 62 yX8_in, Cond.static yX8_in, Cond.initialized RX8, Cond.code yX8_in cX8_in 6 (some .boolean), Cond.methodLink RX8 164 yX8_play, Cond.instanceMethod yX8_play, Cond.selects RX8 yX8_play yX8_play, Cond.code yX8_play cX8_play 11 none, Cond.constant RX8 132 (1000000), Cond.constant RX8 149 (500000), Cond.fieldLink RX8 19 "InningsHouseModel" "chance" "[I"]
def wsX8_game_r2 : List Cond := [Cond.constantLong RX8 98 (1000), Cond.methodLink RX8 145 yX8_placeOf, Cond.static yX8_placeOf, Cond.code yX8_placeOf cX8_placeOf 4 (some .int), Cond.methodLink RX8 150 yX8_winBehind, Cond.instanceMethod yX8_winBehind, Cond.selects RX8 yX8_winBehind yX8_winBehind, Cond.code yX8_winBehind cX8_winBehind 8 (some .int), Cond.methodLink RX8 92 yX8_runs, Cond.static yX8_runs, Cond.code yX8_runs cX8_runs 3 (some .int), Cond.methodLink RX8 77 yX8_men, Cond.static yX8_men, Cond.code yX8_men cX8_men 1 (some .int), Cond.methodLink RX8 88 yX8_next, Cond.static yX8_next, Cond.code yX8_next cX8_next 4 (some .int), Cond.methodLink RX8 154 yX8_take, Cond.instanceMethod yX8_take, Cond.selects RX8 yX8_take yX8_take, Cond.code yX8_take cX8_take 5 none, Cond.methodLink RX8 84 yX8_mayBe, Cond.static yX8_mayBe, Cond.code yX8_mayBe cX8_mayBe 2 (some .boolean)]
def wsX8_game : List Cond := .code yX8_game cX8_game 10 (some .int) :: ((wsX8_game_r1 ++ wsX8_game_r2) ++ wsX80)
def wsX8_readLog_r1 : List Cond := [Cond.fieldLink RX8 7 "InningsHouseModel" "lane" "[I", Cond.fieldLink RX8 13 "InningsHouseModel" "many" "[I", Cond.fieldLink RX8 56 "InningsHouseModel" "status" "I", Cond.constant RX8 35 (-1000000), Cond.fieldLink RX8 167 "InningsHouseModel" "clash" "I", Cond.fieldLink RX8 170 "InningsHouseModel" "allRuns" "I", Cond.fieldLink RX8 173 "InningsHouseModel" "overs" "I", Cond.fieldLink RX8 176 "InningsHouseModel" "last" "I", Cond.fieldLink RX8 46 "InningsHouseModel" "often" "[I", Cond.fieldLink RX8 16 "InningsHouseModel" "item" "[I", Cond.constantLong RX8 82 (8), Cond.methodLink RX8 73 yX8_found, Cond.instanceMethod yX8_found, Cond.selects RX8 yX8_found yX8_found, Cond.initialized RX8, Cond.code yX8_found cX8_found 2 (some .int), Cond.constant RX8 59 (-1000010), Cond.methodLink RX8 62 yX8_in, Cond.static yX8_in, Cond.code yX8_in cX8_in 6 (some .boolean), Cond.methodLink RX8 84 yX8_mayBe, Cond.static yX8_mayBe, Cond.code yX8_mayBe cX8_mayBe 2 (some .boolean), Cond.methodLink RX8 88 yX8_next]
def wsX8_readLog_r2 : List Cond := [Cond.static yX8_next, Cond.code yX8_next cX8_next 4 (some .int), Cond.methodLink RX8 92 yX8_runs, Cond.static yX8_runs, Cond.code yX8_runs cX8_runs 3 (some .int), Cond.methodLink RX8 77 yX8_men, Cond.static yX8_men, Cond.code yX8_men cX8_men 1 (some .int)]
def wsX8_readLog : List Cond := .code yX8_readLog cX8_readLog 9 (some .int) :: ((wsX8_readLog_r1 ++ wsX8_readLog_r2) ++ wsX80)
def wsX8_log_r1 : List Cond := [Cond.fieldLink RX8 52 "InningsHouseModel" "thrown" "I", Cond.constantLong RX8 179 (20), Cond.constantLong RX8 181 (3), Cond.constantLong RX8 183 (10), Cond.constantLong RX8 185 (18), Cond.constant RX8 72 (-1000001), Cond.fieldLink RX8 167 "InningsHouseModel" "clash" "I", Cond.fieldLink RX8 170 "InningsHouseModel" "allRuns" "I", Cond.fieldLink RX8 173 "InningsHouseModel" "overs" "I", Cond.fieldLink RX8 176 "InningsHouseModel" "last" "I", Cond.fieldLink RX8 46 "InningsHouseModel" "often" "[I", Cond.methodLink RX8 66 yX8_isSheet, Cond.static yX8_isSheet, Cond.initialized RX8, Cond.code yX8_isSheet cX8_isSheet 1 (some .boolean), Cond.constantLong RX8 60 (7), Cond.methodLink RX8 62 yX8_in, Cond.static yX8_in, Cond.code yX8_in cX8_in 6 (some .boolean), Cond.methodLink RX8 187 yX8_readLog, Cond.instanceMethod yX8_readLog, Cond.selects RX8 yX8_readLog yX8_readLog, Cond.code yX8_readLog cX8_readLog 9 (some .int), Cond.fieldLink RX8 7 "InningsHouseModel" "lane" "[I"]
def wsX8_log_r2 : List Cond := [Cond.fieldLink RX8 13 "InningsHouseModel" "many" "[I", Cond.fieldLink RX8 56 "InningsHouseModel" "status" "I", Cond.constant RX8 35 (-1000000), Cond.fieldLink RX8 16 "InningsHouseModel" "item" "[I", Cond.constantLong RX8 82 (8), Cond.methodLink RX8 73 yX8_found, Cond.instanceMethod yX8_found, Cond.selects RX8 yX8_found yX8_found, Cond.code yX8_found cX8_found 2 (some .int), Cond.constant RX8 59 (-1000010), Cond.methodLink RX8 84 yX8_mayBe, Cond.static yX8_mayBe, Cond.code yX8_mayBe cX8_mayBe 2 (some .boolean), Cond.methodLink RX8 88 yX8_next, Cond.static yX8_next, Cond.code yX8_next cX8_next 4 (some .int), Cond.methodLink RX8 92 yX8_runs, Cond.static yX8_runs, Cond.code yX8_runs cX8_runs 3 (some .int), Cond.methodLink RX8 77 yX8_men, Cond.static yX8_men, Cond.code yX8_men cX8_men 1 (some .int)]
def wsX8_log : List Cond := .code yX8_log cX8_log 6 (some .int) :: ((wsX8_log_r1 ++ wsX8_log_r2) ++ wsX80)
def wsX8_learn_r1 : List Cond := [Cond.fieldLink RX8 52 "InningsHouseModel" "thrown" "I", Cond.constantLong RX8 179 (20), Cond.constant RX8 72 (-1000001), Cond.fieldLink RX8 95 "InningsHouseModel" "strikers" "I", Cond.constant RX8 103 (-1000003), Cond.fieldLink RX8 56 "InningsHouseModel" "status" "I", Cond.fieldLink RX8 46 "InningsHouseModel" "often" "[I", Cond.constant RX8 113 (-1000002), Cond.fieldLink RX8 19 "InningsHouseModel" "chance" "[I", Cond.methodLink RX8 66 yX8_isSheet, Cond.static yX8_isSheet, Cond.initialized RX8, Cond.code yX8_isSheet cX8_isSheet 1 (some .boolean), Cond.constantLong RX8 60 (7), Cond.methodLink RX8 62 yX8_in, Cond.static yX8_in, Cond.code yX8_in cX8_in 6 (some .boolean), Cond.methodLink RX8 100 yX8_isChance, Cond.static yX8_isChance, Cond.code yX8_isChance cX8_isChance 1 (some .boolean), Cond.constantLong RX8 98 (1000), Cond.methodLink RX8 187 yX8_readLog, Cond.instanceMethod yX8_readLog, Cond.selects RX8 yX8_readLog yX8_readLog]
def wsX8_learn_r2 : List Cond := [Cond.code yX8_readLog cX8_readLog 9 (some .int), Cond.fieldLink RX8 7 "InningsHouseModel" "lane" "[I", Cond.fieldLink RX8 13 "InningsHouseModel" "many" "[I", Cond.constant RX8 35 (-1000000), Cond.fieldLink RX8 167 "InningsHouseModel" "clash" "I", Cond.fieldLink RX8 170 "InningsHouseModel" "allRuns" "I", Cond.fieldLink RX8 173 "InningsHouseModel" "overs" "I", Cond.fieldLink RX8 176 "InningsHouseModel" "last" "I", Cond.fieldLink RX8 16 "InningsHouseModel" "item" "[I", Cond.constantLong RX8 82 (8), Cond.methodLink RX8 73 yX8_found, Cond.instanceMethod yX8_found, Cond.selects RX8 yX8_found yX8_found, Cond.code yX8_found cX8_found 2 (some .int), Cond.constant RX8 59 (-1000010), Cond.methodLink RX8 84 yX8_mayBe, Cond.static yX8_mayBe, Cond.code yX8_mayBe cX8_mayBe 2 (some .boolean), Cond.methodLink RX8 88 yX8_next, Cond.static yX8_next, Cond.code yX8_next cX8_next 4 (some .int), Cond.methodLink RX8 92 yX8_runs, Cond.static yX8_runs, Cond.code yX8_runs cX8_runs 3 (some .int)]
def wsX8_learn_r3 : List Cond := [Cond.methodLink RX8 77 yX8_men, Cond.static yX8_men, Cond.code yX8_men cX8_men 1 (some .int), Cond.methodLink RX8 104 yX8_settle, Cond.instanceMethod yX8_settle, Cond.selects RX8 yX8_settle yX8_settle, Cond.code yX8_settle cX8_settle 2 none]
def wsX8_learn : List Cond := .code yX8_learn cX8_learn 9 (some .int) :: ((wsX8_learn_r1 ++ (wsX8_learn_r2 ++ wsX8_learn_r3)) ++ wsX80)
def wsX8_kindOf : List Cond := .code yX8_kindOf cX8_kindOf 3 (some .int) :: ([.fieldLink RX8 19 "InningsHouseModel" "chance" "[I"] ++ wsX80)
def wsX8_isOf : List Cond := .code yX8_isOf cX8_isOf 2 (some .boolean) :: ([])
def wsX8_kind : List Cond := .code yX8_kind cX8_kind 2 (some .int) :: ([.fieldLink RX8 52 "InningsHouseModel" "thrown" "I", .constant RX8 72 (-1000001), .methodLink RX8 108 yX8_isStriker, .instanceMethod yX8_isStriker, .selects RX8 yX8_isStriker yX8_isStriker, .initialized RX8, .code yX8_isStriker cX8_isStriker 2 (some .boolean), .fieldLink RX8 95 "InningsHouseModel" "strikers" "I", .methodLink RX8 62 yX8_in, .static yX8_in, .code yX8_in cX8_in 6 (some .boolean), .methodLink RX8 191 yX8_kindOf, .instanceMethod yX8_kindOf, .selects RX8 yX8_kindOf yX8_kindOf, .code yX8_kindOf cX8_kindOf 3 (some .int), .fieldLink RX8 19 "InningsHouseModel" "chance" "[I"] ++ wsX80)
def wsX8_as_r1 : List Cond := [Cond.fieldLink RX8 52 "InningsHouseModel" "thrown" "I", Cond.constantLong RX8 181 (3), Cond.constant RX8 72 (-1000001), Cond.fieldLink RX8 56 "InningsHouseModel" "status" "I", Cond.fieldLink RX8 19 "InningsHouseModel" "chance" "[I", Cond.methodLink RX8 108 yX8_isStriker, Cond.instanceMethod yX8_isStriker, Cond.selects RX8 yX8_isStriker yX8_isStriker, Cond.initialized RX8, Cond.code yX8_isStriker cX8_isStriker 2 (some .boolean), Cond.fieldLink RX8 95 "InningsHouseModel" "strikers" "I", Cond.methodLink RX8 62 yX8_in, Cond.static yX8_in, Cond.code yX8_in cX8_in 6 (some .boolean), Cond.methodLink RX8 191 yX8_kindOf, Cond.instanceMethod yX8_kindOf, Cond.selects RX8 yX8_kindOf yX8_kindOf, Cond.code yX8_kindOf cX8_kindOf 3 (some .int), Cond.methodLink RX8 194 yX8_isOf, Cond.static yX8_isOf, Cond.code yX8_isOf cX8_isOf 2 (some .boolean), Cond.methodLink RX8 73 yX8_found, Cond.instanceMethod yX8_found, Cond.selects RX8 yX8_found yX8_found]
def wsX8_as_r2 : List Cond := [Cond.code yX8_found cX8_found 2 (some .int), Cond.constant RX8 59 (-1000010)]
def wsX8_as : List Cond := .code yX8_as cX8_as 3 (some .int) :: ((wsX8_as_r1 ++ wsX8_as_r2) ++ wsX80)
def wsX8_began : List Cond := .code yX8_began cX8_began 2 none :: ([.fieldLink RX8 197 "InningsHouseModel" "traced" "I", .fieldLink RX8 49 "InningsHouseModel" "trace" "[I"] ++ wsX80)
def wsX8_safeSize : List Cond := .code yX8_safeSize cX8_safeSize 4 (some .int) :: ([.fieldLink RX8 19 "InningsHouseModel" "chance" "[I", .methodLink RX8 200 yX8_began, .instanceMethod yX8_began, .selects RX8 yX8_began yX8_began, .initialized RX8, .code yX8_began cX8_began 2 none, .fieldLink RX8 197 "InningsHouseModel" "traced" "I", .fieldLink RX8 49 "InningsHouseModel" "trace" "[I"] ++ wsX80)
def wsX8_markOf : List Cond := .code yX8_markOf cX8_markOf 4 (some .int) :: ([.fieldLink RX8 19 "InningsHouseModel" "chance" "[I", .methodLink RX8 200 yX8_began, .instanceMethod yX8_began, .selects RX8 yX8_began yX8_began, .initialized RX8, .code yX8_began cX8_began 2 none, .fieldLink RX8 197 "InningsHouseModel" "traced" "I", .fieldLink RX8 49 "InningsHouseModel" "trace" "[I", .methodLink RX8 194 yX8_isOf, .static yX8_isOf, .code yX8_isOf cX8_isOf 2 (some .boolean), .methodLink RX8 203 yX8_safeSize, .instanceMethod yX8_safeSize, .selects RX8 yX8_safeSize yX8_safeSize, .code yX8_safeSize cX8_safeSize 4 (some .int)] ++ wsX80)
def wsX8_sizeOf : List Cond := .code yX8_sizeOf cX8_sizeOf 4 (some .int) :: ([.fieldLink RX8 19 "InningsHouseModel" "chance" "[I", .methodLink RX8 194 yX8_isOf, .static yX8_isOf, .initialized RX8, .code yX8_isOf cX8_isOf 2 (some .boolean), .methodLink RX8 203 yX8_safeSize, .instanceMethod yX8_safeSize, .selects RX8 yX8_safeSize yX8_safeSize, .code yX8_safeSize cX8_safeSize 4 (some .int), .methodLink RX8 200 yX8_began, .instanceMethod yX8_began, .selects RX8 yX8_began yX8_began, .code yX8_began cX8_began 2 none, .fieldLink RX8 197 "InningsHouseModel" "traced" "I", .fieldLink RX8 49 "InningsHouseModel" "trace" "[I", .methodLink RX8 206 yX8_markOf, .instanceMethod yX8_markOf, .selects RX8 yX8_markOf yX8_markOf, .code yX8_markOf cX8_markOf 4 (some .int)] ++ wsX80)
def wsX8_ask_r1 : List Cond := [Cond.fieldLink RX8 52 "InningsHouseModel" "thrown" "I", Cond.constant RX8 72 (-1000001), Cond.fieldLink RX8 197 "InningsHouseModel" "traced" "I", Cond.methodLink RX8 108 yX8_isStriker, Cond.instanceMethod yX8_isStriker, Cond.selects RX8 yX8_isStriker yX8_isStriker, Cond.initialized RX8, Cond.code yX8_isStriker cX8_isStriker 2 (some .boolean), Cond.fieldLink RX8 95 "InningsHouseModel" "strikers" "I", Cond.methodLink RX8 62 yX8_in, Cond.static yX8_in, Cond.code yX8_in cX8_in 6 (some .boolean), Cond.methodLink RX8 191 yX8_kindOf, Cond.instanceMethod yX8_kindOf, Cond.selects RX8 yX8_kindOf yX8_kindOf, Cond.code yX8_kindOf cX8_kindOf 3 (some .int), Cond.fieldLink RX8 19 "InningsHouseModel" "chance" "[I", Cond.methodLink RX8 209 yX8_sizeOf, Cond.instanceMethod yX8_sizeOf, Cond.selects RX8 yX8_sizeOf yX8_sizeOf, Cond.code yX8_sizeOf cX8_sizeOf 4 (some .int), Cond.methodLink RX8 194 yX8_isOf, Cond.static yX8_isOf, Cond.code yX8_isOf cX8_isOf 2 (some .boolean)]
def wsX8_ask_r2 : List Cond := [Cond.methodLink RX8 203 yX8_safeSize, Cond.instanceMethod yX8_safeSize, Cond.selects RX8 yX8_safeSize yX8_safeSize, Cond.code yX8_safeSize cX8_safeSize 4 (some .int), Cond.methodLink RX8 200 yX8_began, Cond.instanceMethod yX8_began, Cond.selects RX8 yX8_began yX8_began, Cond.code yX8_began cX8_began 2 none, Cond.fieldLink RX8 49 "InningsHouseModel" "trace" "[I", Cond.methodLink RX8 206 yX8_markOf, Cond.instanceMethod yX8_markOf, Cond.selects RX8 yX8_markOf yX8_markOf, Cond.code yX8_markOf cX8_markOf 4 (some .int)]
def wsX8_ask : List Cond := .code yX8_ask cX8_ask 3 (some .int) :: ((wsX8_ask_r1 ++ wsX8_ask_r2) ++ wsX80)
def wsX8_trace : List Cond := .code yX8_trace cX8_trace 2 (some .int) :: ([.fieldLink RX8 52 "InningsHouseModel" "thrown" "I", .fieldLink RX8 197 "InningsHouseModel" "traced" "I", .fieldLink RX8 49 "InningsHouseModel" "trace" "[I", .constant RX8 35 (-1000000), .methodLink RX8 62 yX8_in, .static yX8_in, .initialized RX8, .code yX8_in cX8_in 6 (some .boolean)] ++ wsX80)
def wsX8_count : List Cond := .code yX8_count cX8_count 4 (some .int) :: ([.fieldLink RX8 52 "InningsHouseModel" "thrown" "I", .fieldLink RX8 7 "InningsHouseModel" "lane" "[I", .fieldLink RX8 95 "InningsHouseModel" "strikers" "I", .fieldLink RX8 116 "InningsHouseModel" "places" "I", .fieldLink RX8 36 "InningsHouseModel" "team" "[I", .constant RX8 35 (-1000000), .constant RX8 72 (-1000001), .methodLink RX8 191 yX8_kindOf, .instanceMethod yX8_kindOf, .selects RX8 yX8_kindOf yX8_kindOf, .initialized RX8, .code yX8_kindOf cX8_kindOf 3 (some .int), .fieldLink RX8 19 "InningsHouseModel" "chance" "[I", .methodLink RX8 194 yX8_isOf, .static yX8_isOf, .code yX8_isOf cX8_isOf 2 (some .boolean)] ++ wsX80)
def wsX8_status : List Cond := .code yX8_status cX8_status 1 (some .int) :: ([.fieldLink RX8 52 "InningsHouseModel" "thrown" "I", .fieldLink RX8 56 "InningsHouseModel" "status" "I"] ++ wsX80)
def wsJ9_max_7cf53 : List Cond := .code yJ9_max_7cf53 cJ9_max_7cf53 2 (some .int) :: ([])
def wsJ9_min_7cf53 : List Cond := .code yJ9_min_7cf53 cJ9_min_7cf53 2 (some .int) :: ([])
def wsL_law_r1 : List Cond := [Cond.classLink RL 7 RX7, Cond.instantiable RX7 9, Cond.initialized RX7, Cond.classLink RL 10 RX8, Cond.instantiable RX8 22, Cond.initialized RX8, Cond.methodLink RL 9 yX7_init, Cond.instanceMethod yX7_init, Cond.code yX7_init cX7_init 2 none, Cond.methodLink RX7 1 objectInit, Cond.instanceMethod objectInit, Cond.code objectInit ⟨#[0xb1]⟩ 1 none, Cond.classLink RX7 9 RX5, Cond.fieldLink RX7 11 "InningsHouse" "sheets" "[LInningsHouse$Sheet;", Cond.instantiable RX5 4, Cond.initialized RX5, Cond.classLink RX7 16 RX6, Cond.fieldLink RX7 18 "InningsHouse" "strikers" "[LInningsHouse$Striker;", Cond.instantiable RX6 2, Cond.initialized RX6, Cond.fieldLink RX7 23 "InningsHouse" "strikerCount" "I", Cond.classLink RX7 27 RX1, Cond.instantiable RX1 2, Cond.initialized RX1]
def wsL_law_r2 : List Cond := [Cond.fieldLink RX7 30 "InningsHouse" "bases" "LInningsHouse$Bases;", Cond.classLink RX7 34 RX2, Cond.instantiable RX2 9, Cond.initialized RX2, Cond.fieldLink RX7 39 "InningsHouse" "lineup" "LInningsHouse$Lineup;", Cond.classLink RX7 43 RX4, Cond.instantiable RX4 8, Cond.initialized RX4, Cond.fieldLink RX7 46 "InningsHouse" "match" "LInningsHouse$Match;", Cond.classLink RX7 50 RX3, Cond.instantiable RX3 6, Cond.initialized RX3, Cond.fieldLink RX7 55 "InningsHouse" "reader" "LInningsHouse$LogReader;", Cond.classLink RX7 59 RX0, Cond.instantiable RX0 2, Cond.initialized RX0, Cond.fieldLink RX7 62 "InningsHouse" "asks" "LInningsHouse$Asks;", Cond.fieldLink RX7 66 "InningsHouse" "finding" "I", Cond.instanceMethod yX5_init, Cond.code yX5_init cX5_init 1 none, Cond.methodLink RX5 1 objectInit, Cond.arrayClass .int, Cond.fieldLink RX5 9 "InningsHouse$Sheet" "items" "[I", Cond.fieldLink RX5 13 "InningsHouse$Sheet" "missing" "Z"]
def wsL_law_r3 : List Cond := [Cond.instanceMethod yX6_init, Cond.code yX6_init cX6_init 1 none, Cond.methodLink RX6 3 objectInit, Cond.fieldLink RX6 9 "InningsHouse$Striker" "chances" "[I", Cond.methodLink RX7 29 yX1_init, Cond.instanceMethod yX1_init, Cond.code yX1_init cX1_init 3 none, Cond.methodLink RX1 3 objectInit, Cond.fieldLink RX1 9 "InningsHouse$Bases" "standings" "[I", Cond.fieldLink RX1 15 "InningsHouse$Bases" "runs" "[I", Cond.methodLink RX1 18 yX1_tell, Cond.instanceMethod yX1_tell, Cond.selects RX1 yX1_tell yX1_tell, Cond.code yX1_tell cX1_tell 6 none, Cond.constant RX1 26 (-1000000), Cond.methodLink RX1 22 yX1_canSteal, Cond.static yX1_canSteal, Cond.code yX1_canSteal cX1_canSteal 1 (some .boolean), Cond.methodLink RX1 27 yX1_menAfter, Cond.static yX1_menAfter, Cond.code yX1_menAfter cX1_menAfter 2 (some .int), Cond.methodLink RX1 34 yX1_menAfterWalk, Cond.static yX1_menAfterWalk, Cond.code yX1_menAfterWalk cX1_menAfterWalk 1 (some .int)]
def wsL_law_r4 : List Cond := [Cond.methodLink RX1 31 yX1_menHome, Cond.static yX1_menHome, Cond.code yX1_menHome cX1_menHome 2 (some .int), Cond.methodLink RX1 38 yJ6_bitCount_0f7a4, Cond.static yJ6_bitCount_0f7a4, Cond.initialized RJ6, Cond.code yJ6_bitCount_0f7a4 cJ6_bitCount_0f7a4 1 (some .int), Cond.constant RJ6 265 (1431655765), Cond.constant RJ6 266 (858993459), Cond.constant RJ6 267 (252645135), Cond.methodLink RX7 36 yX2_init, Cond.instanceMethod yX2_init, Cond.code yX2_init cX2_init 3 none, Cond.methodLink RX2 3 objectInit, Cond.fieldLink RX2 9 "InningsHouse$Lineup" "row" "[I", Cond.fieldLink RX2 15 "InningsHouse$Lineup" "kept" "[I", Cond.arrayClass .long, Cond.fieldLink RX2 18 "InningsHouse$Lineup" "means" "[J", Cond.fieldLink RX2 22 "InningsHouse$Lineup" "meansBehind" "[J", Cond.fieldLink RX2 25 "InningsHouse$Lineup" "likelies" "[I", Cond.fieldLink RX2 28 "InningsHouse$Lineup" "likeliesBehind" "[I", Cond.fieldLink RX2 31 "InningsHouse$Lineup" "bases" "LInningsHouse$Bases;", Cond.fieldLink RX2 35 "InningsHouse$Lineup" "strikers" "[LInningsHouse$Striker;", Cond.methodLink RX7 45 yX4_init]
def wsL_law_r5 : List Cond := [Cond.instanceMethod yX4_init, Cond.code yX4_init cX4_init 4 none, Cond.methodLink RX4 3 objectInit, Cond.constant RX4 9 (-1000000), Cond.fieldLink RX4 10 "InningsHouse$Match" "teams" "[I", Cond.fieldLink RX4 16 "InningsHouse$Match" "starts" "[I", Cond.fieldLink RX4 19 "InningsHouse$Match" "wins" "[I", Cond.fieldLink RX4 22 "InningsHouse$Match" "winsBehind" "[I", Cond.fieldLink RX4 25 "InningsHouse$Match" "bases" "LInningsHouse$Bases;", Cond.fieldLink RX4 29 "InningsHouse$Match" "strikers" "[LInningsHouse$Striker;", Cond.constant RX4 33 (1000000), Cond.constant RX4 34 (500000), Cond.fieldLink RX4 35 "InningsHouse$Match" "knownHalves" "I", Cond.methodLink RX7 52 yX3_init, Cond.instanceMethod yX3_init, Cond.code yX3_init cX3_init 2 none, Cond.methodLink RX3 3 objectInit, Cond.fieldLink RX3 9 "InningsHouse$LogReader" "times" "[I", Cond.fieldLink RX3 15 "InningsHouse$LogReader" "bases" "LInningsHouse$Bases;", Cond.instanceMethod yX0_init, Cond.code yX0_init cX0_init 1 none, Cond.methodLink RX0 3 objectInit, Cond.fieldLink RX0 11 "InningsHouse$Asks" "numbers" "[I", Cond.methodLink RL 12 yX8_init]
def wsL_law_r6 : List Cond := [Cond.instanceMethod yX8_init, Cond.code yX8_init cX8_init 1 none, Cond.methodLink RX8 1 objectInit, Cond.fieldLink RX8 7 "InningsHouseModel" "lane" "[I", Cond.fieldLink RX8 13 "InningsHouseModel" "many" "[I", Cond.fieldLink RX8 16 "InningsHouseModel" "item" "[I", Cond.fieldLink RX8 19 "InningsHouseModel" "chance" "[I", Cond.fieldLink RX8 22 "InningsHouseModel" "order" "[I", Cond.fieldLink RX8 25 "InningsHouseModel" "mean" "[I", Cond.constant RX8 28 (69750), Cond.fieldLink RX8 29 "InningsHouseModel" "likely" "[I", Cond.fieldLink RX8 32 "InningsHouseModel" "best" "[I", Cond.constant RX8 35 (-1000000), Cond.fieldLink RX8 36 "InningsHouseModel" "team" "[I", Cond.constant RX8 39 (37050), Cond.fieldLink RX8 40 "InningsHouseModel" "win" "[I", Cond.fieldLink RX8 43 "InningsHouseModel" "choice" "[I", Cond.fieldLink RX8 46 "InningsHouseModel" "often" "[I", Cond.fieldLink RX8 49 "InningsHouseModel" "trace" "[I", Cond.methodLink RL 13 yX7_sheet, Cond.instanceMethod yX7_sheet, Cond.selects RX7 yX7_sheet yX7_sheet, Cond.code yX7_sheet cX7_sheet 4 (some .int), Cond.constant RX7 77 (-1000001)]
def wsL_law_r7 : List Cond := [Cond.methodLink RX7 69 yX7_isSheet, Cond.static yX7_isSheet, Cond.code yX7_isSheet cX7_isSheet 1 (some .boolean), Cond.methodLink RX7 73 yX7_within, Cond.static yX7_within, Cond.code yX7_within cX7_within 3 (some .boolean), Cond.methodLink RX7 78 yX7_found, Cond.instanceMethod yX7_found, Cond.selects RX7 yX7_found yX7_found, Cond.code yX7_found cX7_found 2 (some .int), Cond.constant RX7 233 (-1000010), Cond.methodLink RX7 82 yX5_begin, Cond.instanceMethod yX5_begin, Cond.selects RX5 yX5_begin yX5_begin, Cond.code yX5_begin cX5_begin 3 none, Cond.fieldLink RX5 17 "InningsHouse$Sheet" "lane" "I", Cond.fieldLink RX5 21 "InningsHouse$Sheet" "size" "I", Cond.methodLink RX5 24 yJ7_fill_53178, Cond.static yJ7_fill_53178, Cond.initialized RJ7, Cond.code yJ7_fill_53178 cJ7_fill_53178 4 none, Cond.methodLink RX7 86 yX7_fine, Cond.instanceMethod yX7_fine, Cond.selects RX7 yX7_fine yX7_fine]
def wsL_law_r8 : List Cond := [Cond.code yX7_fine cX7_fine 2 (some .int), Cond.methodLink RL 17 yX8_sheet, Cond.instanceMethod yX8_sheet, Cond.selects RX8 yX8_sheet yX8_sheet, Cond.code yX8_sheet cX8_sheet 5 (some .int), Cond.fieldLink RX8 52 "InningsHouseModel" "thrown" "I", Cond.constantLong RX8 70 (2), Cond.constant RX8 72 (-1000001), Cond.fieldLink RX8 56 "InningsHouseModel" "status" "I", Cond.methodLink RX8 66 yX8_isSheet, Cond.static yX8_isSheet, Cond.code yX8_isSheet cX8_isSheet 1 (some .boolean), Cond.constantLong RX8 60 (7), Cond.methodLink RX8 62 yX8_in, Cond.static yX8_in, Cond.code yX8_in cX8_in 6 (some .boolean), Cond.methodLink RX8 73 yX8_found, Cond.instanceMethod yX8_found, Cond.selects RX8 yX8_found yX8_found, Cond.code yX8_found cX8_found 2 (some .int), Cond.constant RX8 59 (-1000010), Cond.methodLink RL 18 yX7_set, Cond.instanceMethod yX7_set, Cond.selects RX7 yX7_set yX7_set]
def wsL_law_r9 : List Cond := [Cond.code yX7_set cX7_set 5 (some .int), Cond.fieldLink RX7 89 "InningsHouse$Sheet" "missing" "Z", Cond.fieldLink RX7 97 "InningsHouse$Sheet" "items" "[I", Cond.methodLink RX7 93 yX5_holds, Cond.instanceMethod yX5_holds, Cond.selects RX5 yX5_holds yX5_holds, Cond.code yX5_holds cX5_holds 3 (some .boolean), Cond.methodLink RX7 101 yX5_cutToLane, Cond.instanceMethod yX5_cutToLane, Cond.selects RX5 yX5_cutToLane yX5_cutToLane, Cond.code yX5_cutToLane cX5_cutToLane 2 (some .int), Cond.methodLink RL 21 yX8_set, Cond.instanceMethod yX8_set, Cond.selects RX8 yX8_set yX8_set, Cond.code yX8_set cX8_set 4 (some .int), Cond.methodLink RL 22 yX7_copy, Cond.instanceMethod yX7_copy, Cond.selects RX7 yX7_copy yX7_copy, Cond.code yX7_copy cX7_copy 8 (some .int), Cond.fieldLink RX7 104 "InningsHouse$Sheet" "lane" "I", Cond.methodLink RX7 107 arraycopyName, Cond.native arraycopyName, Cond.static arraycopyName, Cond.initialized "java/lang/System"]
def wsL_law_r10 : List Cond := [Cond.methodLink RL 26 yX8_copy, Cond.instanceMethod yX8_copy, Cond.selects RX8 yX8_copy yX8_copy, Cond.code yX8_copy cX8_copy 9 (some .int), Cond.methodLink RL 27 yX7_drop, Cond.instanceMethod yX7_drop, Cond.selects RX7 yX7_drop yX7_drop, Cond.code yX7_drop cX7_drop 3 (some .int), Cond.fieldLink RX7 113 "InningsHouse$Sheet" "size" "I", Cond.methodLink RL 31 yX8_drop, Cond.instanceMethod yX8_drop, Cond.selects RX8 yX8_drop yX8_drop, Cond.code yX8_drop cX8_drop 2 (some .int), Cond.methodLink RL 32 yX7_behind, Cond.instanceMethod yX7_behind, Cond.selects RX7 yX7_behind yX7_behind, Cond.code yX7_behind cX7_behind 4 (some .int), Cond.methodLink RX7 116 yX1_standingAfter, Cond.instanceMethod yX1_standingAfter, Cond.selects RX1 yX1_standingAfter yX1_standingAfter, Cond.code yX1_standingAfter cX1_standingAfter 3 (some .int), Cond.methodLink RX7 120 yX1_runsOf, Cond.instanceMethod yX1_runsOf, Cond.selects RX1 yX1_runsOf yX1_runsOf]
def wsL_law_r11 : List Cond := [Cond.code yX1_runsOf cX1_runsOf 3 (some .int), Cond.methodLink RL 35 yX8_behind, Cond.instanceMethod yX8_behind, Cond.selects RX8 yX8_behind yX8_behind, Cond.code yX8_behind cX8_behind 4 (some .int), Cond.constantLong RX8 80 (23), Cond.constantLong RX8 82 (8), Cond.methodLink RX8 84 yX8_mayBe, Cond.static yX8_mayBe, Cond.code yX8_mayBe cX8_mayBe 2 (some .boolean), Cond.methodLink RX8 88 yX8_next, Cond.static yX8_next, Cond.code yX8_next cX8_next 4 (some .int), Cond.methodLink RX8 92 yX8_runs, Cond.static yX8_runs, Cond.code yX8_runs cX8_runs 3 (some .int), Cond.methodLink RX8 77 yX8_men, Cond.static yX8_men, Cond.code yX8_men cX8_men 1 (some .int), Cond.methodLink RL 36 yX7_striker, Cond.instanceMethod yX7_striker, Cond.selects RX7 yX7_striker yX7_striker, Cond.code yX7_striker cX7_striker 8 (some .int), Cond.constant RX7 126 (-1000003)]
def wsL_law_r12 : List Cond := [Cond.fieldLink RX7 127 "InningsHouse$Striker" "chances" "[I", Cond.fieldLink RX7 133 "InningsHouse$Striker" "steals" "I", Cond.methodLink RX7 123 yX7_isChance, Cond.static yX7_isChance, Cond.code yX7_isChance cX7_isChance 1 (some .boolean), Cond.methodLink RX7 130 yX6_giveTheRestToOut, Cond.instanceMethod yX6_giveTheRestToOut, Cond.selects RX6 yX6_giveTheRestToOut yX6_giveTheRestToOut, Cond.code yX6_giveTheRestToOut cX6_giveTheRestToOut 3 none, Cond.methodLink RX7 136 yX7_admitted, Cond.instanceMethod yX7_admitted, Cond.selects RX7 yX7_admitted yX7_admitted, Cond.code yX7_admitted cX7_admitted 2 (some .int), Cond.methodLink RL 40 yX8_striker, Cond.instanceMethod yX8_striker, Cond.selects RX8 yX8_striker yX8_striker, Cond.code yX8_striker cX8_striker 8 (some .int), Cond.fieldLink RX8 95 "InningsHouseModel" "strikers" "I", Cond.constant RX8 103 (-1000003), Cond.methodLink RX8 100 yX8_isChance, Cond.static yX8_isChance, Cond.code yX8_isChance cX8_isChance 1 (some .boolean), Cond.constantLong RX8 98 (1000), Cond.methodLink RX8 104 yX8_settle]
def wsL_law_r13 : List Cond := [Cond.instanceMethod yX8_settle, Cond.selects RX8 yX8_settle yX8_settle, Cond.code yX8_settle cX8_settle 2 none, Cond.methodLink RL 41 yX7_train, Cond.instanceMethod yX7_train, Cond.selects RX7 yX7_train yX7_train, Cond.code yX7_train cX7_train 6 (some .int), Cond.constant RX7 146 (-1000002), Cond.methodLink RX7 140 yX7_isStriker, Cond.instanceMethod yX7_isStriker, Cond.selects RX7 yX7_isStriker yX7_isStriker, Cond.code yX7_isStriker cX7_isStriker 2 (some .boolean), Cond.methodLink RX7 143 yX6_chanceOrSteals, Cond.instanceMethod yX6_chanceOrSteals, Cond.selects RX6 yX6_chanceOrSteals yX6_chanceOrSteals, Cond.code yX6_chanceOrSteals cX6_chanceOrSteals 2 (some .int), Cond.fieldLink RX6 15 "InningsHouse$Striker" "steals" "I", Cond.methodLink RX7 147 yX4_forget, Cond.instanceMethod yX4_forget, Cond.selects RX4 yX4_forget yX4_forget, Cond.code yX4_forget cX4_forget 1 none, Cond.methodLink RL 44 yX8_train, Cond.instanceMethod yX8_train, Cond.selects RX8 yX8_train yX8_train]
def wsL_law_r14 : List Cond := [Cond.code yX8_train cX8_train 5 (some .int), Cond.constantLong RX8 111 (6), Cond.constant RX8 113 (-1000002), Cond.methodLink RX8 108 yX8_isStriker, Cond.instanceMethod yX8_isStriker, Cond.selects RX8 yX8_isStriker yX8_isStriker, Cond.code yX8_isStriker cX8_isStriker 2 (some .boolean), Cond.methodLink RL 45 yX7_chance, Cond.instanceMethod yX7_chance, Cond.selects RX7 yX7_chance yX7_chance, Cond.code yX7_chance cX7_chance 3 (some .int), Cond.methodLink RL 49 yX8_chance, Cond.instanceMethod yX8_chance, Cond.selects RX8 yX8_chance yX8_chance, Cond.code yX8_chance cX8_chance 3 (some .int), Cond.methodLink RL 50 yX7_order, Cond.instanceMethod yX7_order, Cond.selects RX7 yX7_order yX7_order, Cond.code yX7_order cX7_order 6 (some .int), Cond.methodLink RX7 150 yX2_take, Cond.instanceMethod yX2_take, Cond.selects RX2 yX2_take yX2_take, Cond.code yX2_take cX2_take 4 none, Cond.methodLink RX2 39 arraycopyName]
def wsL_law_r15 : List Cond := [Cond.fieldLink RX2 45 "InningsHouse$Lineup" "places" "I", Cond.methodLink RL 53 yX8_order, Cond.instanceMethod yX8_order, Cond.selects RX8 yX8_order yX8_order, Cond.code yX8_order cX8_order 5 (some .int), Cond.constantLong RX8 114 (9), Cond.fieldLink RX8 116 "InningsHouseModel" "places" "I", Cond.methodLink RL 54 yX7_striking, Cond.instanceMethod yX7_striking, Cond.selects RX7 yX7_striking yX7_striking, Cond.code yX7_striking cX7_striking 2 (some .int), Cond.constant RX7 154 (-1000000), Cond.fieldLink RX7 155 "InningsHouse$Lineup" "places" "I", Cond.fieldLink RX7 161 "InningsHouse$Lineup" "row" "[I", Cond.methodLink RX7 158 yX7_isPlace, Cond.instanceMethod yX7_isPlace, Cond.selects RX7 yX7_isPlace yX7_isPlace, Cond.code yX7_isPlace cX7_isPlace 2 (some .boolean), Cond.methodLink RL 57 yX8_striking, Cond.instanceMethod yX8_striking, Cond.selects RX8 yX8_striking yX8_striking, Cond.code yX8_striking cX8_striking 2 (some .int), Cond.methodLink RL 58 yX7_mean, Cond.instanceMethod yX7_mean]
def wsL_law_r16 : List Cond := [Cond.selects RX7 yX7_mean yX7_mean, Cond.code yX7_mean cX7_mean 4 (some .int), Cond.methodLink RX7 164 yX2_meanFrom, Cond.instanceMethod yX2_meanFrom, Cond.selects RX2 yX2_meanFrom yX2_meanFrom, Cond.code yX2_meanFrom cX2_meanFrom 4 (some .int), Cond.methodLink RX2 49 yX2_fillMeans, Cond.instanceMethod yX2_fillMeans, Cond.selects RX2 yX2_fillMeans yX2_fillMeans, Cond.code yX2_fillMeans cX2_fillMeans 5 none, Cond.methodLink RX2 68 yJ7_fill_d0a16, Cond.static yJ7_fill_d0a16, Cond.code yJ7_fill_d0a16 cJ7_fill_d0a16 5 none, Cond.methodLink RX2 74 yX2_chancesAt, Cond.instanceMethod yX2_chancesAt, Cond.selects RX2 yX2_chancesAt yX2_chancesAt, Cond.code yX2_chancesAt cX2_chancesAt 2 (some (.array .int)), Cond.fieldLink RX2 90 "InningsHouse$Striker" "chances" "[I", Cond.methodLink RX2 78 yX2_fillMeansOf, Cond.instanceMethod yX2_fillMeansOf, Cond.selects RX2 yX2_fillMeansOf yX2_fillMeansOf, Cond.code yX2_fillMeansOf cX2_fillMeansOf 11 none, Cond.fieldLink RX2 82 "InningsHouse$Bases" "standings" "[I", Cond.fieldLink RX2 85 "InningsHouse$Bases" "runs" "[I"]
def wsL_law_r17 : List Cond := [Cond.constantLong RX2 62 (1000000), Cond.constantLong RX2 88 (1000), Cond.methodLink RL 61 yX8_mean, Cond.instanceMethod yX8_mean, Cond.selects RX8 yX8_mean yX8_mean, Cond.code yX8_mean cX8_mean 4 (some .int), Cond.methodLink RX8 125 yX8_isAt, Cond.instanceMethod yX8_isAt, Cond.selects RX8 yX8_isAt yX8_isAt, Cond.code yX8_isAt cX8_isAt 4 (some .boolean), Cond.constantLong RX8 121 (24), Cond.constantLong RX8 123 (30), Cond.methodLink RX8 129 yX8_findMeans, Cond.instanceMethod yX8_findMeans, Cond.selects RX8 yX8_findMeans yX8_findMeans, Cond.code yX8_findMeans cX8_findMeans 11 none, Cond.constantLong RX8 119 (1000000), Cond.methodLink RL 62 yX7_likely, Cond.instanceMethod yX7_likely, Cond.selects RX7 yX7_likely yX7_likely, Cond.code yX7_likely cX7_likely 5 (some .int), Cond.methodLink RX7 168 yX2_likelyFrom, Cond.instanceMethod yX2_likelyFrom, Cond.selects RX2 yX2_likelyFrom yX2_likelyFrom]
def wsL_law_r18 : List Cond := [Cond.code yX2_likelyFrom cX2_likelyFrom 8 (some .int), Cond.constant RX2 95 (1000000), Cond.methodLink RX2 96 yX2_beginLikelies, Cond.static yX2_beginLikelies, Cond.code yX2_beginLikelies cX2_beginLikelies 2 none, Cond.methodLink RX2 103 yJ7_fill_53178, Cond.methodLink RX2 99 yX2_fillLikeliesOf, Cond.instanceMethod yX2_fillLikeliesOf, Cond.selects RX2 yX2_fillLikeliesOf yX2_fillLikeliesOf, Cond.code yX2_fillLikeliesOf cX2_fillLikeliesOf 11 none, Cond.methodLink RX2 59 yX1_runsOf, Cond.methodLink RX2 53 yX1_standingAfter, Cond.methodLink RL 66 yX8_likely, Cond.instanceMethod yX8_likely, Cond.selects RX8 yX8_likely yX8_likely, Cond.code yX8_likely cX8_likely 18 (some .int), Cond.constant RX8 132 (1000000), Cond.methodLink RL 67 yX7_worth, Cond.instanceMethod yX7_worth, Cond.selects RX7 yX7_worth yX7_worth, Cond.code yX7_worth cX7_worth 5 (some .int), Cond.methodLink RX7 172 yX2_worthOf, Cond.instanceMethod yX2_worthOf, Cond.selects RX2 yX2_worthOf yX2_worthOf]
def wsL_law_r19 : List Cond := [Cond.code yX2_worthOf cX2_worthOf 7 (some .int), Cond.methodLink RL 70 yX8_worth, Cond.instanceMethod yX8_worth, Cond.selects RX8 yX8_worth yX8_worth, Cond.code yX8_worth cX8_worth 5 (some .int), Cond.methodLink RL 71 yX7_rate, Cond.instanceMethod yX7_rate, Cond.selects RX7 yX7_rate yX7_rate, Cond.code yX7_rate cX7_rate 1 (some .int), Cond.methodLink RX7 175 yX2_rateNow, Cond.instanceMethod yX2_rateNow, Cond.selects RX2 yX2_rateNow yX2_rateNow, Cond.code yX2_rateNow cX2_rateNow 1 (some .int), Cond.methodLink RX2 64 yX2_meanFrom, Cond.methodLink RL 75 yX8_rate, Cond.instanceMethod yX8_rate, Cond.selects RX8 yX8_rate yX8_rate, Cond.code yX8_rate cX8_rate 1 (some .int), Cond.methodLink RX8 133 yX8_rateNow, Cond.instanceMethod yX8_rateNow, Cond.selects RX8 yX8_rateNow yX8_rateNow, Cond.code yX8_rateNow cX8_rateNow 1 (some .int), Cond.methodLink RL 76 yX7_swapped, Cond.instanceMethod yX7_swapped]
def wsL_law_r20 : List Cond := [Cond.selects RX7 yX7_swapped yX7_swapped, Cond.code yX7_swapped cX7_swapped 1 (some .int), Cond.methodLink RX7 178 yX2_exchangeWhileBetter, Cond.instanceMethod yX2_exchangeWhileBetter, Cond.selects RX2 yX2_exchangeWhileBetter yX2_exchangeWhileBetter, Cond.code yX2_exchangeWhileBetter cX2_exchangeWhileBetter 2 (some .int), Cond.methodLink RX2 106 yX2_exchangeFirstBetter, Cond.instanceMethod yX2_exchangeFirstBetter, Cond.selects RX2 yX2_exchangeFirstBetter yX2_exchangeFirstBetter, Cond.code yX2_exchangeFirstBetter cX2_exchangeFirstBetter 4 (some .boolean), Cond.methodLink RX2 110 yX2_rateNow, Cond.methodLink RX2 114 yX2_exchange, Cond.instanceMethod yX2_exchange, Cond.selects RX2 yX2_exchange yX2_exchange, Cond.code yX2_exchange cX2_exchange 4 none, Cond.methodLink RL 79 yX8_swapped, Cond.instanceMethod yX8_swapped, Cond.selects RX8 yX8_swapped yX8_swapped, Cond.code yX8_swapped cX8_swapped 7 (some .int), Cond.methodLink RX8 137 yX8_exchange, Cond.instanceMethod yX8_exchange, Cond.selects RX8 yX8_exchange yX8_exchange, Cond.code yX8_exchange cX8_exchange 4 none, Cond.methodLink RL 80 yX7_best]
def wsL_law_r21 : List Cond := [Cond.instanceMethod yX7_best, Cond.selects RX7 yX7_best yX7_best, Cond.code yX7_best cX7_best 1 (some .int), Cond.methodLink RX7 181 yX2_becomeBest, Cond.instanceMethod yX2_becomeBest, Cond.selects RX2 yX2_becomeBest yX2_becomeBest, Cond.code yX2_becomeBest cX2_becomeBest 4 (some .int), Cond.methodLink RX2 117 yX2_sortRow, Cond.instanceMethod yX2_sortRow, Cond.selects RX2 yX2_sortRow yX2_sortRow, Cond.code yX2_sortRow cX2_sortRow 3 none, Cond.methodLink RX2 120 yX2_halvesWereMetExchanged, Cond.instanceMethod yX2_halvesWereMetExchanged, Cond.selects RX2 yX2_halvesWereMetExchanged yX2_halvesWereMetExchanged, Cond.code yX2_halvesWereMetExchanged cX2_halvesWereMetExchanged 3 (some .boolean), Cond.methodLink RX2 123 yX2_nextRow, Cond.instanceMethod yX2_nextRow, Cond.selects RX2 yX2_nextRow yX2_nextRow, Cond.code yX2_nextRow cX2_nextRow 5 (some .boolean), Cond.methodLink RL 83 yX8_best, Cond.instanceMethod yX8_best, Cond.selects RX8 yX8_best yX8_best, Cond.code yX8_best cX8_best 5 (some .int), Cond.methodLink RX8 141 yX8_nextOrder]
def wsL_law_r22 : List Cond := [Cond.instanceMethod yX8_nextOrder, Cond.selects RX8 yX8_nextOrder yX8_nextOrder, Cond.code yX8_nextOrder cX8_nextOrder 5 (some .boolean), Cond.methodLink RL 84 yX7_team, Cond.instanceMethod yX7_team, Cond.selects RX7 yX7_team yX7_team, Cond.code yX7_team cX7_team 4 (some .int), Cond.fieldLink RX7 184 "InningsHouse$Match" "teams" "[I", Cond.methodLink RL 87 yX8_team, Cond.instanceMethod yX8_team, Cond.selects RX8 yX8_team yX8_team, Cond.code yX8_team cX8_team 4 (some .int), Cond.methodLink RL 88 yX7_game, Cond.instanceMethod yX7_game, Cond.selects RX7 yX7_game yX7_game, Cond.code yX7_game cX7_game 6 (some .int), Cond.methodLink RX7 187 yX4_howManyTeams, Cond.instanceMethod yX4_howManyTeams, Cond.selects RX4 yX4_howManyTeams yX4_howManyTeams, Cond.code yX4_howManyTeams cX4_howManyTeams 1 (some .int), Cond.methodLink RX7 190 yX4_told, Cond.instanceMethod yX4_told, Cond.selects RX4 yX4_told yX4_told, Cond.code yX4_told cX4_told 9 (some .int)]
def wsL_law_r23 : List Cond := [Cond.methodLink RX4 39 Lib.Math.max.name, Cond.static Lib.Math.max.name, Cond.initialized "java/lang/Math", Cond.code Lib.Math.max.name Lib.Math.max.code 2 (some .int), Cond.methodLink RX4 45 yX4_learnStarts, Cond.instanceMethod yX4_learnStarts, Cond.selects RX4 yX4_learnStarts yX4_learnStarts, Cond.code yX4_learnStarts cX4_learnStarts 4 none, Cond.methodLink RX4 49 yX4_fillHalf, Cond.instanceMethod yX4_fillHalf, Cond.selects RX4 yX4_fillHalf yX4_fillHalf, Cond.code yX4_fillHalf cX4_fillHalf 7 none, Cond.fieldLink RX4 59 "InningsHouse$Match" "strikingTeam" "I", Cond.methodLink RX4 62 yX4_beginHalf, Cond.instanceMethod yX4_beginHalf, Cond.selects RX4 yX4_beginHalf yX4_beginHalf, Cond.code yX4_beginHalf cX4_beginHalf 6 none, Cond.methodLink RX4 66 yX4_winByBest, Cond.instanceMethod yX4_winByBest, Cond.selects RX4 yX4_winByBest yX4_winByBest, Cond.code yX4_winByBest cX4_winByBest 4 (some .int), Cond.methodLink RX4 69 yX4_winByStrike, Cond.instanceMethod yX4_winByStrike, Cond.selects RX4 yX4_winByStrike yX4_winByStrike]
def wsL_law_r24 : List Cond := [Cond.code yX4_winByStrike cX4_winByStrike 6 (some .int), Cond.fieldLink RX4 94 "InningsHouse$Striker" "chances" "[I", Cond.methodLink RX4 78 yX4_winAfter, Cond.instanceMethod yX4_winAfter, Cond.selects RX4 yX4_winAfter yX4_winAfter, Cond.code yX4_winAfter cX4_winAfter 6 (some .int), Cond.fieldLink RX4 102 "InningsHouse$Bases" "runs" "[I", Cond.fieldLink RX4 105 "InningsHouse$Bases" "standings" "[I", Cond.methodLink RX4 72 yX1_someoneIsOn, Cond.static yX1_someoneIsOn, Cond.code yX1_someoneIsOn cX1_someoneIsOn 1 (some .boolean), Cond.methodLink RX4 82 yX4_betterOf, Cond.instanceMethod yX4_betterOf, Cond.selects RX4 yX4_betterOf yX4_betterOf, Cond.code yX4_betterOf cX4_betterOf 3 (some .int), Cond.methodLink RX4 91 Lib.Math.min.name, Cond.static Lib.Math.min.name, Cond.code Lib.Math.min.name Lib.Math.min.code 2 (some .int), Cond.methodLink RX4 85 yX1_canSteal, Cond.methodLink RX4 88 yX4_winBySteal, Cond.instanceMethod yX4_winBySteal, Cond.selects RX4 yX4_winBySteal yX4_winBySteal, Cond.code yX4_winBySteal cX4_winBySteal 5 (some .int), Cond.fieldLink RX4 99 "InningsHouse$Striker" "steals" "I"]
def wsL_law_r25 : List Cond := [Cond.methodLink RX4 53 yX4_choiceAt, Cond.instanceMethod yX4_choiceAt, Cond.selects RX4 yX4_choiceAt yX4_choiceAt, Cond.code yX4_choiceAt cX4_choiceAt 5 (some .int), Cond.methodLink RX4 56 yX4_walkIsBetter, Cond.instanceMethod yX4_walkIsBetter, Cond.selects RX4 yX4_walkIsBetter yX4_walkIsBetter, Cond.code yX4_walkIsBetter cX4_walkIsBetter 6 (some .int), Cond.methodLink RL 91 yX8_game, Cond.instanceMethod yX8_game, Cond.selects RX8 yX8_game yX8_game, Cond.code yX8_game cX8_game 10 (some .int), Cond.constantLong RX8 158 (5), Cond.constantLong RX8 160 (-9), Cond.constantLong RX8 162 (12), Cond.methodLink RX8 164 yX8_play, Cond.instanceMethod yX8_play, Cond.selects RX8 yX8_play yX8_play, Cond.code yX8_play cX8_play 11 none, Cond.constant RX8 149 (500000), Cond.methodLink RX8 145 yX8_placeOf, Cond.static yX8_placeOf, Cond.code yX8_placeOf cX8_placeOf 4 (some .int), Cond.methodLink RX8 150 yX8_winBehind]
def wsL_law_r26 : List Cond := [Cond.instanceMethod yX8_winBehind, Cond.selects RX8 yX8_winBehind yX8_winBehind, Cond.code yX8_winBehind cX8_winBehind 8 (some .int), Cond.methodLink RX8 154 yX8_take, Cond.instanceMethod yX8_take, Cond.selects RX8 yX8_take yX8_take, Cond.code yX8_take cX8_take 5 none, Cond.methodLink RL 92 yX7_log, Cond.instanceMethod yX7_log, Cond.selects RX7 yX7_log yX7_log, Cond.code yX7_log cX7_log 6 (some .int), Cond.methodLink RX7 194 yX7_findingOfLog, Cond.instanceMethod yX7_findingOfLog, Cond.selects RX7 yX7_findingOfLog yX7_findingOfLog, Cond.code yX7_findingOfLog cX7_findingOfLog 5 (some .int), Cond.methodLink RX7 197 yX3_read, Cond.instanceMethod yX3_read, Cond.selects RX3 yX3_read yX3_read, Cond.code yX3_read cX3_read 6 none, Cond.constant RX3 25 (-1000000), Cond.fieldLink RX3 26 "InningsHouse$LogReader" "clash" "I", Cond.fieldLink RX3 30 "InningsHouse$LogReader" "runs" "I", Cond.fieldLink RX3 33 "InningsHouse$LogReader" "halves" "I", Cond.fieldLink RX3 36 "InningsHouse$LogReader" "standing" "I"]
def wsL_law_r27 : List Cond := [Cond.methodLink RX3 19 yJ7_fill_53178, Cond.methodLink RX3 39 yX3_fits, Cond.instanceMethod yX3_fits, Cond.selects RX3 yX3_fits yX3_fits, Cond.code yX3_fits cX3_fits 5 (some .boolean), Cond.methodLink RX3 46 yX1_standingAfter, Cond.methodLink RX3 52 yX1_runsOf, Cond.methodLink RX7 200 yX3_told, Cond.instanceMethod yX3_told, Cond.selects RX3 yX3_told yX3_told, Cond.code yX3_told cX3_told 2 (some .int), Cond.constant RX3 55 (-1000001), Cond.methodLink RL 95 yX8_log, Cond.instanceMethod yX8_log, Cond.selects RX8 yX8_log yX8_log, Cond.code yX8_log cX8_log 6 (some .int), Cond.constantLong RX8 179 (20), Cond.constantLong RX8 181 (3), Cond.constantLong RX8 183 (10), Cond.constantLong RX8 185 (18), Cond.fieldLink RX8 167 "InningsHouseModel" "clash" "I", Cond.fieldLink RX8 170 "InningsHouseModel" "allRuns" "I", Cond.fieldLink RX8 173 "InningsHouseModel" "overs" "I", Cond.fieldLink RX8 176 "InningsHouseModel" "last" "I"]
def wsL_law_r28 : List Cond := [Cond.methodLink RX8 187 yX8_readLog, Cond.instanceMethod yX8_readLog, Cond.selects RX8 yX8_readLog yX8_readLog, Cond.code yX8_readLog cX8_readLog 9 (some .int), Cond.methodLink RL 96 yX7_learn, Cond.instanceMethod yX7_learn, Cond.selects RX7 yX7_learn yX7_learn, Cond.code yX7_learn cX7_learn 9 (some .int), Cond.fieldLink RX7 205 "InningsHouse$LogReader" "times" "[I", Cond.methodLink RX7 202 yX3_howManyStrikes, Cond.instanceMethod yX3_howManyStrikes, Cond.selects RX3 yX3_howManyStrikes yX3_howManyStrikes, Cond.code yX3_howManyStrikes cX3_howManyStrikes 3 (some .int), Cond.methodLink RL 99 yX8_learn, Cond.instanceMethod yX8_learn, Cond.selects RX8 yX8_learn yX8_learn, Cond.code yX8_learn cX8_learn 9 (some .int), Cond.methodLink RL 100 yX7_kind, Cond.instanceMethod yX7_kind, Cond.selects RX7 yX7_kind yX7_kind, Cond.code yX7_kind cX7_kind 2 (some .int), Cond.methodLink RX7 208 yX6_toldKind, Cond.instanceMethod yX6_toldKind, Cond.selects RX6 yX6_toldKind yX6_toldKind]
def wsL_law_r29 : List Cond := [Cond.code yX6_toldKind cX6_toldKind 1 (some .int), Cond.methodLink RL 103 yX8_kind, Cond.instanceMethod yX8_kind, Cond.selects RX8 yX8_kind yX8_kind, Cond.code yX8_kind cX8_kind 2 (some .int), Cond.methodLink RX8 191 yX8_kindOf, Cond.instanceMethod yX8_kindOf, Cond.selects RX8 yX8_kindOf yX8_kindOf, Cond.code yX8_kindOf cX8_kindOf 3 (some .int), Cond.methodLink RL 104 yX7_as, Cond.instanceMethod yX7_as, Cond.selects RX7 yX7_as yX7_as, Cond.code yX7_as cX7_as 3 (some .int), Cond.methodLink RX7 211 yX6_isOne, Cond.instanceMethod yX6_isOne, Cond.selects RX6 yX6_isOne yX6_isOne, Cond.code yX6_isOne cX6_isOne 3 (some .boolean), Cond.methodLink RX6 19 yX6_toldKind, Cond.methodLink RL 107 yX8_as, Cond.instanceMethod yX8_as, Cond.selects RX8 yX8_as yX8_as, Cond.code yX8_as cX8_as 3 (some .int), Cond.methodLink RX8 194 yX8_isOf, Cond.static yX8_isOf]
def wsL_law_r30 : List Cond := [Cond.code yX8_isOf cX8_isOf 2 (some .boolean), Cond.methodLink RL 108 yX7_ask, Cond.instanceMethod yX7_ask, Cond.selects RX7 yX7_ask yX7_ask, Cond.code yX7_ask cX7_ask 3 (some .int), Cond.fieldLink RX7 214 "InningsHouse$Asks" "left" "I", Cond.instanceMethod yX0_sizeOf, Cond.selects RX0 yX0_sizeOf yX0_sizeOf, Cond.code yX0_sizeOf cX0_sizeOf 3 (some .int), Cond.methodLink RX0 15 yX6_toldKind, Cond.methodLink RX0 21 yX0_sizeOfStrong, Cond.instanceMethod yX0_sizeOfStrong, Cond.selects RX0 yX0_sizeOfStrong yX0_sizeOfStrong, Cond.code yX0_sizeOfStrong cX0_sizeOfStrong 2 (some .int), Cond.methodLink RX0 47 yX0_leave, Cond.instanceMethod yX0_leave, Cond.selects RX0 yX0_leave yX0_leave, Cond.code yX0_leave cX0_leave 2 none, Cond.fieldLink RX0 64 "InningsHouse$Asks" "left" "I", Cond.methodLink RX0 25 yX0_sizeOfSafe, Cond.instanceMethod yX0_sizeOfSafe, Cond.selects RX0 yX0_sizeOfSafe yX0_sizeOfSafe, Cond.code yX0_sizeOfSafe cX0_sizeOfSafe 2 (some .int), Cond.fieldLink RX0 55 "InningsHouse$Striker" "chances" "[I"]
def wsL_law_r31 : List Cond := [Cond.methodLink RX0 32 yX0_sizeLent, Cond.instanceMethod yX0_sizeLent, Cond.selects RX0 yX0_sizeLent yX0_sizeLent, Cond.code yX0_sizeLent cX0_sizeLent 2 (some .int), Cond.fieldLink RX0 51 "InningsHouse$Striker" "steals" "I", Cond.methodLink RX0 28 yX0_sizeOfQuick, Cond.instanceMethod yX0_sizeOfQuick, Cond.selects RX0 yX0_sizeOfQuick yX0_sizeOfQuick, Cond.code yX0_markOf cX0_markOf 3 (some .int), Cond.methodLink RX0 35 yX0_markOfStrong, Cond.instanceMethod yX0_markOfStrong, Cond.selects RX0 yX0_markOfStrong yX0_markOfStrong, Cond.methodLink RX0 38 yX0_markOfSafe, Cond.instanceMethod yX0_markOfSafe, Cond.selects RX0 yX0_markOfSafe yX0_markOfSafe, Cond.code yX0_markOfSafe cX0_markOfSafe 2 (some .int), Cond.methodLink RX0 44 yX0_markLent, Cond.instanceMethod yX0_markLent, Cond.selects RX0 yX0_markLent yX0_markLent, Cond.code yX0_markLent cX0_markLent 2 (some .int), Cond.methodLink RX0 41 yX0_markOfQuick, Cond.instanceMethod yX0_markOfQuick, Cond.selects RX0 yX0_markOfQuick yX0_markOfQuick, Cond.code yX0_markOfQuick cX0_markOfQuick 2 (some .int)]
def wsL_law_r32 : List Cond := [Cond.code yX0_markOfStrong cX0_markOfStrong 4 (some .int), Cond.methodLink RX0 61 yX0_sizeOf, Cond.code yX0_sizeOfQuick cX0_sizeOfQuick 4 (some .int), Cond.methodLink RX0 58 yX0_markOf, Cond.instanceMethod yX0_markOf, Cond.selects RX0 yX0_markOf yX0_markOf, Cond.methodLink RL 111 yX8_ask, Cond.instanceMethod yX8_ask, Cond.selects RX8 yX8_ask yX8_ask, Cond.code yX8_ask cX8_ask 3 (some .int), Cond.fieldLink RX8 197 "InningsHouseModel" "traced" "I", Cond.methodLink RX8 209 yX8_sizeOf, Cond.instanceMethod yX8_sizeOf, Cond.selects RX8 yX8_sizeOf yX8_sizeOf, Cond.code yX8_sizeOf cX8_sizeOf 4 (some .int), Cond.methodLink RX8 203 yX8_safeSize, Cond.instanceMethod yX8_safeSize, Cond.selects RX8 yX8_safeSize yX8_safeSize, Cond.code yX8_safeSize cX8_safeSize 4 (some .int), Cond.methodLink RX8 200 yX8_began, Cond.instanceMethod yX8_began, Cond.selects RX8 yX8_began yX8_began, Cond.code yX8_began cX8_began 2 none, Cond.methodLink RX8 206 yX8_markOf]
def wsL_law_r33 : List Cond := [Cond.instanceMethod yX8_markOf, Cond.selects RX8 yX8_markOf yX8_markOf, Cond.code yX8_markOf cX8_markOf 4 (some .int), Cond.methodLink RL 112 yX7_trace, Cond.instanceMethod yX7_trace, Cond.selects RX7 yX7_trace yX7_trace, Cond.code yX7_trace cX7_trace 2 (some .int), Cond.fieldLink RX7 224 "InningsHouse$Asks" "numbers" "[I", Cond.methodLink RL 115 yX8_trace, Cond.instanceMethod yX8_trace, Cond.selects RX8 yX8_trace yX8_trace, Cond.code yX8_trace cX8_trace 2 (some .int), Cond.methodLink RL 116 yX7_count, Cond.instanceMethod yX7_count, Cond.selects RX7 yX7_count yX7_count, Cond.code yX7_count cX7_count 2 (some .int), Cond.methodLink RX7 227 yX7_howManySheets, Cond.instanceMethod yX7_howManySheets, Cond.selects RX7 yX7_howManySheets yX7_howManySheets, Cond.code yX7_howManySheets cX7_howManySheets 3 (some .int), Cond.methodLink RX7 230 yX7_howManyStrikers, Cond.instanceMethod yX7_howManyStrikers, Cond.selects RX7 yX7_howManyStrikers yX7_howManyStrikers, Cond.code yX7_howManyStrikers cX7_howManyStrikers 4 (some .int)]
def wsL_law_r34 : List Cond := [Cond.methodLink RL 119 yX8_count, Cond.instanceMethod yX8_count, Cond.selects RX8 yX8_count yX8_count, Cond.code yX8_count cX8_count 4 (some .int), Cond.methodLink RL 120 yX7_status, Cond.instanceMethod yX7_status, Cond.selects RX7 yX7_status yX7_status, Cond.code yX7_status cX7_status 1 (some .int), Cond.methodLink RL 123 yX8_status, Cond.instanceMethod yX8_status, Cond.selects RX8 yX8_status yX8_status, Cond.code yX8_status cX8_status 1 (some .int)]
def wsL_law : List Cond := (wsL_law_r1 ++ (wsL_law_r2 ++ (wsL_law_r3 ++ (wsL_law_r4 ++ (wsL_law_r5 ++ (wsL_law_r6 ++ (wsL_law_r7 ++ (wsL_law_r8 ++ (wsL_law_r9 ++ (wsL_law_r10 ++ (wsL_law_r11 ++ (wsL_law_r12 ++ (wsL_law_r13 ++ (wsL_law_r14 ++ (wsL_law_r15 ++ (wsL_law_r16 ++ (wsL_law_r17 ++ (wsL_law_r18 ++ (wsL_law_r19 ++ (wsL_law_r20 ++ (wsL_law_r21 ++ (wsL_law_r22 ++ (wsL_law_r23 ++ (wsL_law_r24 ++ (wsL_law_r25 ++ (wsL_law_r26 ++ (wsL_law_r27 ++ (wsL_law_r28 ++ (wsL_law_r29 ++ (wsL_law_r30 ++ (wsL_law_r31 ++ (wsL_law_r32 ++ (wsL_law_r33 ++ wsL_law_r34))))))))))))))))))))))))))))))))) ++ wsX70 ++ wsX80 ++ wsX50 ++ wsX60 ++ wsX10 ++ wsX20 ++ wsX40 ++ wsX30 ++ wsX00 ++ ([] : List Cond)
abbrev vwCl : List vw_C := [(RX0, TX0, 2), (RX1, TX1, 2), (RX2, TX2, 9), (RX3, TX3, 6), (RX4, TX4, 8), (RX5, TX5, 4), (RX6, TX6, 2), (RX7, TX7, 9), (RX8, TX8, 22)]
end
section
theorem dX0_init_0 : decode cX0_init 0 = .ok (.aload_n 0, 1) := by decide +kernel
theorem dX0_init_1 : decode cX0_init 1 = .ok (.invokespecial 3, 3) := by decide +kernel
theorem dX0_init_4 : decode cX0_init 4 = .ok (.aload_n 0, 1) := by decide +kernel
theorem dX0_init_5 : decode cX0_init 5 = .ok (.bipush 16, 2) := by decide +kernel
theorem dX0_init_7 : decode cX0_init 7 = .ok (.newarray .int, 2) := by decide +kernel
theorem dX0_init_9 : decode cX0_init 9 = .ok (.putfield 11, 3) := by decide +kernel
theorem dX0_init_12 : decode cX0_init 12 = .ok (.return_, 1) := by decide +kernel
set_option maxRecDepth 20000 in
theorem ggX0_sizeOf_X6_toldKind : GoodIn wsX0_sizeOf wsX6_toldKind := goodIn_r _ [5, 6, 7, 56, 57] (by decide +kernel) (by decide +kernel)
set_option maxRecDepth 20000 in
theorem gX0_sizeOf_X6_toldKind : GoodIn wsX0_sizeOf (wsV RX0 15 RX6 yX6_toldKind wsX6_toldKind) := goodIn_app (goodIn_of _ (by decide +kernel)) ggX0_sizeOf_X6_toldKind
set_option maxRecDepth 20000 in
theorem ggX0_sizeOf_X0_sizeOfStrong : GoodIn wsX0_sizeOf wsX0_sizeOfStrong := goodIn_r _ [12, 13, 14, 15, 11, 16, 17, 18, 19, 20, 21, 22, 23, 24, 25, 26, 27, 28, 58, 59, 56, 57] (by decide +kernel) (by decide +kernel)
set_option maxRecDepth 20000 in
theorem gX0_sizeOf_X0_sizeOfStrong : GoodIn wsX0_sizeOf (wsV RX0 21 RX0 yX0_sizeOfStrong wsX0_sizeOfStrong) := goodIn_app (goodIn_of _ (by decide +kernel)) ggX0_sizeOf_X0_sizeOfStrong
set_option maxRecDepth 20000 in
theorem ggX0_sizeOf_X0_sizeOfSafe : GoodIn wsX0_sizeOf wsX0_sizeOfSafe := goodIn_r _ [22, 23, 13, 14, 15, 11, 16, 17, 18, 24, 25, 26, 27, 28, 56, 57, 58, 59] (by decide +kernel) (by decide +kernel)
set_option maxRecDepth 20000 in
theorem gX0_sizeOf_X0_sizeOfSafe : GoodIn wsX0_sizeOf (wsV RX0 25 RX0 yX0_sizeOfSafe wsX0_sizeOfSafe) := goodIn_app (goodIn_of _ (by decide +kernel)) ggX0_sizeOf_X0_sizeOfSafe
set_option maxRecDepth 20000 in
theorem ggX0_sizeOf_X0_sizeOfQuick : GoodIn wsX0_sizeOf wsX0_sizeOfQuick := goodIn_r _ [52, 13, 14, 15, 11, 16, 17, 18, 24, 25, 26, 27, 28, 53, 54, 55, 32, 1, 2, 3, 4, 5, 6, 7, 33, 34, 35, 36, 37, 38, 39, 40, 41, 42, 43, 23, 44, 45, 46, 47, 48, 49, 50, 51, 0, 8, 9, 10, 12, 19, 20, 21, 22, 29, 30, 31, 56, 57, 58, 59] (by decide +kernel) (by decide +kernel)
set_option maxRecDepth 20000 in
theorem gX0_sizeOf_X0_sizeOfQuick : GoodIn wsX0_sizeOf (wsV RX0 28 RX0 yX0_sizeOfQuick wsX0_sizeOfQuick) := goodIn_app (goodIn_of _ (by decide +kernel)) ggX0_sizeOf_X0_sizeOfQuick
set_option maxRecDepth 20000 in
theorem ggX0_sizeOf_X0_sizeLent : GoodIn wsX0_sizeOf wsX0_sizeLent := goodIn_r _ [27, 28, 13, 14, 15, 11, 16, 17, 18, 56, 57, 58, 59] (by decide +kernel) (by decide +kernel)
set_option maxRecDepth 20000 in
theorem gX0_sizeOf_X0_sizeLent : GoodIn wsX0_sizeOf (wsV RX0 32 RX0 yX0_sizeLent wsX0_sizeLent) := goodIn_app (goodIn_of _ (by decide +kernel)) ggX0_sizeOf_X0_sizeLent
theorem dX0_sizeOf_0 : decode cX0_sizeOf 0 = .ok (.iload_n 2, 1) := by decide +kernel
theorem dX0_sizeOf_1 : decode cX0_sizeOf 1 = .ok (.iconst 4, 1) := by decide +kernel
theorem dX0_sizeOf_2 : decode cX0_sizeOf 2 = .ok (.if_icmp .le 5, 3) := by decide +kernel
theorem dX0_sizeOf_5 : decode cX0_sizeOf 5 = .ok (.iconst 0, 1) := by decide +kernel
theorem dX0_sizeOf_6 : decode cX0_sizeOf 6 = .ok (.ireturn, 1) := by decide +kernel
theorem dX0_sizeOf_7 : decode cX0_sizeOf 7 = .ok (.aload_n 1, 1) := by decide +kernel
theorem dX0_sizeOf_8 : decode cX0_sizeOf 8 = .ok (.invokevirtual 15, 3) := by decide +kernel
theorem dX0_sizeOf_11 : decode cX0_sizeOf 11 = .ok (.tableswitch 44 1 3 #[31, 25, 37], 25) := by decide +kernel
theorem dX0_sizeOf_36 : decode cX0_sizeOf 36 = .ok (.aload_n 0, 1) := by decide +kernel
theorem dX0_sizeOf_37 : decode cX0_sizeOf 37 = .ok (.aload_n 1, 1) := by decide +kernel
theorem dX0_sizeOf_38 : decode cX0_sizeOf 38 = .ok (.invokevirtual 21, 3) := by decide +kernel
theorem dX0_sizeOf_41 : decode cX0_sizeOf 41 = .ok (.ireturn, 1) := by decide +kernel
theorem dX0_sizeOf_42 : decode cX0_sizeOf 42 = .ok (.aload_n 0, 1) := by decide +kernel
theorem dX0_sizeOf_43 : decode cX0_sizeOf 43 = .ok (.aload_n 1, 1) := by decide +kernel
theorem dX0_sizeOf_44 : decode cX0_sizeOf 44 = .ok (.invokevirtual 25, 3) := by decide +kernel
theorem dX0_sizeOf_47 : decode cX0_sizeOf 47 = .ok (.ireturn, 1) := by decide +kernel
theorem dX0_sizeOf_48 : decode cX0_sizeOf 48 = .ok (.aload_n 0, 1) := by decide +kernel
theorem dX0_sizeOf_49 : decode cX0_sizeOf 49 = .ok (.aload_n 1, 1) := by decide +kernel
theorem dX0_sizeOf_50 : decode cX0_sizeOf 50 = .ok (.iload_n 2, 1) := by decide +kernel
theorem dX0_sizeOf_51 : decode cX0_sizeOf 51 = .ok (.invokevirtual 28, 3) := by decide +kernel
theorem dX0_sizeOf_54 : decode cX0_sizeOf 54 = .ok (.ireturn, 1) := by decide +kernel
theorem dX0_sizeOf_55 : decode cX0_sizeOf 55 = .ok (.aload_n 0, 1) := by decide +kernel
theorem dX0_sizeOf_56 : decode cX0_sizeOf 56 = .ok (.aload_n 1, 1) := by decide +kernel
theorem dX0_sizeOf_57 : decode cX0_sizeOf 57 = .ok (.invokevirtual 32, 3) := by decide +kernel
theorem dX0_sizeOf_60 : decode cX0_sizeOf 60 = .ok (.ireturn, 1) := by decide +kernel
set_option maxRecDepth 20000 in
theorem ggX0_markOf_X6_toldKind : GoodIn wsX0_markOf wsX6_toldKind := goodIn_r _ [5, 6, 7, 56, 57] (by decide +kernel) (by decide +kernel)
set_option maxRecDepth 20000 in
theorem gX0_markOf_X6_toldKind : GoodIn wsX0_markOf (wsV RX0 15 RX6 yX6_toldKind wsX6_toldKind) := goodIn_app (goodIn_of _ (by decide +kernel)) ggX0_markOf_X6_toldKind
set_option maxRecDepth 20000 in
theorem ggX0_markOf_X0_markOfStrong : GoodIn wsX0_markOf wsX0_markOfStrong := goodIn_r _ [31, 16, 17, 18, 11, 19, 20, 21, 12, 13, 14, 15, 22, 23, 24, 25, 26, 32, 33, 34, 0, 1, 2, 3, 4, 5, 6, 7, 8, 9, 10, 27, 28, 29, 30, 35, 36, 37, 38, 39, 40, 41, 42, 43, 44, 45, 46, 47, 48, 49, 50, 51, 52, 53, 54, 55, 56, 57, 58, 59] (by decide +kernel) (by decide +kernel)
set_option maxRecDepth 20000 in
theorem gX0_markOf_X0_markOfStrong : GoodIn wsX0_markOf (wsV RX0 35 RX0 yX0_markOfStrong wsX0_markOfStrong) := goodIn_app (goodIn_of _ (by decide +kernel)) ggX0_markOf_X0_markOfStrong
set_option maxRecDepth 20000 in
theorem ggX0_markOf_X0_markOfSafe : GoodIn wsX0_markOf wsX0_markOfSafe := goodIn_r _ [15, 16, 17, 18, 11, 19, 20, 21, 22, 23, 24, 25, 26, 58, 59, 56, 57] (by decide +kernel) (by decide +kernel)
set_option maxRecDepth 20000 in
theorem gX0_markOf_X0_markOfSafe : GoodIn wsX0_markOf (wsV RX0 38 RX0 yX0_markOfSafe wsX0_markOfSafe) := goodIn_app (goodIn_of _ (by decide +kernel)) ggX0_markOf_X0_markOfSafe
set_option maxRecDepth 20000 in
theorem ggX0_markOf_X0_markOfQuick : GoodIn wsX0_markOf wsX0_markOfQuick := goodIn_r _ [30, 16, 17, 18, 11, 19, 20, 21, 22, 23, 24, 25, 26, 58, 59, 56, 57] (by decide +kernel) (by decide +kernel)
set_option maxRecDepth 20000 in
theorem gX0_markOf_X0_markOfQuick : GoodIn wsX0_markOf (wsV RX0 41 RX0 yX0_markOfQuick wsX0_markOfQuick) := goodIn_app (goodIn_of _ (by decide +kernel)) ggX0_markOf_X0_markOfQuick
set_option maxRecDepth 20000 in
theorem ggX0_markOf_X0_markLent : GoodIn wsX0_markOf wsX0_markLent := goodIn_r _ [25, 26, 16, 17, 18, 11, 19, 20, 21, 56, 57, 58, 59] (by decide +kernel) (by decide +kernel)
set_option maxRecDepth 20000 in
theorem gX0_markOf_X0_markLent : GoodIn wsX0_markOf (wsV RX0 44 RX0 yX0_markLent wsX0_markLent) := goodIn_app (goodIn_of _ (by decide +kernel)) ggX0_markOf_X0_markLent
theorem dX0_markOf_0 : decode cX0_markOf 0 = .ok (.iload_n 2, 1) := by decide +kernel
theorem dX0_markOf_1 : decode cX0_markOf 1 = .ok (.iconst 4, 1) := by decide +kernel
theorem dX0_markOf_2 : decode cX0_markOf 2 = .ok (.if_icmp .le 5, 3) := by decide +kernel
theorem dX0_markOf_5 : decode cX0_markOf 5 = .ok (.iconst 0, 1) := by decide +kernel
theorem dX0_markOf_6 : decode cX0_markOf 6 = .ok (.ireturn, 1) := by decide +kernel
theorem dX0_markOf_7 : decode cX0_markOf 7 = .ok (.aload_n 1, 1) := by decide +kernel
theorem dX0_markOf_8 : decode cX0_markOf 8 = .ok (.invokevirtual 15, 3) := by decide +kernel
theorem dX0_markOf_11 : decode cX0_markOf 11 = .ok (.tableswitch 44 1 3 #[32, 25, 38], 25) := by decide +kernel
theorem dX0_markOf_36 : decode cX0_markOf 36 = .ok (.aload_n 0, 1) := by decide +kernel
theorem dX0_markOf_37 : decode cX0_markOf 37 = .ok (.aload_n 1, 1) := by decide +kernel
theorem dX0_markOf_38 : decode cX0_markOf 38 = .ok (.iload_n 2, 1) := by decide +kernel
theorem dX0_markOf_39 : decode cX0_markOf 39 = .ok (.invokevirtual 35, 3) := by decide +kernel
theorem dX0_markOf_42 : decode cX0_markOf 42 = .ok (.ireturn, 1) := by decide +kernel
theorem dX0_markOf_43 : decode cX0_markOf 43 = .ok (.aload_n 0, 1) := by decide +kernel
theorem dX0_markOf_44 : decode cX0_markOf 44 = .ok (.aload_n 1, 1) := by decide +kernel
theorem dX0_markOf_45 : decode cX0_markOf 45 = .ok (.invokevirtual 38, 3) := by decide +kernel
theorem dX0_markOf_48 : decode cX0_markOf 48 = .ok (.ireturn, 1) := by decide +kernel
theorem dX0_markOf_49 : decode cX0_markOf 49 = .ok (.aload_n 0, 1) := by decide +kernel
theorem dX0_markOf_50 : decode cX0_markOf 50 = .ok (.aload_n 1, 1) := by decide +kernel
theorem dX0_markOf_51 : decode cX0_markOf 51 = .ok (.invokevirtual 41, 3) := by decide +kernel
theorem dX0_markOf_54 : decode cX0_markOf 54 = .ok (.ireturn, 1) := by decide +kernel
theorem dX0_markOf_55 : decode cX0_markOf 55 = .ok (.aload_n 0, 1) := by decide +kernel
theorem dX0_markOf_56 : decode cX0_markOf 56 = .ok (.aload_n 1, 1) := by decide +kernel
theorem dX0_markOf_57 : decode cX0_markOf 57 = .ok (.invokevirtual 44, 3) := by decide +kernel
theorem dX0_markOf_60 : decode cX0_markOf 60 = .ok (.ireturn, 1) := by decide +kernel
set_option maxRecDepth 20000 in
theorem ggX0_sizeLent_X0_leave : GoodIn wsX0_sizeLent wsX0_leave := goodIn_r _ [6, 7, 8, 11, 12] (by decide +kernel) (by decide +kernel)
set_option maxRecDepth 20000 in
theorem gX0_sizeLent_X0_leave : GoodIn wsX0_sizeLent (wsV RX0 47 RX0 yX0_leave wsX0_leave) := goodIn_app (goodIn_of _ (by decide +kernel)) ggX0_sizeLent_X0_leave
theorem dX0_sizeLent_0 : decode cX0_sizeLent 0 = .ok (.aload_n 0, 1) := by decide +kernel
theorem dX0_sizeLent_1 : decode cX0_sizeLent 1 = .ok (.bipush 10, 2) := by decide +kernel
theorem dX0_sizeLent_3 : decode cX0_sizeLent 3 = .ok (.invokevirtual 47, 3) := by decide +kernel
theorem dX0_sizeLent_6 : decode cX0_sizeLent 6 = .ok (.aload_n 1, 1) := by decide +kernel
theorem dX0_sizeLent_7 : decode cX0_sizeLent 7 = .ok (.getfield 51, 3) := by decide +kernel
theorem dX0_sizeLent_10 : decode cX0_sizeLent 10 = .ok (.ireturn, 1) := by decide +kernel
set_option maxRecDepth 20000 in
theorem ggX0_sizeOfSafe_X0_leave : GoodIn wsX0_sizeOfSafe wsX0_leave := goodIn_r _ [6, 7, 8, 16, 17] (by decide +kernel) (by decide +kernel)
set_option maxRecDepth 20000 in
theorem gX0_sizeOfSafe_X0_leave : GoodIn wsX0_sizeOfSafe (wsV RX0 47 RX0 yX0_leave wsX0_leave) := goodIn_app (goodIn_of _ (by decide +kernel)) ggX0_sizeOfSafe_X0_leave
set_option maxRecDepth 20000 in
theorem ggX0_sizeOfSafe_X0_sizeLent : GoodIn wsX0_sizeOfSafe wsX0_sizeLent := goodIn_r _ [12, 13, 2, 3, 4, 5, 6, 7, 8, 14, 15, 16, 17] (by decide +kernel) (by decide +kernel)
set_option maxRecDepth 20000 in
theorem gX0_sizeOfSafe_X0_sizeLent : GoodIn wsX0_sizeOfSafe (wsV RX0 32 RX0 yX0_sizeLent wsX0_sizeLent) := goodIn_app (goodIn_of _ (by decide +kernel)) ggX0_sizeOfSafe_X0_sizeLent
theorem dX0_sizeOfSafe_0 : decode cX0_sizeOfSafe 0 = .ok (.aload_n 0, 1) := by decide +kernel
theorem dX0_sizeOfSafe_1 : decode cX0_sizeOfSafe 1 = .ok (.bipush 11, 2) := by decide +kernel
theorem dX0_sizeOfSafe_3 : decode cX0_sizeOfSafe 3 = .ok (.invokevirtual 47, 3) := by decide +kernel
theorem dX0_sizeOfSafe_6 : decode cX0_sizeOfSafe 6 = .ok (.aload_n 0, 1) := by decide +kernel
theorem dX0_sizeOfSafe_7 : decode cX0_sizeOfSafe 7 = .ok (.aload_n 1, 1) := by decide +kernel
theorem dX0_sizeOfSafe_8 : decode cX0_sizeOfSafe 8 = .ok (.invokevirtual 32, 3) := by decide +kernel
theorem dX0_sizeOfSafe_11 : decode cX0_sizeOfSafe 11 = .ok (.sipush 1000, 3) := by decide +kernel
theorem dX0_sizeOfSafe_14 : decode cX0_sizeOfSafe 14 = .ok (.iadd, 1) := by decide +kernel
theorem dX0_sizeOfSafe_15 : decode cX0_sizeOfSafe 15 = .ok (.aload_n 1, 1) := by decide +kernel
theorem dX0_sizeOfSafe_16 : decode cX0_sizeOfSafe 16 = .ok (.getfield 55, 3) := by decide +kernel
theorem dX0_sizeOfSafe_19 : decode cX0_sizeOfSafe 19 = .ok (.iconst 0, 1) := by decide +kernel
theorem dX0_sizeOfSafe_20 : decode cX0_sizeOfSafe 20 = .ok (.iaload, 1) := by decide +kernel
theorem dX0_sizeOfSafe_21 : decode cX0_sizeOfSafe 21 = .ok (.isub, 1) := by decide +kernel
theorem dX0_sizeOfSafe_22 : decode cX0_sizeOfSafe 22 = .ok (.ireturn, 1) := by decide +kernel
set_option maxRecDepth 20000 in
theorem ggX0_sizeOfStrong_X0_leave : GoodIn wsX0_sizeOfStrong wsX0_leave := goodIn_r _ [5, 6, 7, 18, 19] (by decide +kernel) (by decide +kernel)
set_option maxRecDepth 20000 in
theorem gX0_sizeOfStrong_X0_leave : GoodIn wsX0_sizeOfStrong (wsV RX0 47 RX0 yX0_leave wsX0_leave) := goodIn_app (goodIn_of _ (by decide +kernel)) ggX0_sizeOfStrong_X0_leave
set_option maxRecDepth 20000 in
theorem ggX0_sizeOfStrong_X0_sizeOfSafe : GoodIn wsX0_sizeOfStrong wsX0_sizeOfSafe := goodIn_r _ [11, 12, 1, 2, 3, 4, 5, 6, 7, 13, 14, 15, 16, 17, 20, 21, 18, 19] (by decide +kernel) (by decide +kernel)
set_option maxRecDepth 20000 in
theorem gX0_sizeOfStrong_X0_sizeOfSafe : GoodIn wsX0_sizeOfStrong (wsV RX0 25 RX0 yX0_sizeOfSafe wsX0_sizeOfSafe) := goodIn_app (goodIn_of _ (by decide +kernel)) ggX0_sizeOfStrong_X0_sizeOfSafe
theorem dX0_sizeOfStrong_0 : decode cX0_sizeOfStrong 0 = .ok (.aload_n 0, 1) := by decide +kernel
theorem dX0_sizeOfStrong_1 : decode cX0_sizeOfStrong 1 = .ok (.bipush 12, 2) := by decide +kernel
theorem dX0_sizeOfStrong_3 : decode cX0_sizeOfStrong 3 = .ok (.invokevirtual 47, 3) := by decide +kernel
theorem dX0_sizeOfStrong_6 : decode cX0_sizeOfStrong 6 = .ok (.aload_n 0, 1) := by decide +kernel
theorem dX0_sizeOfStrong_7 : decode cX0_sizeOfStrong 7 = .ok (.aload_n 1, 1) := by decide +kernel
theorem dX0_sizeOfStrong_8 : decode cX0_sizeOfStrong 8 = .ok (.invokevirtual 25, 3) := by decide +kernel
theorem dX0_sizeOfStrong_11 : decode cX0_sizeOfStrong 11 = .ok (.iconst 2, 1) := by decide +kernel
theorem dX0_sizeOfStrong_12 : decode cX0_sizeOfStrong 12 = .ok (.imul, 1) := by decide +kernel
theorem dX0_sizeOfStrong_13 : decode cX0_sizeOfStrong 13 = .ok (.ireturn, 1) := by decide +kernel
set_option maxRecDepth 20000 in
theorem ggX0_sizeOfQuick_X0_leave : GoodIn wsX0_sizeOfQuick wsX0_leave := goodIn_r _ [5, 6, 7, 58, 59] (by decide +kernel) (by decide +kernel)
set_option maxRecDepth 20000 in
theorem gX0_sizeOfQuick_X0_leave : GoodIn wsX0_sizeOfQuick (wsV RX0 47 RX0 yX0_leave wsX0_leave) := goodIn_app (goodIn_of _ (by decide +kernel)) ggX0_sizeOfQuick_X0_leave
set_option maxRecDepth 20000 in
theorem ggX0_sizeOfQuick_X0_sizeLent : GoodIn wsX0_sizeOfQuick wsX0_sizeLent := goodIn_r _ [11, 12, 1, 2, 3, 4, 5, 6, 7, 56, 57, 58, 59] (by decide +kernel) (by decide +kernel)
set_option maxRecDepth 20000 in
theorem gX0_sizeOfQuick_X0_sizeLent : GoodIn wsX0_sizeOfQuick (wsV RX0 32 RX0 yX0_sizeLent wsX0_sizeLent) := goodIn_app (goodIn_of _ (by decide +kernel)) ggX0_sizeOfQuick_X0_sizeLent
set_option maxRecDepth 20000 in
theorem ggX0_sizeOfQuick_X0_markOf : GoodIn wsX0_sizeOfQuick wsX0_markOf := goodIn_r _ [16, 17, 18, 19, 20, 21, 22, 23, 24, 25, 26, 4, 27, 28, 29, 30, 1, 2, 3, 5, 6, 7, 31, 32, 33, 34, 35, 36, 37, 38, 39, 40, 41, 42, 43, 44, 45, 46, 47, 48, 49, 50, 51, 52, 8, 9, 10, 11, 12, 53, 54, 55, 0, 13, 14, 15, 56, 57, 58, 59] (by decide +kernel) (by decide +kernel)
set_option maxRecDepth 20000 in
theorem gX0_sizeOfQuick_X0_markOf : GoodIn wsX0_sizeOfQuick (wsV RX0 58 RX0 yX0_markOf wsX0_markOf) := goodIn_app (goodIn_of _ (by decide +kernel)) ggX0_sizeOfQuick_X0_markOf
theorem dX0_sizeOfQuick_0 : decode cX0_sizeOfQuick 0 = .ok (.aload_n 0, 1) := by decide +kernel
theorem dX0_sizeOfQuick_1 : decode cX0_sizeOfQuick 1 = .ok (.bipush 13, 2) := by decide +kernel
theorem dX0_sizeOfQuick_3 : decode cX0_sizeOfQuick 3 = .ok (.invokevirtual 47, 3) := by decide +kernel
theorem dX0_sizeOfQuick_6 : decode cX0_sizeOfQuick 6 = .ok (.aload_n 0, 1) := by decide +kernel
theorem dX0_sizeOfQuick_7 : decode cX0_sizeOfQuick 7 = .ok (.aload_n 1, 1) := by decide +kernel
theorem dX0_sizeOfQuick_8 : decode cX0_sizeOfQuick 8 = .ok (.invokevirtual 32, 3) := by decide +kernel
theorem dX0_sizeOfQuick_11 : decode cX0_sizeOfQuick 11 = .ok (.istore_n 3, 1) := by decide +kernel
theorem dX0_sizeOfQuick_12 : decode cX0_sizeOfQuick 12 = .ok (.iload_n 3, 1) := by decide +kernel
theorem dX0_sizeOfQuick_13 : decode cX0_sizeOfQuick 13 = .ok (.aload_n 0, 1) := by decide +kernel
theorem dX0_sizeOfQuick_14 : decode cX0_sizeOfQuick 14 = .ok (.aload_n 1, 1) := by decide +kernel
theorem dX0_sizeOfQuick_15 : decode cX0_sizeOfQuick 15 = .ok (.iload_n 2, 1) := by decide +kernel
theorem dX0_sizeOfQuick_16 : decode cX0_sizeOfQuick 16 = .ok (.iconst 1, 1) := by decide +kernel
theorem dX0_sizeOfQuick_17 : decode cX0_sizeOfQuick 17 = .ok (.iadd, 1) := by decide +kernel
theorem dX0_sizeOfQuick_18 : decode cX0_sizeOfQuick 18 = .ok (.invokevirtual 58, 3) := by decide +kernel
theorem dX0_sizeOfQuick_21 : decode cX0_sizeOfQuick 21 = .ok (.isub, 1) := by decide +kernel
theorem dX0_sizeOfQuick_22 : decode cX0_sizeOfQuick 22 = .ok (.ireturn, 1) := by decide +kernel
set_option maxRecDepth 20000 in
theorem ggX0_markLent_X0_leave : GoodIn wsX0_markLent wsX0_leave := goodIn_r _ [6, 7, 8, 11, 12] (by decide +kernel) (by decide +kernel)
set_option maxRecDepth 20000 in
theorem gX0_markLent_X0_leave : GoodIn wsX0_markLent (wsV RX0 47 RX0 yX0_leave wsX0_leave) := goodIn_app (goodIn_of _ (by decide +kernel)) ggX0_markLent_X0_leave
theorem dX0_markLent_0 : decode cX0_markLent 0 = .ok (.aload_n 0, 1) := by decide +kernel
theorem dX0_markLent_1 : decode cX0_markLent 1 = .ok (.bipush 20, 2) := by decide +kernel
theorem dX0_markLent_3 : decode cX0_markLent 3 = .ok (.invokevirtual 47, 3) := by decide +kernel
theorem dX0_markLent_6 : decode cX0_markLent 6 = .ok (.aload_n 1, 1) := by decide +kernel
theorem dX0_markLent_7 : decode cX0_markLent 7 = .ok (.getfield 55, 3) := by decide +kernel
theorem dX0_markLent_10 : decode cX0_markLent 10 = .ok (.iconst 5, 1) := by decide +kernel
theorem dX0_markLent_11 : decode cX0_markLent 11 = .ok (.iaload, 1) := by decide +kernel
theorem dX0_markLent_12 : decode cX0_markLent 12 = .ok (.ireturn, 1) := by decide +kernel
set_option maxRecDepth 20000 in
theorem ggX0_markOfSafe_X0_leave : GoodIn wsX0_markOfSafe wsX0_leave := goodIn_r _ [5, 6, 7, 13, 14] (by decide +kernel) (by decide +kernel)
set_option maxRecDepth 20000 in
theorem gX0_markOfSafe_X0_leave : GoodIn wsX0_markOfSafe (wsV RX0 47 RX0 yX0_leave wsX0_leave) := goodIn_app (goodIn_of _ (by decide +kernel)) ggX0_markOfSafe_X0_leave
set_option maxRecDepth 20000 in
theorem ggX0_markOfSafe_X0_markLent : GoodIn wsX0_markOfSafe wsX0_markLent := goodIn_r _ [11, 12, 1, 2, 3, 4, 5, 6, 7, 15, 16, 13, 14] (by decide +kernel) (by decide +kernel)
set_option maxRecDepth 20000 in
theorem gX0_markOfSafe_X0_markLent : GoodIn wsX0_markOfSafe (wsV RX0 44 RX0 yX0_markLent wsX0_markLent) := goodIn_app (goodIn_of _ (by decide +kernel)) ggX0_markOfSafe_X0_markLent
theorem dX0_markOfSafe_0 : decode cX0_markOfSafe 0 = .ok (.aload_n 0, 1) := by decide +kernel
theorem dX0_markOfSafe_1 : decode cX0_markOfSafe 1 = .ok (.bipush 21, 2) := by decide +kernel
theorem dX0_markOfSafe_3 : decode cX0_markOfSafe 3 = .ok (.invokevirtual 47, 3) := by decide +kernel
theorem dX0_markOfSafe_6 : decode cX0_markOfSafe 6 = .ok (.aload_n 0, 1) := by decide +kernel
theorem dX0_markOfSafe_7 : decode cX0_markOfSafe 7 = .ok (.aload_n 1, 1) := by decide +kernel
theorem dX0_markOfSafe_8 : decode cX0_markOfSafe 8 = .ok (.invokevirtual 44, 3) := by decide +kernel
theorem dX0_markOfSafe_11 : decode cX0_markOfSafe 11 = .ok (.bipush 100, 2) := by decide +kernel
theorem dX0_markOfSafe_13 : decode cX0_markOfSafe 13 = .ok (.iadd, 1) := by decide +kernel
theorem dX0_markOfSafe_14 : decode cX0_markOfSafe 14 = .ok (.ireturn, 1) := by decide +kernel
set_option maxRecDepth 20000 in
theorem ggX0_markOfStrong_X0_leave : GoodIn wsX0_markOfStrong wsX0_leave := goodIn_r _ [5, 6, 7, 58, 59] (by decide +kernel) (by decide +kernel)
set_option maxRecDepth 20000 in
theorem gX0_markOfStrong_X0_leave : GoodIn wsX0_markOfStrong (wsV RX0 47 RX0 yX0_leave wsX0_leave) := goodIn_app (goodIn_of _ (by decide +kernel)) ggX0_markOfStrong_X0_leave
set_option maxRecDepth 20000 in
theorem ggX0_markOfStrong_X0_markOfSafe : GoodIn wsX0_markOfStrong wsX0_markOfSafe := goodIn_r _ [11, 1, 2, 3, 4, 5, 6, 7, 12, 13, 14, 15, 16, 58, 59, 56, 57] (by decide +kernel) (by decide +kernel)
set_option maxRecDepth 20000 in
theorem gX0_markOfStrong_X0_markOfSafe : GoodIn wsX0_markOfStrong (wsV RX0 38 RX0 yX0_markOfSafe wsX0_markOfSafe) := goodIn_app (goodIn_of _ (by decide +kernel)) ggX0_markOfStrong_X0_markOfSafe
set_option maxRecDepth 20000 in
theorem ggX0_markOfStrong_X0_sizeOf : GoodIn wsX0_markOfStrong wsX0_sizeOf := goodIn_r _ [35, 21, 22, 23, 24, 25, 26, 27, 36, 37, 38, 4, 39, 1, 2, 3, 5, 6, 7, 40, 41, 42, 43, 16, 44, 45, 46, 47, 48, 49, 50, 51, 20, 28, 29, 30, 8, 9, 10, 11, 12, 13, 14, 15, 31, 32, 33, 34, 0, 17, 18, 19, 52, 53, 54, 55, 56, 57, 58, 59] (by decide +kernel) (by decide +kernel)
set_option maxRecDepth 20000 in
theorem gX0_markOfStrong_X0_sizeOf : GoodIn wsX0_markOfStrong (wsV RX0 61 RX0 yX0_sizeOf wsX0_sizeOf) := goodIn_app (goodIn_of _ (by decide +kernel)) ggX0_markOfStrong_X0_sizeOf
theorem dX0_markOfStrong_0 : decode cX0_markOfStrong 0 = .ok (.aload_n 0, 1) := by decide +kernel
theorem dX0_markOfStrong_1 : decode cX0_markOfStrong 1 = .ok (.bipush 22, 2) := by decide +kernel
theorem dX0_markOfStrong_3 : decode cX0_markOfStrong 3 = .ok (.invokevirtual 47, 3) := by decide +kernel
theorem dX0_markOfStrong_6 : decode cX0_markOfStrong 6 = .ok (.aload_n 0, 1) := by decide +kernel
theorem dX0_markOfStrong_7 : decode cX0_markOfStrong 7 = .ok (.aload_n 1, 1) := by decide +kernel
theorem dX0_markOfStrong_8 : decode cX0_markOfStrong 8 = .ok (.invokevirtual 38, 3) := by decide +kernel
theorem dX0_markOfStrong_11 : decode cX0_markOfStrong 11 = .ok (.istore_n 3, 1) := by decide +kernel
theorem dX0_markOfStrong_12 : decode cX0_markOfStrong 12 = .ok (.iload_n 3, 1) := by decide +kernel
theorem dX0_markOfStrong_13 : decode cX0_markOfStrong 13 = .ok (.aload_n 0, 1) := by decide +kernel
theorem dX0_markOfStrong_14 : decode cX0_markOfStrong 14 = .ok (.aload_n 1, 1) := by decide +kernel
theorem dX0_markOfStrong_15 : decode cX0_markOfStrong 15 = .ok (.iload_n 2, 1) := by decide +kernel
theorem dX0_markOfStrong_16 : decode cX0_markOfStrong 16 = .ok (.iconst 1, 1) := by decide +kernel
theorem dX0_markOfStrong_17 : decode cX0_markOfStrong 17 = .ok (.iadd, 1) := by decide +kernel
theorem dX0_markOfStrong_18 : decode cX0_markOfStrong 18 = .ok (.invokevirtual 61, 3) := by decide +kernel
theorem dX0_markOfStrong_21 : decode cX0_markOfStrong 21 = .ok (.iadd, 1) := by decide +kernel
theorem dX0_markOfStrong_22 : decode cX0_markOfStrong 22 = .ok (.ireturn, 1) := by decide +kernel
set_option maxRecDepth 20000 in
theorem ggX0_markOfQuick_X0_leave : GoodIn wsX0_markOfQuick wsX0_leave := goodIn_r _ [5, 6, 7, 13, 14] (by decide +kernel) (by decide +kernel)
set_option maxRecDepth 20000 in
theorem gX0_markOfQuick_X0_leave : GoodIn wsX0_markOfQuick (wsV RX0 47 RX0 yX0_leave wsX0_leave) := goodIn_app (goodIn_of _ (by decide +kernel)) ggX0_markOfQuick_X0_leave
set_option maxRecDepth 20000 in
theorem ggX0_markOfQuick_X0_markLent : GoodIn wsX0_markOfQuick wsX0_markLent := goodIn_r _ [11, 12, 1, 2, 3, 4, 5, 6, 7, 15, 16, 13, 14] (by decide +kernel) (by decide +kernel)
set_option maxRecDepth 20000 in
theorem gX0_markOfQuick_X0_markLent : GoodIn wsX0_markOfQuick (wsV RX0 44 RX0 yX0_markLent wsX0_markLent) := goodIn_app (goodIn_of _ (by decide +kernel)) ggX0_markOfQuick_X0_markLent
theorem dX0_markOfQuick_0 : decode cX0_markOfQuick 0 = .ok (.aload_n 0, 1) := by decide +kernel
theorem dX0_markOfQuick_1 : decode cX0_markOfQuick 1 = .ok (.bipush 23, 2) := by decide +kernel
theorem dX0_markOfQuick_3 : decode cX0_markOfQuick 3 = .ok (.invokevirtual 47, 3) := by decide +kernel
theorem dX0_markOfQuick_6 : decode cX0_markOfQuick 6 = .ok (.aload_n 0, 1) := by decide +kernel
theorem dX0_markOfQuick_7 : decode cX0_markOfQuick 7 = .ok (.aload_n 1, 1) := by decide +kernel
theorem dX0_markOfQuick_8 : decode cX0_markOfQuick 8 = .ok (.invokevirtual 44, 3) := by decide +kernel
theorem dX0_markOfQuick_11 : decode cX0_markOfQuick 11 = .ok (.iconst 2, 1) := by decide +kernel
theorem dX0_markOfQuick_12 : decode cX0_markOfQuick 12 = .ok (.idiv, 1) := by decide +kernel
theorem dX0_markOfQuick_13 : decode cX0_markOfQuick 13 = .ok (.ireturn, 1) := by decide +kernel
theorem dX0_leave_0 : decode cX0_leave 0 = .ok (.aload_n 0, 1) := by decide +kernel
theorem dX0_leave_1 : decode cX0_leave 1 = .ok (.getfield 64, 3) := by decide +kernel
theorem dX0_leave_4 : decode cX0_leave 4 = .ok (.bipush 16, 2) := by decide +kernel
theorem dX0_leave_6 : decode cX0_leave 6 = .ok (.if_icmp .ge 23, 3) := by decide +kernel
theorem dX0_leave_9 : decode cX0_leave 9 = .ok (.aload_n 0, 1) := by decide +kernel
theorem dX0_leave_10 : decode cX0_leave 10 = .ok (.getfield 11, 3) := by decide +kernel
theorem dX0_leave_13 : decode cX0_leave 13 = .ok (.aload_n 0, 1) := by decide +kernel
theorem dX0_leave_14 : decode cX0_leave 14 = .ok (.getfield 64, 3) := by decide +kernel
theorem dX0_leave_17 : decode cX0_leave 17 = .ok (.iload_n 1, 1) := by decide +kernel
theorem dX0_leave_18 : decode cX0_leave 18 = .ok (.iastore, 1) := by decide +kernel
theorem dX0_leave_19 : decode cX0_leave 19 = .ok (.aload_n 0, 1) := by decide +kernel
theorem dX0_leave_20 : decode cX0_leave 20 = .ok (.dup, 1) := by decide +kernel
theorem dX0_leave_21 : decode cX0_leave 21 = .ok (.getfield 64, 3) := by decide +kernel
theorem dX0_leave_24 : decode cX0_leave 24 = .ok (.iconst 1, 1) := by decide +kernel
theorem dX0_leave_25 : decode cX0_leave 25 = .ok (.iadd, 1) := by decide +kernel
theorem dX0_leave_26 : decode cX0_leave 26 = .ok (.putfield 64, 3) := by decide +kernel
theorem dX0_leave_29 : decode cX0_leave 29 = .ok (.return_, 1) := by decide +kernel
set_option maxRecDepth 20000 in
theorem ggX1_init_X1_tell : GoodIn wsX1_init wsX1_tell := goodIn_r _ [11, 5, 12, 6, 13, 14, 10, 15, 16, 17, 18, 19, 20, 21, 22, 23, 24, 25, 26, 27, 28, 29, 30, 31, 32, 33] (by decide +kernel) (by decide +kernel)
set_option maxRecDepth 20000 in
theorem gX1_init_X1_tell : GoodIn wsX1_init (wsV RX1 18 RX1 yX1_tell wsX1_tell) := goodIn_app (goodIn_of _ (by decide +kernel)) ggX1_init_X1_tell
theorem dX1_init_0 : decode cX1_init 0 = .ok (.aload_n 0, 1) := by decide +kernel
theorem dX1_init_1 : decode cX1_init 1 = .ok (.invokespecial 3, 3) := by decide +kernel
theorem dX1_init_4 : decode cX1_init 4 = .ok (.aload_n 0, 1) := by decide +kernel
theorem dX1_init_5 : decode cX1_init 5 = .ok (.sipush 216, 3) := by decide +kernel
theorem dX1_init_8 : decode cX1_init 8 = .ok (.newarray .int, 2) := by decide +kernel
theorem dX1_init_10 : decode cX1_init 10 = .ok (.putfield 9, 3) := by decide +kernel
theorem dX1_init_13 : decode cX1_init 13 = .ok (.aload_n 0, 1) := by decide +kernel
theorem dX1_init_14 : decode cX1_init 14 = .ok (.sipush 216, 3) := by decide +kernel
theorem dX1_init_17 : decode cX1_init 17 = .ok (.newarray .int, 2) := by decide +kernel
theorem dX1_init_19 : decode cX1_init 19 = .ok (.putfield 15, 3) := by decide +kernel
theorem dX1_init_22 : decode cX1_init 22 = .ok (.iconst 0, 1) := by decide +kernel
theorem dX1_init_23 : decode cX1_init 23 = .ok (.istore_n 1, 1) := by decide +kernel
theorem dX1_init_24 : decode cX1_init 24 = .ok (.iload_n 1, 1) := by decide +kernel
theorem dX1_init_25 : decode cX1_init 25 = .ok (.bipush 24, 2) := by decide +kernel
theorem dX1_init_27 : decode cX1_init 27 = .ok (.if_icmp .ge 29, 3) := by decide +kernel
theorem dX1_init_30 : decode cX1_init 30 = .ok (.iconst 0, 1) := by decide +kernel
theorem dX1_init_31 : decode cX1_init 31 = .ok (.istore_n 2, 1) := by decide +kernel
theorem dX1_init_32 : decode cX1_init 32 = .ok (.iload_n 2, 1) := by decide +kernel
theorem dX1_init_33 : decode cX1_init 33 = .ok (.bipush 8, 2) := by decide +kernel
theorem dX1_init_35 : decode cX1_init 35 = .ok (.if_icmp .gt 15, 3) := by decide +kernel
theorem dX1_init_38 : decode cX1_init 38 = .ok (.aload_n 0, 1) := by decide +kernel
theorem dX1_init_39 : decode cX1_init 39 = .ok (.iload_n 1, 1) := by decide +kernel
theorem dX1_init_40 : decode cX1_init 40 = .ok (.iload_n 2, 1) := by decide +kernel
theorem dX1_init_41 : decode cX1_init 41 = .ok (.invokevirtual 18, 3) := by decide +kernel
theorem dX1_init_44 : decode cX1_init 44 = .ok (.iinc 2 1, 3) := by decide +kernel
theorem dX1_init_47 : decode cX1_init 47 = .ok (.goto (-15), 3) := by decide +kernel
theorem dX1_init_50 : decode cX1_init 50 = .ok (.iinc 1 1, 3) := by decide +kernel
theorem dX1_init_53 : decode cX1_init 53 = .ok (.goto (-29), 3) := by decide +kernel
theorem dX1_init_56 : decode cX1_init 56 = .ok (.return_, 1) := by decide +kernel
theorem dX1_standingAfter_0 : decode cX1_standingAfter 0 = .ok (.aload_n 0, 1) := by decide +kernel
theorem dX1_standingAfter_1 : decode cX1_standingAfter 1 = .ok (.getfield 9, 3) := by decide +kernel
theorem dX1_standingAfter_4 : decode cX1_standingAfter 4 = .ok (.iload_n 1, 1) := by decide +kernel
theorem dX1_standingAfter_5 : decode cX1_standingAfter 5 = .ok (.bipush 9, 2) := by decide +kernel
theorem dX1_standingAfter_7 : decode cX1_standingAfter 7 = .ok (.imul, 1) := by decide +kernel
theorem dX1_standingAfter_8 : decode cX1_standingAfter 8 = .ok (.iload_n 2, 1) := by decide +kernel
theorem dX1_standingAfter_9 : decode cX1_standingAfter 9 = .ok (.iadd, 1) := by decide +kernel
theorem dX1_standingAfter_10 : decode cX1_standingAfter 10 = .ok (.iaload, 1) := by decide +kernel
theorem dX1_standingAfter_11 : decode cX1_standingAfter 11 = .ok (.ireturn, 1) := by decide +kernel
theorem dX1_runsOf_0 : decode cX1_runsOf 0 = .ok (.aload_n 0, 1) := by decide +kernel
theorem dX1_runsOf_1 : decode cX1_runsOf 1 = .ok (.getfield 15, 3) := by decide +kernel
theorem dX1_runsOf_4 : decode cX1_runsOf 4 = .ok (.iload_n 1, 1) := by decide +kernel
theorem dX1_runsOf_5 : decode cX1_runsOf 5 = .ok (.bipush 9, 2) := by decide +kernel
theorem dX1_runsOf_7 : decode cX1_runsOf 7 = .ok (.imul, 1) := by decide +kernel
theorem dX1_runsOf_8 : decode cX1_runsOf 8 = .ok (.iload_n 2, 1) := by decide +kernel
theorem dX1_runsOf_9 : decode cX1_runsOf 9 = .ok (.iadd, 1) := by decide +kernel
theorem dX1_runsOf_10 : decode cX1_runsOf 10 = .ok (.iaload, 1) := by decide +kernel
theorem dX1_runsOf_11 : decode cX1_runsOf 11 = .ok (.ireturn, 1) := by decide +kernel
theorem dX1_someoneIsOn_0 : decode cX1_someoneIsOn 0 = .ok (.iload_n 0, 1) := by decide +kernel
theorem dX1_someoneIsOn_1 : decode cX1_someoneIsOn 1 = .ok (.bipush 7, 2) := by decide +kernel
theorem dX1_someoneIsOn_3 : decode cX1_someoneIsOn 3 = .ok (.iand, 1) := by decide +kernel
theorem dX1_someoneIsOn_4 : decode cX1_someoneIsOn 4 = .ok (.ifCond .eq 7, 3) := by decide +kernel
theorem dX1_someoneIsOn_7 : decode cX1_someoneIsOn 7 = .ok (.iconst 1, 1) := by decide +kernel
theorem dX1_someoneIsOn_8 : decode cX1_someoneIsOn 8 = .ok (.goto 4, 3) := by decide +kernel
theorem dX1_someoneIsOn_11 : decode cX1_someoneIsOn 11 = .ok (.iconst 0, 1) := by decide +kernel
theorem dX1_someoneIsOn_12 : decode cX1_someoneIsOn 12 = .ok (.ireturn, 1) := by decide +kernel
theorem dX1_canSteal_0 : decode cX1_canSteal 0 = .ok (.iload_n 0, 1) := by decide +kernel
theorem dX1_canSteal_1 : decode cX1_canSteal 1 = .ok (.iconst 3, 1) := by decide +kernel
theorem dX1_canSteal_2 : decode cX1_canSteal 2 = .ok (.iand, 1) := by decide +kernel
theorem dX1_canSteal_3 : decode cX1_canSteal 3 = .ok (.iconst 1, 1) := by decide +kernel
theorem dX1_canSteal_4 : decode cX1_canSteal 4 = .ok (.if_icmp .ne 7, 3) := by decide +kernel
theorem dX1_canSteal_7 : decode cX1_canSteal 7 = .ok (.iconst 1, 1) := by decide +kernel
theorem dX1_canSteal_8 : decode cX1_canSteal 8 = .ok (.goto 4, 3) := by decide +kernel
theorem dX1_canSteal_11 : decode cX1_canSteal 11 = .ok (.iconst 0, 1) := by decide +kernel
theorem dX1_canSteal_12 : decode cX1_canSteal 12 = .ok (.ireturn, 1) := by decide +kernel
set_option maxRecDepth 20000 in
theorem ggX1_tell_X1_canSteal : GoodIn wsX1_tell wsX1_canSteal := goodIn_r _ [7] (by decide +kernel) (by decide +kernel)
set_option maxRecDepth 20000 in
theorem gX1_tell_X1_canSteal : GoodIn wsX1_tell (va_wsS RX1 22 yX1_canSteal wsX1_canSteal) := goodIn_app (goodIn_of _ (by decide +kernel)) ggX1_tell_X1_canSteal
set_option maxRecDepth 20000 in
theorem ggX1_tell_X1_menAfter : GoodIn wsX1_tell wsX1_menAfter := goodIn_r _ [10, 11, 12, 6, 13] (by decide +kernel) (by decide +kernel)
set_option maxRecDepth 20000 in
theorem gX1_tell_X1_menAfter : GoodIn wsX1_tell (va_wsS RX1 27 yX1_menAfter wsX1_menAfter) := goodIn_app (goodIn_of _ (by decide +kernel)) ggX1_tell_X1_menAfter
set_option maxRecDepth 20000 in
theorem ggX1_tell_X1_menHome : GoodIn wsX1_tell wsX1_menHome := goodIn_r _ [16, 17, 18, 19, 20, 21, 22, 23] (by decide +kernel) (by decide +kernel)
set_option maxRecDepth 20000 in
theorem gX1_tell_X1_menHome : GoodIn wsX1_tell (va_wsS RX1 31 yX1_menHome wsX1_menHome) := goodIn_app (goodIn_of _ (by decide +kernel)) ggX1_tell_X1_menHome
theorem dX1_tell_0 : decode cX1_tell 0 = .ok (.iload_n 1, 1) := by decide +kernel
theorem dX1_tell_1 : decode cX1_tell 1 = .ok (.bipush 9, 2) := by decide +kernel
theorem dX1_tell_3 : decode cX1_tell 3 = .ok (.imul, 1) := by decide +kernel
theorem dX1_tell_4 : decode cX1_tell 4 = .ok (.iload_n 2, 1) := by decide +kernel
theorem dX1_tell_5 : decode cX1_tell 5 = .ok (.iadd, 1) := by decide +kernel
theorem dX1_tell_6 : decode cX1_tell 6 = .ok (.istore_n 3, 1) := by decide +kernel
theorem dX1_tell_7 : decode cX1_tell 7 = .ok (.iload_n 1, 1) := by decide +kernel
theorem dX1_tell_8 : decode cX1_tell 8 = .ok (.bipush 7, 2) := by decide +kernel
theorem dX1_tell_10 : decode cX1_tell 10 = .ok (.iand, 1) := by decide +kernel
theorem dX1_tell_11 : decode cX1_tell 11 = .ok (.istore 4, 2) := by decide +kernel
theorem dX1_tell_13 : decode cX1_tell 13 = .ok (.iload_n 1, 1) := by decide +kernel
theorem dX1_tell_14 : decode cX1_tell 14 = .ok (.iconst 3, 1) := by decide +kernel
theorem dX1_tell_15 : decode cX1_tell 15 = .ok (.ishr, 1) := by decide +kernel
theorem dX1_tell_16 : decode cX1_tell 16 = .ok (.iload_n 2, 1) := by decide +kernel
theorem dX1_tell_17 : decode cX1_tell 17 = .ok (.ifCond .eq 15, 3) := by decide +kernel
theorem dX1_tell_20 : decode cX1_tell 20 = .ok (.iload_n 2, 1) := by decide +kernel
theorem dX1_tell_21 : decode cX1_tell 21 = .ok (.bipush 6, 2) := by decide +kernel
theorem dX1_tell_23 : decode cX1_tell 23 = .ok (.if_icmp .eq 9, 3) := by decide +kernel
theorem dX1_tell_26 : decode cX1_tell 26 = .ok (.iload_n 2, 1) := by decide +kernel
theorem dX1_tell_27 : decode cX1_tell 27 = .ok (.bipush 8, 2) := by decide +kernel
theorem dX1_tell_29 : decode cX1_tell 29 = .ok (.if_icmp .ne 7, 3) := by decide +kernel
theorem dX1_tell_32 : decode cX1_tell 32 = .ok (.iconst 1, 1) := by decide +kernel
theorem dX1_tell_33 : decode cX1_tell 33 = .ok (.goto 4, 3) := by decide +kernel
theorem dX1_tell_36 : decode cX1_tell 36 = .ok (.iconst 0, 1) := by decide +kernel
theorem dX1_tell_37 : decode cX1_tell 37 = .ok (.iadd, 1) := by decide +kernel
theorem dX1_tell_38 : decode cX1_tell 38 = .ok (.istore 5, 2) := by decide +kernel
theorem dX1_tell_40 : decode cX1_tell 40 = .ok (.iload_n 2, 1) := by decide +kernel
theorem dX1_tell_41 : decode cX1_tell 41 = .ok (.bipush 7, 2) := by decide +kernel
theorem dX1_tell_43 : decode cX1_tell 43 = .ok (.if_icmp .lt 29, 3) := by decide +kernel
theorem dX1_tell_46 : decode cX1_tell 46 = .ok (.iload_n 1, 1) := by decide +kernel
theorem dX1_tell_47 : decode cX1_tell 47 = .ok (.invokestatic 22, 3) := by decide +kernel
theorem dX1_tell_50 : decode cX1_tell 50 = .ok (.ifCond .ne 22, 3) := by decide +kernel
theorem dX1_tell_53 : decode cX1_tell 53 = .ok (.aload_n 0, 1) := by decide +kernel
theorem dX1_tell_54 : decode cX1_tell 54 = .ok (.getfield 9, 3) := by decide +kernel
theorem dX1_tell_57 : decode cX1_tell 57 = .ok (.iload_n 3, 1) := by decide +kernel
theorem dX1_tell_58 : decode cX1_tell 58 = .ok (.ldc 26, 2) := by decide +kernel
theorem dX1_tell_60 : decode cX1_tell 60 = .ok (.iastore, 1) := by decide +kernel
theorem dX1_tell_61 : decode cX1_tell 61 = .ok (.aload_n 0, 1) := by decide +kernel
theorem dX1_tell_62 : decode cX1_tell 62 = .ok (.getfield 15, 3) := by decide +kernel
theorem dX1_tell_65 : decode cX1_tell 65 = .ok (.iload_n 3, 1) := by decide +kernel
theorem dX1_tell_66 : decode cX1_tell 66 = .ok (.ldc 26, 2) := by decide +kernel
theorem dX1_tell_68 : decode cX1_tell 68 = .ok (.iastore, 1) := by decide +kernel
theorem dX1_tell_69 : decode cX1_tell 69 = .ok (.goto 57, 3) := by decide +kernel
theorem dX1_tell_72 : decode cX1_tell 72 = .ok (.iload 5, 2) := by decide +kernel
theorem dX1_tell_74 : decode cX1_tell 74 = .ok (.iconst 3, 1) := by decide +kernel
theorem dX1_tell_75 : decode cX1_tell 75 = .ok (.if_icmp .lt 21, 3) := by decide +kernel
theorem dX1_tell_78 : decode cX1_tell 78 = .ok (.aload_n 0, 1) := by decide +kernel
theorem dX1_tell_79 : decode cX1_tell 79 = .ok (.getfield 9, 3) := by decide +kernel
theorem dX1_tell_82 : decode cX1_tell 82 = .ok (.iload_n 3, 1) := by decide +kernel
theorem dX1_tell_83 : decode cX1_tell 83 = .ok (.bipush 24, 2) := by decide +kernel
theorem dX1_tell_85 : decode cX1_tell 85 = .ok (.iastore, 1) := by decide +kernel
theorem dX1_tell_86 : decode cX1_tell 86 = .ok (.aload_n 0, 1) := by decide +kernel
theorem dX1_tell_87 : decode cX1_tell 87 = .ok (.getfield 15, 3) := by decide +kernel
theorem dX1_tell_90 : decode cX1_tell 90 = .ok (.iload_n 3, 1) := by decide +kernel
theorem dX1_tell_91 : decode cX1_tell 91 = .ok (.iconst 0, 1) := by decide +kernel
theorem dX1_tell_92 : decode cX1_tell 92 = .ok (.iastore, 1) := by decide +kernel
theorem dX1_tell_93 : decode cX1_tell 93 = .ok (.goto 33, 3) := by decide +kernel
theorem dX1_tell_96 : decode cX1_tell 96 = .ok (.aload_n 0, 1) := by decide +kernel
theorem dX1_tell_97 : decode cX1_tell 97 = .ok (.getfield 9, 3) := by decide +kernel
theorem dX1_tell_100 : decode cX1_tell 100 = .ok (.iload_n 3, 1) := by decide +kernel
theorem dX1_tell_101 : decode cX1_tell 101 = .ok (.iload 5, 2) := by decide +kernel
theorem dX1_tell_103 : decode cX1_tell 103 = .ok (.bipush 8, 2) := by decide +kernel
theorem dX1_tell_105 : decode cX1_tell 105 = .ok (.imul, 1) := by decide +kernel
theorem dX1_tell_106 : decode cX1_tell 106 = .ok (.iload 4, 2) := by decide +kernel
theorem dX1_tell_108 : decode cX1_tell 108 = .ok (.iload_n 2, 1) := by decide +kernel
theorem dX1_tell_109 : decode cX1_tell 109 = .ok (.invokestatic 27, 3) := by decide +kernel
theorem dX1_tell_112 : decode cX1_tell 112 = .ok (.iadd, 1) := by decide +kernel
theorem dX1_tell_113 : decode cX1_tell 113 = .ok (.iastore, 1) := by decide +kernel
theorem dX1_tell_114 : decode cX1_tell 114 = .ok (.aload_n 0, 1) := by decide +kernel
theorem dX1_tell_115 : decode cX1_tell 115 = .ok (.getfield 15, 3) := by decide +kernel
theorem dX1_tell_118 : decode cX1_tell 118 = .ok (.iload_n 3, 1) := by decide +kernel
theorem dX1_tell_119 : decode cX1_tell 119 = .ok (.iload 4, 2) := by decide +kernel
theorem dX1_tell_121 : decode cX1_tell 121 = .ok (.iload_n 2, 1) := by decide +kernel
theorem dX1_tell_122 : decode cX1_tell 122 = .ok (.invokestatic 31, 3) := by decide +kernel
theorem dX1_tell_125 : decode cX1_tell 125 = .ok (.iastore, 1) := by decide +kernel
theorem dX1_tell_126 : decode cX1_tell 126 = .ok (.return_, 1) := by decide +kernel
set_option maxRecDepth 20000 in
theorem ggX1_menAfter_X1_menAfterWalk : GoodIn wsX1_menAfter wsX1_menAfterWalk := goodIn_r _ [4] (by decide +kernel) (by decide +kernel)
set_option maxRecDepth 20000 in
theorem gX1_menAfter_X1_menAfterWalk : GoodIn wsX1_menAfter (va_wsS RX1 34 yX1_menAfterWalk wsX1_menAfterWalk) := goodIn_app (goodIn_of _ (by decide +kernel)) ggX1_menAfter_X1_menAfterWalk
theorem dX1_menAfter_0 : decode cX1_menAfter 0 = .ok (.iload_n 1, 1) := by decide +kernel
theorem dX1_menAfter_1 : decode cX1_menAfter 1 = .ok (.tableswitch 95 1 8 #[47, 52, 61, 74, 76, 78, 85, 91], 47) := by decide +kernel
theorem dX1_menAfter_48 : decode cX1_menAfter 48 = .ok (.iload_n 0, 1) := by decide +kernel
theorem dX1_menAfter_49 : decode cX1_menAfter 49 = .ok (.invokestatic 34, 3) := by decide +kernel
theorem dX1_menAfter_52 : decode cX1_menAfter 52 = .ok (.ireturn, 1) := by decide +kernel
theorem dX1_menAfter_53 : decode cX1_menAfter 53 = .ok (.iload_n 0, 1) := by decide +kernel
theorem dX1_menAfter_54 : decode cX1_menAfter 54 = .ok (.iconst 1, 1) := by decide +kernel
theorem dX1_menAfter_55 : decode cX1_menAfter 55 = .ok (.ishl, 1) := by decide +kernel
theorem dX1_menAfter_56 : decode cX1_menAfter 56 = .ok (.bipush 7, 2) := by decide +kernel
theorem dX1_menAfter_58 : decode cX1_menAfter 58 = .ok (.iand, 1) := by decide +kernel
theorem dX1_menAfter_59 : decode cX1_menAfter 59 = .ok (.iconst 1, 1) := by decide +kernel
theorem dX1_menAfter_60 : decode cX1_menAfter 60 = .ok (.ior, 1) := by decide +kernel
theorem dX1_menAfter_61 : decode cX1_menAfter 61 = .ok (.ireturn, 1) := by decide +kernel
theorem dX1_menAfter_62 : decode cX1_menAfter 62 = .ok (.iload_n 0, 1) := by decide +kernel
theorem dX1_menAfter_63 : decode cX1_menAfter 63 = .ok (.iconst 1, 1) := by decide +kernel
theorem dX1_menAfter_64 : decode cX1_menAfter 64 = .ok (.iand, 1) := by decide +kernel
theorem dX1_menAfter_65 : decode cX1_menAfter 65 = .ok (.ifCond .eq 8, 3) := by decide +kernel
theorem dX1_menAfter_68 : decode cX1_menAfter 68 = .ok (.bipush 6, 2) := by decide +kernel
theorem dX1_menAfter_70 : decode cX1_menAfter 70 = .ok (.goto 4, 3) := by decide +kernel
theorem dX1_menAfter_73 : decode cX1_menAfter 73 = .ok (.iconst 2, 1) := by decide +kernel
theorem dX1_menAfter_74 : decode cX1_menAfter 74 = .ok (.ireturn, 1) := by decide +kernel
theorem dX1_menAfter_75 : decode cX1_menAfter 75 = .ok (.iconst 4, 1) := by decide +kernel
theorem dX1_menAfter_76 : decode cX1_menAfter 76 = .ok (.ireturn, 1) := by decide +kernel
theorem dX1_menAfter_77 : decode cX1_menAfter 77 = .ok (.iconst 0, 1) := by decide +kernel
theorem dX1_menAfter_78 : decode cX1_menAfter 78 = .ok (.ireturn, 1) := by decide +kernel
theorem dX1_menAfter_79 : decode cX1_menAfter 79 = .ok (.iload_n 0, 1) := by decide +kernel
theorem dX1_menAfter_80 : decode cX1_menAfter 80 = .ok (.iconst 1, 1) := by decide +kernel
theorem dX1_menAfter_81 : decode cX1_menAfter 81 = .ok (.ishl, 1) := by decide +kernel
theorem dX1_menAfter_82 : decode cX1_menAfter 82 = .ok (.bipush 7, 2) := by decide +kernel
theorem dX1_menAfter_84 : decode cX1_menAfter 84 = .ok (.iand, 1) := by decide +kernel
theorem dX1_menAfter_85 : decode cX1_menAfter 85 = .ok (.ireturn, 1) := by decide +kernel
theorem dX1_menAfter_86 : decode cX1_menAfter 86 = .ok (.iload_n 0, 1) := by decide +kernel
theorem dX1_menAfter_87 : decode cX1_menAfter 87 = .ok (.iconst 4, 1) := by decide +kernel
theorem dX1_menAfter_88 : decode cX1_menAfter 88 = .ok (.iand, 1) := by decide +kernel
theorem dX1_menAfter_89 : decode cX1_menAfter 89 = .ok (.iconst 2, 1) := by decide +kernel
theorem dX1_menAfter_90 : decode cX1_menAfter 90 = .ok (.ior, 1) := by decide +kernel
theorem dX1_menAfter_91 : decode cX1_menAfter 91 = .ok (.ireturn, 1) := by decide +kernel
theorem dX1_menAfter_92 : decode cX1_menAfter 92 = .ok (.iload_n 0, 1) := by decide +kernel
theorem dX1_menAfter_93 : decode cX1_menAfter 93 = .ok (.iconst 4, 1) := by decide +kernel
theorem dX1_menAfter_94 : decode cX1_menAfter 94 = .ok (.iand, 1) := by decide +kernel
theorem dX1_menAfter_95 : decode cX1_menAfter 95 = .ok (.ireturn, 1) := by decide +kernel
theorem dX1_menAfter_96 : decode cX1_menAfter 96 = .ok (.iload_n 0, 1) := by decide +kernel
theorem dX1_menAfter_97 : decode cX1_menAfter 97 = .ok (.ireturn, 1) := by decide +kernel
theorem dX1_menAfterWalk_0 : decode cX1_menAfterWalk 0 = .ok (.iload_n 0, 1) := by decide +kernel
theorem dX1_menAfterWalk_1 : decode cX1_menAfterWalk 1 = .ok (.iconst 1, 1) := by decide +kernel
theorem dX1_menAfterWalk_2 : decode cX1_menAfterWalk 2 = .ok (.iand, 1) := by decide +kernel
theorem dX1_menAfterWalk_3 : decode cX1_menAfterWalk 3 = .ok (.ifCond .ne 7, 3) := by decide +kernel
theorem dX1_menAfterWalk_6 : decode cX1_menAfterWalk 6 = .ok (.iload_n 0, 1) := by decide +kernel
theorem dX1_menAfterWalk_7 : decode cX1_menAfterWalk 7 = .ok (.iconst 1, 1) := by decide +kernel
theorem dX1_menAfterWalk_8 : decode cX1_menAfterWalk 8 = .ok (.ior, 1) := by decide +kernel
theorem dX1_menAfterWalk_9 : decode cX1_menAfterWalk 9 = .ok (.ireturn, 1) := by decide +kernel
theorem dX1_menAfterWalk_10 : decode cX1_menAfterWalk 10 = .ok (.iload_n 0, 1) := by decide +kernel
theorem dX1_menAfterWalk_11 : decode cX1_menAfterWalk 11 = .ok (.iconst 2, 1) := by decide +kernel
theorem dX1_menAfterWalk_12 : decode cX1_menAfterWalk 12 = .ok (.iand, 1) := by decide +kernel
theorem dX1_menAfterWalk_13 : decode cX1_menAfterWalk 13 = .ok (.ifCond .ne 9, 3) := by decide +kernel
theorem dX1_menAfterWalk_16 : decode cX1_menAfterWalk 16 = .ok (.iload_n 0, 1) := by decide +kernel
theorem dX1_menAfterWalk_17 : decode cX1_menAfterWalk 17 = .ok (.iconst 2, 1) := by decide +kernel
theorem dX1_menAfterWalk_18 : decode cX1_menAfterWalk 18 = .ok (.ior, 1) := by decide +kernel
theorem dX1_menAfterWalk_19 : decode cX1_menAfterWalk 19 = .ok (.goto 6, 3) := by decide +kernel
theorem dX1_menAfterWalk_22 : decode cX1_menAfterWalk 22 = .ok (.iload_n 0, 1) := by decide +kernel
theorem dX1_menAfterWalk_23 : decode cX1_menAfterWalk 23 = .ok (.iconst 4, 1) := by decide +kernel
theorem dX1_menAfterWalk_24 : decode cX1_menAfterWalk 24 = .ok (.ior, 1) := by decide +kernel
theorem dX1_menAfterWalk_25 : decode cX1_menAfterWalk 25 = .ok (.ireturn, 1) := by decide +kernel
set_option maxRecDepth 20000 in
theorem ggX1_menHome_J6_bitCount_0f7a4 : GoodIn wsX1_menHome wsJ6_bitCount_0f7a4 := goodIn_r _ [4, 5, 6, 7] (by decide +kernel) (by decide +kernel)
set_option maxRecDepth 20000 in
theorem gX1_menHome_J6_bitCount_0f7a4 : GoodIn wsX1_menHome (va_wsS RX1 38 yJ6_bitCount_0f7a4 wsJ6_bitCount_0f7a4) := goodIn_app (goodIn_of _ (by decide +kernel)) ggX1_menHome_J6_bitCount_0f7a4
theorem dX1_menHome_0 : decode cX1_menHome 0 = .ok (.iload_n 1, 1) := by decide +kernel
theorem dX1_menHome_1 : decode cX1_menHome 1 = .ok (.tableswitch 78 1 6 #[39, 51, 58, 66, 71, 51], 39) := by decide +kernel
theorem dX1_menHome_40 : decode cX1_menHome 40 = .ok (.iload_n 0, 1) := by decide +kernel
theorem dX1_menHome_41 : decode cX1_menHome 41 = .ok (.bipush 7, 2) := by decide +kernel
theorem dX1_menHome_43 : decode cX1_menHome 43 = .ok (.if_icmp .ne 7, 3) := by decide +kernel
theorem dX1_menHome_46 : decode cX1_menHome 46 = .ok (.iconst 1, 1) := by decide +kernel
theorem dX1_menHome_47 : decode cX1_menHome 47 = .ok (.goto 4, 3) := by decide +kernel
theorem dX1_menHome_50 : decode cX1_menHome 50 = .ok (.iconst 0, 1) := by decide +kernel
theorem dX1_menHome_51 : decode cX1_menHome 51 = .ok (.ireturn, 1) := by decide +kernel
theorem dX1_menHome_52 : decode cX1_menHome 52 = .ok (.iload_n 0, 1) := by decide +kernel
theorem dX1_menHome_53 : decode cX1_menHome 53 = .ok (.iconst 4, 1) := by decide +kernel
theorem dX1_menHome_54 : decode cX1_menHome 54 = .ok (.iand, 1) := by decide +kernel
theorem dX1_menHome_55 : decode cX1_menHome 55 = .ok (.invokestatic 38, 3) := by decide +kernel
theorem dX1_menHome_58 : decode cX1_menHome 58 = .ok (.ireturn, 1) := by decide +kernel
theorem dX1_menHome_59 : decode cX1_menHome 59 = .ok (.iload_n 0, 1) := by decide +kernel
theorem dX1_menHome_60 : decode cX1_menHome 60 = .ok (.bipush 6, 2) := by decide +kernel
theorem dX1_menHome_62 : decode cX1_menHome 62 = .ok (.iand, 1) := by decide +kernel
theorem dX1_menHome_63 : decode cX1_menHome 63 = .ok (.invokestatic 38, 3) := by decide +kernel
theorem dX1_menHome_66 : decode cX1_menHome 66 = .ok (.ireturn, 1) := by decide +kernel
theorem dX1_menHome_67 : decode cX1_menHome 67 = .ok (.iload_n 0, 1) := by decide +kernel
theorem dX1_menHome_68 : decode cX1_menHome 68 = .ok (.invokestatic 38, 3) := by decide +kernel
theorem dX1_menHome_71 : decode cX1_menHome 71 = .ok (.ireturn, 1) := by decide +kernel
theorem dX1_menHome_72 : decode cX1_menHome 72 = .ok (.iload_n 0, 1) := by decide +kernel
theorem dX1_menHome_73 : decode cX1_menHome 73 = .ok (.invokestatic 38, 3) := by decide +kernel
theorem dX1_menHome_76 : decode cX1_menHome 76 = .ok (.iconst 1, 1) := by decide +kernel
theorem dX1_menHome_77 : decode cX1_menHome 77 = .ok (.iadd, 1) := by decide +kernel
theorem dX1_menHome_78 : decode cX1_menHome 78 = .ok (.ireturn, 1) := by decide +kernel
theorem dX1_menHome_79 : decode cX1_menHome 79 = .ok (.iconst 0, 1) := by decide +kernel
theorem dX1_menHome_80 : decode cX1_menHome 80 = .ok (.ireturn, 1) := by decide +kernel
theorem dX2_init_0 : decode cX2_init 0 = .ok (.aload_n 0, 1) := by decide +kernel
theorem dX2_init_1 : decode cX2_init 1 = .ok (.invokespecial 3, 3) := by decide +kernel
theorem dX2_init_4 : decode cX2_init 4 = .ok (.aload_n 0, 1) := by decide +kernel
theorem dX2_init_5 : decode cX2_init 5 = .ok (.bipush 9, 2) := by decide +kernel
theorem dX2_init_7 : decode cX2_init 7 = .ok (.newarray .int, 2) := by decide +kernel
theorem dX2_init_9 : decode cX2_init 9 = .ok (.putfield 9, 3) := by decide +kernel
theorem dX2_init_12 : decode cX2_init 12 = .ok (.aload_n 0, 1) := by decide +kernel
theorem dX2_init_13 : decode cX2_init 13 = .ok (.bipush 9, 2) := by decide +kernel
theorem dX2_init_15 : decode cX2_init 15 = .ok (.newarray .int, 2) := by decide +kernel
theorem dX2_init_17 : decode cX2_init 17 = .ok (.putfield 15, 3) := by decide +kernel
theorem dX2_init_20 : decode cX2_init 20 = .ok (.aload_n 0, 1) := by decide +kernel
theorem dX2_init_21 : decode cX2_init 21 = .ok (.bipush 25, 2) := by decide +kernel
theorem dX2_init_23 : decode cX2_init 23 = .ok (.newarray .long, 2) := by decide +kernel
theorem dX2_init_25 : decode cX2_init 25 = .ok (.putfield 18, 3) := by decide +kernel
theorem dX2_init_28 : decode cX2_init 28 = .ok (.aload_n 0, 1) := by decide +kernel
theorem dX2_init_29 : decode cX2_init 29 = .ok (.bipush 25, 2) := by decide +kernel
theorem dX2_init_31 : decode cX2_init 31 = .ok (.newarray .long, 2) := by decide +kernel
theorem dX2_init_33 : decode cX2_init 33 = .ok (.putfield 22, 3) := by decide +kernel
theorem dX2_init_36 : decode cX2_init 36 = .ok (.aload_n 0, 1) := by decide +kernel
theorem dX2_init_37 : decode cX2_init 37 = .ok (.sipush 250, 3) := by decide +kernel
theorem dX2_init_40 : decode cX2_init 40 = .ok (.newarray .int, 2) := by decide +kernel
theorem dX2_init_42 : decode cX2_init 42 = .ok (.putfield 25, 3) := by decide +kernel
theorem dX2_init_45 : decode cX2_init 45 = .ok (.aload_n 0, 1) := by decide +kernel
theorem dX2_init_46 : decode cX2_init 46 = .ok (.sipush 250, 3) := by decide +kernel
theorem dX2_init_49 : decode cX2_init 49 = .ok (.newarray .int, 2) := by decide +kernel
theorem dX2_init_51 : decode cX2_init 51 = .ok (.putfield 28, 3) := by decide +kernel
theorem dX2_init_54 : decode cX2_init 54 = .ok (.aload_n 0, 1) := by decide +kernel
theorem dX2_init_55 : decode cX2_init 55 = .ok (.aload_n 1, 1) := by decide +kernel
theorem dX2_init_56 : decode cX2_init 56 = .ok (.putfield 31, 3) := by decide +kernel
theorem dX2_init_59 : decode cX2_init 59 = .ok (.aload_n 0, 1) := by decide +kernel
theorem dX2_init_60 : decode cX2_init 60 = .ok (.aload_n 2, 1) := by decide +kernel
theorem dX2_init_61 : decode cX2_init 61 = .ok (.putfield 35, 3) := by decide +kernel
theorem dX2_init_64 : decode cX2_init 64 = .ok (.return_, 1) := by decide +kernel
theorem dX2_take_0 : decode cX2_take 0 = .ok (.aload_n 1, 1) := by decide +kernel
theorem dX2_take_1 : decode cX2_take 1 = .ok (.iload_n 2, 1) := by decide +kernel
theorem dX2_take_2 : decode cX2_take 2 = .ok (.aload_n 0, 1) := by decide +kernel
theorem dX2_take_3 : decode cX2_take 3 = .ok (.getfield 9, 3) := by decide +kernel
theorem dX2_take_6 : decode cX2_take 6 = .ok (.iconst 0, 1) := by decide +kernel
theorem dX2_take_7 : decode cX2_take 7 = .ok (.iload_n 3, 1) := by decide +kernel
theorem dX2_take_8 : decode cX2_take 8 = .ok (.invokestatic 39, 3) := by decide +kernel
theorem dX2_take_11 : decode cX2_take 11 = .ok (.aload_n 0, 1) := by decide +kernel
theorem dX2_take_12 : decode cX2_take 12 = .ok (.iload_n 3, 1) := by decide +kernel
theorem dX2_take_13 : decode cX2_take 13 = .ok (.putfield 45, 3) := by decide +kernel
theorem dX2_take_16 : decode cX2_take 16 = .ok (.return_, 1) := by decide +kernel
set_option maxRecDepth 20000 in
theorem ggX2_meanFrom_X2_fillMeans : GoodIn wsX2_meanFrom wsX2_fillMeans := goodIn_r _ [6, 1, 7, 8, 9, 10, 11, 12, 13, 14, 5, 15, 16, 17, 18, 19, 20, 21, 22, 23, 24, 25, 26, 27, 28, 29, 30, 31, 32, 33, 34, 35, 36, 37, 38, 39, 40, 41] (by decide +kernel) (by decide +kernel)
set_option maxRecDepth 20000 in
theorem gX2_meanFrom_X2_fillMeans : GoodIn wsX2_meanFrom (wsV RX2 49 RX2 yX2_fillMeans wsX2_fillMeans) := goodIn_app (goodIn_of _ (by decide +kernel)) ggX2_meanFrom_X2_fillMeans
theorem dX2_meanFrom_0 : decode cX2_meanFrom 0 = .ok (.aload_n 0, 1) := by decide +kernel
theorem dX2_meanFrom_1 : decode cX2_meanFrom 1 = .ok (.iload_n 2, 1) := by decide +kernel
theorem dX2_meanFrom_2 : decode cX2_meanFrom 2 = .ok (.iload_n 3, 1) := by decide +kernel
theorem dX2_meanFrom_3 : decode cX2_meanFrom 3 = .ok (.invokevirtual 49, 3) := by decide +kernel
theorem dX2_meanFrom_6 : decode cX2_meanFrom 6 = .ok (.aload_n 0, 1) := by decide +kernel
theorem dX2_meanFrom_7 : decode cX2_meanFrom 7 = .ok (.getfield 18, 3) := by decide +kernel
theorem dX2_meanFrom_10 : decode cX2_meanFrom 10 = .ok (.iload_n 1, 1) := by decide +kernel
theorem dX2_meanFrom_11 : decode cX2_meanFrom 11 = .ok (.laload, 1) := by decide +kernel
theorem dX2_meanFrom_12 : decode cX2_meanFrom 12 = .ok (.l2i, 1) := by decide +kernel
theorem dX2_meanFrom_13 : decode cX2_meanFrom 13 = .ok (.ireturn, 1) := by decide +kernel
set_option maxRecDepth 20000 in
theorem ggX2_worthOf_X2_fillMeans : GoodIn wsX2_worthOf wsX2_fillMeans := goodIn_r _ [9, 4, 1, 10, 11, 12, 13, 14, 15, 16, 8, 17, 18, 19, 20, 21, 22, 23, 24, 25, 2, 26, 27, 3, 28, 40, 41, 42, 43, 44, 45, 46, 47, 48, 49, 50, 51, 52] (by decide +kernel) (by decide +kernel)
set_option maxRecDepth 20000 in
theorem gX2_worthOf_X2_fillMeans : GoodIn wsX2_worthOf (wsV RX2 49 RX2 yX2_fillMeans wsX2_fillMeans) := goodIn_app (goodIn_of _ (by decide +kernel)) ggX2_worthOf_X2_fillMeans
set_option maxRecDepth 20000 in
theorem ggX2_worthOf_X1_standingAfter : GoodIn wsX2_worthOf wsX1_standingAfter := goodIn_r _ [33, 34, 51, 52] (by decide +kernel) (by decide +kernel)
set_option maxRecDepth 20000 in
theorem gX2_worthOf_X1_standingAfter : GoodIn wsX2_worthOf (wsV RX2 53 RX1 yX1_standingAfter wsX1_standingAfter) := goodIn_app (goodIn_of _ (by decide +kernel)) ggX2_worthOf_X1_standingAfter
set_option maxRecDepth 20000 in
theorem ggX2_worthOf_X1_runsOf : GoodIn wsX2_worthOf wsX1_runsOf := goodIn_r _ [38, 39, 51, 52] (by decide +kernel) (by decide +kernel)
set_option maxRecDepth 20000 in
theorem gX2_worthOf_X1_runsOf : GoodIn wsX2_worthOf (wsV RX2 59 RX1 yX1_runsOf wsX1_runsOf) := goodIn_app (goodIn_of _ (by decide +kernel)) ggX2_worthOf_X1_runsOf
theorem dX2_worthOf_0 : decode cX2_worthOf 0 = .ok (.aload_n 0, 1) := by decide +kernel
theorem dX2_worthOf_1 : decode cX2_worthOf 1 = .ok (.iload_n 3, 1) := by decide +kernel
theorem dX2_worthOf_2 : decode cX2_worthOf 2 = .ok (.iload 4, 2) := by decide +kernel
theorem dX2_worthOf_4 : decode cX2_worthOf 4 = .ok (.invokevirtual 49, 3) := by decide +kernel
theorem dX2_worthOf_7 : decode cX2_worthOf 7 = .ok (.aload_n 0, 1) := by decide +kernel
theorem dX2_worthOf_8 : decode cX2_worthOf 8 = .ok (.getfield 22, 3) := by decide +kernel
theorem dX2_worthOf_11 : decode cX2_worthOf 11 = .ok (.aload_n 0, 1) := by decide +kernel
theorem dX2_worthOf_12 : decode cX2_worthOf 12 = .ok (.getfield 31, 3) := by decide +kernel
theorem dX2_worthOf_15 : decode cX2_worthOf 15 = .ok (.iload_n 1, 1) := by decide +kernel
theorem dX2_worthOf_16 : decode cX2_worthOf 16 = .ok (.iload_n 2, 1) := by decide +kernel
theorem dX2_worthOf_17 : decode cX2_worthOf 17 = .ok (.invokevirtual 53, 3) := by decide +kernel
theorem dX2_worthOf_20 : decode cX2_worthOf 20 = .ok (.laload, 1) := by decide +kernel
theorem dX2_worthOf_21 : decode cX2_worthOf 21 = .ok (.lstore 5, 2) := by decide +kernel
theorem dX2_worthOf_23 : decode cX2_worthOf 23 = .ok (.aload_n 0, 1) := by decide +kernel
theorem dX2_worthOf_24 : decode cX2_worthOf 24 = .ok (.getfield 31, 3) := by decide +kernel
theorem dX2_worthOf_27 : decode cX2_worthOf 27 = .ok (.iload_n 1, 1) := by decide +kernel
theorem dX2_worthOf_28 : decode cX2_worthOf 28 = .ok (.iload_n 2, 1) := by decide +kernel
theorem dX2_worthOf_29 : decode cX2_worthOf 29 = .ok (.invokevirtual 59, 3) := by decide +kernel
theorem dX2_worthOf_32 : decode cX2_worthOf 32 = .ok (.i2l, 1) := by decide +kernel
theorem dX2_worthOf_33 : decode cX2_worthOf 33 = .ok (.ldc2_w 62, 3) := by decide +kernel
theorem dX2_worthOf_36 : decode cX2_worthOf 36 = .ok (.lmul, 1) := by decide +kernel
theorem dX2_worthOf_37 : decode cX2_worthOf 37 = .ok (.lload 5, 2) := by decide +kernel
theorem dX2_worthOf_39 : decode cX2_worthOf 39 = .ok (.ladd, 1) := by decide +kernel
theorem dX2_worthOf_40 : decode cX2_worthOf 40 = .ok (.aload_n 0, 1) := by decide +kernel
theorem dX2_worthOf_41 : decode cX2_worthOf 41 = .ok (.getfield 18, 3) := by decide +kernel
theorem dX2_worthOf_44 : decode cX2_worthOf 44 = .ok (.iload_n 1, 1) := by decide +kernel
theorem dX2_worthOf_45 : decode cX2_worthOf 45 = .ok (.laload, 1) := by decide +kernel
theorem dX2_worthOf_46 : decode cX2_worthOf 46 = .ok (.lsub, 1) := by decide +kernel
theorem dX2_worthOf_47 : decode cX2_worthOf 47 = .ok (.l2i, 1) := by decide +kernel
theorem dX2_worthOf_48 : decode cX2_worthOf 48 = .ok (.ireturn, 1) := by decide +kernel
set_option maxRecDepth 20000 in
theorem ggX2_rateNow_X2_meanFrom : GoodIn wsX2_rateNow wsX2_meanFrom := goodIn_r _ [6, 7, 8, 9, 10, 5, 11, 12, 13, 14, 15, 16, 17, 18, 19, 20, 21, 22, 1, 23, 24, 25, 26, 27, 28, 29, 30, 31, 32, 33, 34, 35, 36, 37, 38, 39, 40, 41, 42, 43, 44, 45] (by decide +kernel) (by decide +kernel)
set_option maxRecDepth 20000 in
theorem gX2_rateNow_X2_meanFrom : GoodIn wsX2_rateNow (wsV RX2 64 RX2 yX2_meanFrom wsX2_meanFrom) := goodIn_app (goodIn_of _ (by decide +kernel)) ggX2_rateNow_X2_meanFrom
theorem dX2_rateNow_0 : decode cX2_rateNow 0 = .ok (.aload_n 0, 1) := by decide +kernel
theorem dX2_rateNow_1 : decode cX2_rateNow 1 = .ok (.iconst 0, 1) := by decide +kernel
theorem dX2_rateNow_2 : decode cX2_rateNow 2 = .ok (.iconst 0, 1) := by decide +kernel
theorem dX2_rateNow_3 : decode cX2_rateNow 3 = .ok (.bipush 30, 2) := by decide +kernel
theorem dX2_rateNow_5 : decode cX2_rateNow 5 = .ok (.invokevirtual 64, 3) := by decide +kernel
theorem dX2_rateNow_8 : decode cX2_rateNow 8 = .ok (.aload_n 0, 1) := by decide +kernel
theorem dX2_rateNow_9 : decode cX2_rateNow 9 = .ok (.iconst 0, 1) := by decide +kernel
theorem dX2_rateNow_10 : decode cX2_rateNow 10 = .ok (.aload_n 0, 1) := by decide +kernel
theorem dX2_rateNow_11 : decode cX2_rateNow 11 = .ok (.getfield 45, 3) := by decide +kernel
theorem dX2_rateNow_14 : decode cX2_rateNow 14 = .ok (.iconst 2, 1) := by decide +kernel
theorem dX2_rateNow_15 : decode cX2_rateNow 15 = .ok (.idiv, 1) := by decide +kernel
theorem dX2_rateNow_16 : decode cX2_rateNow 16 = .ok (.bipush 30, 2) := by decide +kernel
theorem dX2_rateNow_18 : decode cX2_rateNow 18 = .ok (.invokevirtual 64, 3) := by decide +kernel
theorem dX2_rateNow_21 : decode cX2_rateNow 21 = .ok (.iadd, 1) := by decide +kernel
theorem dX2_rateNow_22 : decode cX2_rateNow 22 = .ok (.ireturn, 1) := by decide +kernel
set_option maxRecDepth 20000 in
theorem ggX2_fillMeans_J7_fill_d0a16 : GoodIn wsX2_fillMeans wsJ7_fill_d0a16 := goodIn_r _ [6] (by decide +kernel) (by decide +kernel)
set_option maxRecDepth 20000 in
theorem gX2_fillMeans_J7_fill_d0a16 : GoodIn wsX2_fillMeans (va_wsS RX2 68 yJ7_fill_d0a16 wsJ7_fill_d0a16) := goodIn_app (goodIn_of _ (by decide +kernel)) ggX2_fillMeans_J7_fill_d0a16
set_option maxRecDepth 20000 in
theorem ggX2_fillMeans_X2_chancesAt : GoodIn wsX2_fillMeans wsX2_chancesAt := goodIn_r _ [11, 12, 13, 14, 15, 25, 26, 27, 28, 29, 30, 31, 32, 33, 34, 35] (by decide +kernel) (by decide +kernel)
set_option maxRecDepth 20000 in
theorem gX2_fillMeans_X2_chancesAt : GoodIn wsX2_fillMeans (wsV RX2 74 RX2 yX2_chancesAt wsX2_chancesAt) := goodIn_app (goodIn_of _ (by decide +kernel)) ggX2_fillMeans_X2_chancesAt
set_option maxRecDepth 20000 in
theorem ggX2_fillMeans_X2_fillMeansOf : GoodIn wsX2_fillMeans wsX2_fillMeansOf := goodIn_r _ [19, 2, 20, 21, 22, 23, 1, 24, 25, 26, 27, 28, 29, 30, 31, 32, 33, 36, 37] (by decide +kernel) (by decide +kernel)
set_option maxRecDepth 20000 in
theorem gX2_fillMeans_X2_fillMeansOf : GoodIn wsX2_fillMeans (wsV RX2 78 RX2 yX2_fillMeansOf wsX2_fillMeansOf) := goodIn_app (goodIn_of _ (by decide +kernel)) ggX2_fillMeans_X2_fillMeansOf
theorem dX2_fillMeans_0 : decode cX2_fillMeans 0 = .ok (.aload_n 0, 1) := by decide +kernel
theorem dX2_fillMeans_1 : decode cX2_fillMeans 1 = .ok (.getfield 18, 3) := by decide +kernel
theorem dX2_fillMeans_4 : decode cX2_fillMeans 4 = .ok (.lconst 0, 1) := by decide +kernel
theorem dX2_fillMeans_5 : decode cX2_fillMeans 5 = .ok (.invokestatic 68, 3) := by decide +kernel
theorem dX2_fillMeans_8 : decode cX2_fillMeans 8 = .ok (.aload_n 0, 1) := by decide +kernel
theorem dX2_fillMeans_9 : decode cX2_fillMeans 9 = .ok (.getfield 22, 3) := by decide +kernel
theorem dX2_fillMeans_12 : decode cX2_fillMeans 12 = .ok (.lconst 0, 1) := by decide +kernel
theorem dX2_fillMeans_13 : decode cX2_fillMeans 13 = .ok (.invokestatic 68, 3) := by decide +kernel
theorem dX2_fillMeans_16 : decode cX2_fillMeans 16 = .ok (.iconst 1, 1) := by decide +kernel
theorem dX2_fillMeans_17 : decode cX2_fillMeans 17 = .ok (.istore_n 3, 1) := by decide +kernel
theorem dX2_fillMeans_18 : decode cX2_fillMeans 18 = .ok (.iload_n 3, 1) := by decide +kernel
theorem dX2_fillMeans_19 : decode cX2_fillMeans 19 = .ok (.iload_n 2, 1) := by decide +kernel
theorem dX2_fillMeans_20 : decode cX2_fillMeans 20 = .ok (.if_icmp .gt 42, 3) := by decide +kernel
theorem dX2_fillMeans_23 : decode cX2_fillMeans 23 = .ok (.aload_n 0, 1) := by decide +kernel
theorem dX2_fillMeans_24 : decode cX2_fillMeans 24 = .ok (.getfield 22, 3) := by decide +kernel
theorem dX2_fillMeans_27 : decode cX2_fillMeans 27 = .ok (.astore 4, 2) := by decide +kernel
theorem dX2_fillMeans_29 : decode cX2_fillMeans 29 = .ok (.aload_n 0, 1) := by decide +kernel
theorem dX2_fillMeans_30 : decode cX2_fillMeans 30 = .ok (.aload_n 0, 1) := by decide +kernel
theorem dX2_fillMeans_31 : decode cX2_fillMeans 31 = .ok (.getfield 18, 3) := by decide +kernel
theorem dX2_fillMeans_34 : decode cX2_fillMeans 34 = .ok (.putfield 22, 3) := by decide +kernel
theorem dX2_fillMeans_37 : decode cX2_fillMeans 37 = .ok (.aload_n 0, 1) := by decide +kernel
theorem dX2_fillMeans_38 : decode cX2_fillMeans 38 = .ok (.aload 4, 2) := by decide +kernel
theorem dX2_fillMeans_40 : decode cX2_fillMeans 40 = .ok (.putfield 18, 3) := by decide +kernel
theorem dX2_fillMeans_43 : decode cX2_fillMeans 43 = .ok (.aload_n 0, 1) := by decide +kernel
theorem dX2_fillMeans_44 : decode cX2_fillMeans 44 = .ok (.aload_n 0, 1) := by decide +kernel
theorem dX2_fillMeans_45 : decode cX2_fillMeans 45 = .ok (.iload_n 1, 1) := by decide +kernel
theorem dX2_fillMeans_46 : decode cX2_fillMeans 46 = .ok (.iload_n 2, 1) := by decide +kernel
theorem dX2_fillMeans_47 : decode cX2_fillMeans 47 = .ok (.iadd, 1) := by decide +kernel
theorem dX2_fillMeans_48 : decode cX2_fillMeans 48 = .ok (.iload_n 3, 1) := by decide +kernel
theorem dX2_fillMeans_49 : decode cX2_fillMeans 49 = .ok (.isub, 1) := by decide +kernel
theorem dX2_fillMeans_50 : decode cX2_fillMeans 50 = .ok (.invokevirtual 74, 3) := by decide +kernel
theorem dX2_fillMeans_53 : decode cX2_fillMeans 53 = .ok (.invokevirtual 78, 3) := by decide +kernel
theorem dX2_fillMeans_56 : decode cX2_fillMeans 56 = .ok (.iinc 3 1, 3) := by decide +kernel
theorem dX2_fillMeans_59 : decode cX2_fillMeans 59 = .ok (.goto (-41), 3) := by decide +kernel
theorem dX2_fillMeans_62 : decode cX2_fillMeans 62 = .ok (.return_, 1) := by decide +kernel
theorem dX2_fillMeansOf_0 : decode cX2_fillMeansOf 0 = .ok (.aload_n 0, 1) := by decide +kernel
theorem dX2_fillMeansOf_1 : decode cX2_fillMeansOf 1 = .ok (.getfield 22, 3) := by decide +kernel
theorem dX2_fillMeansOf_4 : decode cX2_fillMeansOf 4 = .ok (.astore_n 2, 1) := by decide +kernel
theorem dX2_fillMeansOf_5 : decode cX2_fillMeansOf 5 = .ok (.aload_n 0, 1) := by decide +kernel
theorem dX2_fillMeansOf_6 : decode cX2_fillMeansOf 6 = .ok (.getfield 31, 3) := by decide +kernel
theorem dX2_fillMeansOf_9 : decode cX2_fillMeansOf 9 = .ok (.getfield 82, 3) := by decide +kernel
theorem dX2_fillMeansOf_12 : decode cX2_fillMeansOf 12 = .ok (.astore_n 3, 1) := by decide +kernel
theorem dX2_fillMeansOf_13 : decode cX2_fillMeansOf 13 = .ok (.aload_n 0, 1) := by decide +kernel
theorem dX2_fillMeansOf_14 : decode cX2_fillMeansOf 14 = .ok (.getfield 31, 3) := by decide +kernel
theorem dX2_fillMeansOf_17 : decode cX2_fillMeansOf 17 = .ok (.getfield 85, 3) := by decide +kernel
theorem dX2_fillMeansOf_20 : decode cX2_fillMeansOf 20 = .ok (.astore 4, 2) := by decide +kernel
theorem dX2_fillMeansOf_22 : decode cX2_fillMeansOf 22 = .ok (.iconst 0, 1) := by decide +kernel
theorem dX2_fillMeansOf_23 : decode cX2_fillMeansOf 23 = .ok (.istore 5, 2) := by decide +kernel
theorem dX2_fillMeansOf_25 : decode cX2_fillMeansOf 25 = .ok (.iload 5, 2) := by decide +kernel
theorem dX2_fillMeansOf_27 : decode cX2_fillMeansOf 27 = .ok (.bipush 24, 2) := by decide +kernel
theorem dX2_fillMeansOf_29 : decode cX2_fillMeansOf 29 = .ok (.if_icmp .ge 87, 3) := by decide +kernel
theorem dX2_fillMeansOf_32 : decode cX2_fillMeansOf 32 = .ok (.lconst 0, 1) := by decide +kernel
theorem dX2_fillMeansOf_33 : decode cX2_fillMeansOf 33 = .ok (.lstore 6, 2) := by decide +kernel
theorem dX2_fillMeansOf_35 : decode cX2_fillMeansOf 35 = .ok (.iload 5, 2) := by decide +kernel
theorem dX2_fillMeansOf_37 : decode cX2_fillMeansOf 37 = .ok (.bipush 9, 2) := by decide +kernel
theorem dX2_fillMeansOf_39 : decode cX2_fillMeansOf 39 = .ok (.imul, 1) := by decide +kernel
theorem dX2_fillMeansOf_40 : decode cX2_fillMeansOf 40 = .ok (.istore 8, 2) := by decide +kernel
theorem dX2_fillMeansOf_42 : decode cX2_fillMeansOf 42 = .ok (.iconst 0, 1) := by decide +kernel
theorem dX2_fillMeansOf_43 : decode cX2_fillMeansOf 43 = .ok (.istore 9, 2) := by decide +kernel
theorem dX2_fillMeansOf_45 : decode cX2_fillMeansOf 45 = .ok (.iload 9, 2) := by decide +kernel
theorem dX2_fillMeansOf_47 : decode cX2_fillMeansOf 47 = .ok (.iconst 5, 1) := by decide +kernel
theorem dX2_fillMeansOf_48 : decode cX2_fillMeansOf 48 = .ok (.if_icmp .gt 49, 3) := by decide +kernel
theorem dX2_fillMeansOf_51 : decode cX2_fillMeansOf 51 = .ok (.aload_n 1, 1) := by decide +kernel
theorem dX2_fillMeansOf_52 : decode cX2_fillMeansOf 52 = .ok (.iload 9, 2) := by decide +kernel
theorem dX2_fillMeansOf_54 : decode cX2_fillMeansOf 54 = .ok (.iaload, 1) := by decide +kernel
theorem dX2_fillMeansOf_55 : decode cX2_fillMeansOf 55 = .ok (.istore 10, 2) := by decide +kernel
theorem dX2_fillMeansOf_57 : decode cX2_fillMeansOf 57 = .ok (.iload 10, 2) := by decide +kernel
theorem dX2_fillMeansOf_59 : decode cX2_fillMeansOf 59 = .ok (.ifCond .le 29, 3) := by decide +kernel
theorem dX2_fillMeansOf_62 : decode cX2_fillMeansOf 62 = .ok (.lload 6, 2) := by decide +kernel
theorem dX2_fillMeansOf_64 : decode cX2_fillMeansOf 64 = .ok (.iload 10, 2) := by decide +kernel
theorem dX2_fillMeansOf_66 : decode cX2_fillMeansOf 66 = .ok (.i2l, 1) := by decide +kernel
theorem dX2_fillMeansOf_67 : decode cX2_fillMeansOf 67 = .ok (.aload 4, 2) := by decide +kernel
theorem dX2_fillMeansOf_69 : decode cX2_fillMeansOf 69 = .ok (.iload 8, 2) := by decide +kernel
theorem dX2_fillMeansOf_71 : decode cX2_fillMeansOf 71 = .ok (.iaload, 1) := by decide +kernel
theorem dX2_fillMeansOf_72 : decode cX2_fillMeansOf 72 = .ok (.i2l, 1) := by decide +kernel
theorem dX2_fillMeansOf_73 : decode cX2_fillMeansOf 73 = .ok (.ldc2_w 62, 3) := by decide +kernel
theorem dX2_fillMeansOf_76 : decode cX2_fillMeansOf 76 = .ok (.lmul, 1) := by decide +kernel
theorem dX2_fillMeansOf_77 : decode cX2_fillMeansOf 77 = .ok (.aload_n 2, 1) := by decide +kernel
theorem dX2_fillMeansOf_78 : decode cX2_fillMeansOf 78 = .ok (.aload_n 3, 1) := by decide +kernel
theorem dX2_fillMeansOf_79 : decode cX2_fillMeansOf 79 = .ok (.iload 8, 2) := by decide +kernel
theorem dX2_fillMeansOf_81 : decode cX2_fillMeansOf 81 = .ok (.iaload, 1) := by decide +kernel
theorem dX2_fillMeansOf_82 : decode cX2_fillMeansOf 82 = .ok (.laload, 1) := by decide +kernel
theorem dX2_fillMeansOf_83 : decode cX2_fillMeansOf 83 = .ok (.ladd, 1) := by decide +kernel
theorem dX2_fillMeansOf_84 : decode cX2_fillMeansOf 84 = .ok (.lmul, 1) := by decide +kernel
theorem dX2_fillMeansOf_85 : decode cX2_fillMeansOf 85 = .ok (.ladd, 1) := by decide +kernel
theorem dX2_fillMeansOf_86 : decode cX2_fillMeansOf 86 = .ok (.lstore 6, 2) := by decide +kernel
theorem dX2_fillMeansOf_88 : decode cX2_fillMeansOf 88 = .ok (.iinc 8 1, 3) := by decide +kernel
theorem dX2_fillMeansOf_91 : decode cX2_fillMeansOf 91 = .ok (.iinc 9 1, 3) := by decide +kernel
theorem dX2_fillMeansOf_94 : decode cX2_fillMeansOf 94 = .ok (.goto (-49), 3) := by decide +kernel
theorem dX2_fillMeansOf_97 : decode cX2_fillMeansOf 97 = .ok (.aload_n 0, 1) := by decide +kernel
theorem dX2_fillMeansOf_98 : decode cX2_fillMeansOf 98 = .ok (.getfield 18, 3) := by decide +kernel
theorem dX2_fillMeansOf_101 : decode cX2_fillMeansOf 101 = .ok (.iload 5, 2) := by decide +kernel
theorem dX2_fillMeansOf_103 : decode cX2_fillMeansOf 103 = .ok (.lload 6, 2) := by decide +kernel
theorem dX2_fillMeansOf_105 : decode cX2_fillMeansOf 105 = .ok (.ldc2_w 88, 3) := by decide +kernel
theorem dX2_fillMeansOf_108 : decode cX2_fillMeansOf 108 = .ok (.ldiv, 1) := by decide +kernel
theorem dX2_fillMeansOf_109 : decode cX2_fillMeansOf 109 = .ok (.lastore, 1) := by decide +kernel
theorem dX2_fillMeansOf_110 : decode cX2_fillMeansOf 110 = .ok (.iinc 5 1, 3) := by decide +kernel
theorem dX2_fillMeansOf_113 : decode cX2_fillMeansOf 113 = .ok (.goto (-88), 3) := by decide +kernel
theorem dX2_fillMeansOf_116 : decode cX2_fillMeansOf 116 = .ok (.return_, 1) := by decide +kernel
theorem dX2_chancesAt_0 : decode cX2_chancesAt 0 = .ok (.aload_n 0, 1) := by decide +kernel
theorem dX2_chancesAt_1 : decode cX2_chancesAt 1 = .ok (.getfield 35, 3) := by decide +kernel
theorem dX2_chancesAt_4 : decode cX2_chancesAt 4 = .ok (.aload_n 0, 1) := by decide +kernel
theorem dX2_chancesAt_5 : decode cX2_chancesAt 5 = .ok (.getfield 9, 3) := by decide +kernel
theorem dX2_chancesAt_8 : decode cX2_chancesAt 8 = .ok (.aload_n 0, 1) := by decide +kernel
theorem dX2_chancesAt_9 : decode cX2_chancesAt 9 = .ok (.getfield 45, 3) := by decide +kernel
theorem dX2_chancesAt_12 : decode cX2_chancesAt 12 = .ok (.ifCond .le 12, 3) := by decide +kernel
theorem dX2_chancesAt_15 : decode cX2_chancesAt 15 = .ok (.iload_n 1, 1) := by decide +kernel
theorem dX2_chancesAt_16 : decode cX2_chancesAt 16 = .ok (.aload_n 0, 1) := by decide +kernel
theorem dX2_chancesAt_17 : decode cX2_chancesAt 17 = .ok (.getfield 45, 3) := by decide +kernel
theorem dX2_chancesAt_20 : decode cX2_chancesAt 20 = .ok (.irem, 1) := by decide +kernel
theorem dX2_chancesAt_21 : decode cX2_chancesAt 21 = .ok (.goto 4, 3) := by decide +kernel
theorem dX2_chancesAt_24 : decode cX2_chancesAt 24 = .ok (.iconst 0, 1) := by decide +kernel
theorem dX2_chancesAt_25 : decode cX2_chancesAt 25 = .ok (.iaload, 1) := by decide +kernel
theorem dX2_chancesAt_26 : decode cX2_chancesAt 26 = .ok (.aaload, 1) := by decide +kernel
theorem dX2_chancesAt_27 : decode cX2_chancesAt 27 = .ok (.getfield 90, 3) := by decide +kernel
theorem dX2_chancesAt_30 : decode cX2_chancesAt 30 = .ok (.areturn, 1) := by decide +kernel
set_option maxRecDepth 20000 in
theorem ggX2_likelyFrom_X2_beginLikelies : GoodIn wsX2_likelyFrom wsX2_beginLikelies := goodIn_r _ [7, 1, 8, 9, 10, 11] (by decide +kernel) (by decide +kernel)
set_option maxRecDepth 20000 in
theorem gX2_likelyFrom_X2_beginLikelies : GoodIn wsX2_likelyFrom (va_wsS RX2 96 yX2_beginLikelies wsX2_beginLikelies) := goodIn_app (goodIn_of _ (by decide +kernel)) ggX2_likelyFrom_X2_beginLikelies
set_option maxRecDepth 20000 in
theorem ggX2_likelyFrom_X2_chancesAt : GoodIn wsX2_likelyFrom wsX2_chancesAt := goodIn_r _ [15, 16, 17, 18, 19, 37, 38, 39, 40, 41, 42, 43, 44, 45, 46, 47] (by decide +kernel) (by decide +kernel)
set_option maxRecDepth 20000 in
theorem gX2_likelyFrom_X2_chancesAt : GoodIn wsX2_likelyFrom (wsV RX2 74 RX2 yX2_chancesAt wsX2_chancesAt) := goodIn_app (goodIn_of _ (by decide +kernel)) ggX2_likelyFrom_X2_chancesAt
set_option maxRecDepth 20000 in
theorem ggX2_likelyFrom_X2_fillLikeliesOf : GoodIn wsX2_likelyFrom wsX2_fillLikeliesOf := goodIn_r _ [23, 24, 3, 2, 25, 26, 27, 28, 29, 30, 31, 32, 33, 34, 35, 36, 37, 38, 39, 40, 41, 42, 43, 44, 45, 48, 49] (by decide +kernel) (by decide +kernel)
set_option maxRecDepth 20000 in
theorem gX2_likelyFrom_X2_fillLikeliesOf : GoodIn wsX2_likelyFrom (wsV RX2 99 RX2 yX2_fillLikeliesOf wsX2_fillLikeliesOf) := goodIn_app (goodIn_of _ (by decide +kernel)) ggX2_likelyFrom_X2_fillLikeliesOf
theorem dX2_likelyFrom_0 : decode cX2_likelyFrom 0 = .ok (.iload 4, 2) := by decide +kernel
theorem dX2_likelyFrom_2 : decode cX2_likelyFrom 2 = .ok (.bipush 9, 2) := by decide +kernel
theorem dX2_likelyFrom_4 : decode cX2_likelyFrom 4 = .ok (.if_icmp .ne 8, 3) := by decide +kernel
theorem dX2_likelyFrom_7 : decode cX2_likelyFrom 7 = .ok (.ldc 95, 2) := by decide +kernel
theorem dX2_likelyFrom_9 : decode cX2_likelyFrom 9 = .ok (.goto 4, 3) := by decide +kernel
theorem dX2_likelyFrom_12 : decode cX2_likelyFrom 12 = .ok (.iconst 0, 1) := by decide +kernel
theorem dX2_likelyFrom_13 : decode cX2_likelyFrom 13 = .ok (.istore 5, 2) := by decide +kernel
theorem dX2_likelyFrom_15 : decode cX2_likelyFrom 15 = .ok (.aload_n 0, 1) := by decide +kernel
theorem dX2_likelyFrom_16 : decode cX2_likelyFrom 16 = .ok (.getfield 25, 3) := by decide +kernel
theorem dX2_likelyFrom_19 : decode cX2_likelyFrom 19 = .ok (.invokestatic 96, 3) := by decide +kernel
theorem dX2_likelyFrom_22 : decode cX2_likelyFrom 22 = .ok (.aload_n 0, 1) := by decide +kernel
theorem dX2_likelyFrom_23 : decode cX2_likelyFrom 23 = .ok (.getfield 28, 3) := by decide +kernel
theorem dX2_likelyFrom_26 : decode cX2_likelyFrom 26 = .ok (.invokestatic 96, 3) := by decide +kernel
theorem dX2_likelyFrom_29 : decode cX2_likelyFrom 29 = .ok (.iconst 1, 1) := by decide +kernel
theorem dX2_likelyFrom_30 : decode cX2_likelyFrom 30 = .ok (.istore 6, 2) := by decide +kernel
theorem dX2_likelyFrom_32 : decode cX2_likelyFrom 32 = .ok (.iload 6, 2) := by decide +kernel
theorem dX2_likelyFrom_34 : decode cX2_likelyFrom 34 = .ok (.iload_n 3, 1) := by decide +kernel
theorem dX2_likelyFrom_35 : decode cX2_likelyFrom 35 = .ok (.if_icmp .gt 47, 3) := by decide +kernel
theorem dX2_likelyFrom_38 : decode cX2_likelyFrom 38 = .ok (.aload_n 0, 1) := by decide +kernel
theorem dX2_likelyFrom_39 : decode cX2_likelyFrom 39 = .ok (.getfield 28, 3) := by decide +kernel
theorem dX2_likelyFrom_42 : decode cX2_likelyFrom 42 = .ok (.astore 7, 2) := by decide +kernel
theorem dX2_likelyFrom_44 : decode cX2_likelyFrom 44 = .ok (.aload_n 0, 1) := by decide +kernel
theorem dX2_likelyFrom_45 : decode cX2_likelyFrom 45 = .ok (.aload_n 0, 1) := by decide +kernel
theorem dX2_likelyFrom_46 : decode cX2_likelyFrom 46 = .ok (.getfield 25, 3) := by decide +kernel
theorem dX2_likelyFrom_49 : decode cX2_likelyFrom 49 = .ok (.putfield 28, 3) := by decide +kernel
theorem dX2_likelyFrom_52 : decode cX2_likelyFrom 52 = .ok (.aload_n 0, 1) := by decide +kernel
theorem dX2_likelyFrom_53 : decode cX2_likelyFrom 53 = .ok (.aload 7, 2) := by decide +kernel
theorem dX2_likelyFrom_55 : decode cX2_likelyFrom 55 = .ok (.putfield 25, 3) := by decide +kernel
theorem dX2_likelyFrom_58 : decode cX2_likelyFrom 58 = .ok (.aload_n 0, 1) := by decide +kernel
theorem dX2_likelyFrom_59 : decode cX2_likelyFrom 59 = .ok (.aload_n 0, 1) := by decide +kernel
theorem dX2_likelyFrom_60 : decode cX2_likelyFrom 60 = .ok (.iload_n 2, 1) := by decide +kernel
theorem dX2_likelyFrom_61 : decode cX2_likelyFrom 61 = .ok (.iload_n 3, 1) := by decide +kernel
theorem dX2_likelyFrom_62 : decode cX2_likelyFrom 62 = .ok (.iadd, 1) := by decide +kernel
theorem dX2_likelyFrom_63 : decode cX2_likelyFrom 63 = .ok (.iload 6, 2) := by decide +kernel
theorem dX2_likelyFrom_65 : decode cX2_likelyFrom 65 = .ok (.isub, 1) := by decide +kernel
theorem dX2_likelyFrom_66 : decode cX2_likelyFrom 66 = .ok (.invokevirtual 74, 3) := by decide +kernel
theorem dX2_likelyFrom_69 : decode cX2_likelyFrom 69 = .ok (.iload 4, 2) := by decide +kernel
theorem dX2_likelyFrom_71 : decode cX2_likelyFrom 71 = .ok (.iload 5, 2) := by decide +kernel
theorem dX2_likelyFrom_73 : decode cX2_likelyFrom 73 = .ok (.invokevirtual 99, 3) := by decide +kernel
theorem dX2_likelyFrom_76 : decode cX2_likelyFrom 76 = .ok (.iinc 6 1, 3) := by decide +kernel
theorem dX2_likelyFrom_79 : decode cX2_likelyFrom 79 = .ok (.goto (-47), 3) := by decide +kernel
theorem dX2_likelyFrom_82 : decode cX2_likelyFrom 82 = .ok (.aload_n 0, 1) := by decide +kernel
theorem dX2_likelyFrom_83 : decode cX2_likelyFrom 83 = .ok (.getfield 25, 3) := by decide +kernel
theorem dX2_likelyFrom_86 : decode cX2_likelyFrom 86 = .ok (.iload_n 1, 1) := by decide +kernel
theorem dX2_likelyFrom_87 : decode cX2_likelyFrom 87 = .ok (.bipush 10, 2) := by decide +kernel
theorem dX2_likelyFrom_89 : decode cX2_likelyFrom 89 = .ok (.imul, 1) := by decide +kernel
theorem dX2_likelyFrom_90 : decode cX2_likelyFrom 90 = .ok (.iload 4, 2) := by decide +kernel
theorem dX2_likelyFrom_92 : decode cX2_likelyFrom 92 = .ok (.iadd, 1) := by decide +kernel
theorem dX2_likelyFrom_93 : decode cX2_likelyFrom 93 = .ok (.iaload, 1) := by decide +kernel
theorem dX2_likelyFrom_94 : decode cX2_likelyFrom 94 = .ok (.ireturn, 1) := by decide +kernel
set_option maxRecDepth 20000 in
theorem ggX2_beginLikelies_J7_fill_53178 : GoodIn wsX2_beginLikelies wsJ7_fill_53178 := goodIn_r _ [5] (by decide +kernel) (by decide +kernel)
set_option maxRecDepth 20000 in
theorem gX2_beginLikelies_J7_fill_53178 : GoodIn wsX2_beginLikelies (va_wsS RX2 103 yJ7_fill_53178 wsJ7_fill_53178) := goodIn_app (goodIn_of _ (by decide +kernel)) ggX2_beginLikelies_J7_fill_53178
theorem dX2_beginLikelies_0 : decode cX2_beginLikelies 0 = .ok (.aload_n 0, 1) := by decide +kernel
theorem dX2_beginLikelies_1 : decode cX2_beginLikelies 1 = .ok (.iconst 0, 1) := by decide +kernel
theorem dX2_beginLikelies_2 : decode cX2_beginLikelies 2 = .ok (.invokestatic 103, 3) := by decide +kernel
theorem dX2_beginLikelies_5 : decode cX2_beginLikelies 5 = .ok (.iconst 0, 1) := by decide +kernel
theorem dX2_beginLikelies_6 : decode cX2_beginLikelies 6 = .ok (.istore_n 1, 1) := by decide +kernel
theorem dX2_beginLikelies_7 : decode cX2_beginLikelies 7 = .ok (.iload_n 1, 1) := by decide +kernel
theorem dX2_beginLikelies_8 : decode cX2_beginLikelies 8 = .ok (.bipush 25, 2) := by decide +kernel
theorem dX2_beginLikelies_10 : decode cX2_beginLikelies 10 = .ok (.if_icmp .ge 17, 3) := by decide +kernel
theorem dX2_beginLikelies_13 : decode cX2_beginLikelies 13 = .ok (.aload_n 0, 1) := by decide +kernel
theorem dX2_beginLikelies_14 : decode cX2_beginLikelies 14 = .ok (.iload_n 1, 1) := by decide +kernel
theorem dX2_beginLikelies_15 : decode cX2_beginLikelies 15 = .ok (.bipush 10, 2) := by decide +kernel
theorem dX2_beginLikelies_17 : decode cX2_beginLikelies 17 = .ok (.imul, 1) := by decide +kernel
theorem dX2_beginLikelies_18 : decode cX2_beginLikelies 18 = .ok (.ldc 95, 2) := by decide +kernel
theorem dX2_beginLikelies_20 : decode cX2_beginLikelies 20 = .ok (.iastore, 1) := by decide +kernel
theorem dX2_beginLikelies_21 : decode cX2_beginLikelies 21 = .ok (.iinc 1 1, 3) := by decide +kernel
theorem dX2_beginLikelies_24 : decode cX2_beginLikelies 24 = .ok (.goto (-17), 3) := by decide +kernel
theorem dX2_beginLikelies_27 : decode cX2_beginLikelies 27 = .ok (.return_, 1) := by decide +kernel
set_option maxRecDepth 20000 in
theorem ggX2_fillLikeliesOf_X1_runsOf : GoodIn wsX2_fillLikeliesOf wsX1_runsOf := goodIn_r _ [9, 10, 25, 26] (by decide +kernel) (by decide +kernel)
set_option maxRecDepth 20000 in
theorem gX2_fillLikeliesOf_X1_runsOf : GoodIn wsX2_fillLikeliesOf (wsV RX2 59 RX1 yX1_runsOf wsX1_runsOf) := goodIn_app (goodIn_of _ (by decide +kernel)) ggX2_fillLikeliesOf_X1_runsOf
set_option maxRecDepth 20000 in
theorem ggX2_fillLikeliesOf_X1_standingAfter : GoodIn wsX2_fillLikeliesOf wsX1_standingAfter := goodIn_r _ [14, 15, 25, 26] (by decide +kernel) (by decide +kernel)
set_option maxRecDepth 20000 in
theorem gX2_fillLikeliesOf_X1_standingAfter : GoodIn wsX2_fillLikeliesOf (wsV RX2 53 RX1 yX1_standingAfter wsX1_standingAfter) := goodIn_app (goodIn_of _ (by decide +kernel)) ggX2_fillLikeliesOf_X1_standingAfter
theorem dX2_fillLikeliesOf_0 : decode cX2_fillLikeliesOf 0 = .ok (.iconst 0, 1) := by decide +kernel
theorem dX2_fillLikeliesOf_1 : decode cX2_fillLikeliesOf 1 = .ok (.istore 4, 2) := by decide +kernel
theorem dX2_fillLikeliesOf_3 : decode cX2_fillLikeliesOf 3 = .ok (.iload 4, 2) := by decide +kernel
theorem dX2_fillLikeliesOf_5 : decode cX2_fillLikeliesOf 5 = .ok (.bipush 24, 2) := by decide +kernel
theorem dX2_fillLikeliesOf_7 : decode cX2_fillLikeliesOf 7 = .ok (.if_icmp .ge 125, 3) := by decide +kernel
theorem dX2_fillLikeliesOf_10 : decode cX2_fillLikeliesOf 10 = .ok (.iconst 0, 1) := by decide +kernel
theorem dX2_fillLikeliesOf_11 : decode cX2_fillLikeliesOf 11 = .ok (.istore 5, 2) := by decide +kernel
theorem dX2_fillLikeliesOf_13 : decode cX2_fillLikeliesOf 13 = .ok (.iload 5, 2) := by decide +kernel
theorem dX2_fillLikeliesOf_15 : decode cX2_fillLikeliesOf 15 = .ok (.iload_n 2, 1) := by decide +kernel
theorem dX2_fillLikeliesOf_16 : decode cX2_fillLikeliesOf 16 = .ok (.if_icmp .gt 110, 3) := by decide +kernel
theorem dX2_fillLikeliesOf_19 : decode cX2_fillLikeliesOf 19 = .ok (.lconst 0, 1) := by decide +kernel
theorem dX2_fillLikeliesOf_20 : decode cX2_fillLikeliesOf 20 = .ok (.lstore 6, 2) := by decide +kernel
theorem dX2_fillLikeliesOf_22 : decode cX2_fillLikeliesOf 22 = .ok (.iconst 0, 1) := by decide +kernel
theorem dX2_fillLikeliesOf_23 : decode cX2_fillLikeliesOf 23 = .ok (.istore 8, 2) := by decide +kernel
theorem dX2_fillLikeliesOf_25 : decode cX2_fillLikeliesOf 25 = .ok (.iload 8, 2) := by decide +kernel
theorem dX2_fillLikeliesOf_27 : decode cX2_fillLikeliesOf 27 = .ok (.iconst 5, 1) := by decide +kernel
theorem dX2_fillLikeliesOf_28 : decode cX2_fillLikeliesOf 28 = .ok (.if_icmp .gt 72, 3) := by decide +kernel
theorem dX2_fillLikeliesOf_31 : decode cX2_fillLikeliesOf 31 = .ok (.iload 5, 2) := by decide +kernel
theorem dX2_fillLikeliesOf_33 : decode cX2_fillLikeliesOf 33 = .ok (.aload_n 0, 1) := by decide +kernel
theorem dX2_fillLikeliesOf_34 : decode cX2_fillLikeliesOf 34 = .ok (.getfield 31, 3) := by decide +kernel
theorem dX2_fillLikeliesOf_37 : decode cX2_fillLikeliesOf 37 = .ok (.iload 4, 2) := by decide +kernel
theorem dX2_fillLikeliesOf_39 : decode cX2_fillLikeliesOf 39 = .ok (.iload 8, 2) := by decide +kernel
theorem dX2_fillLikeliesOf_41 : decode cX2_fillLikeliesOf 41 = .ok (.invokevirtual 59, 3) := by decide +kernel
theorem dX2_fillLikeliesOf_44 : decode cX2_fillLikeliesOf 44 = .ok (.isub, 1) := by decide +kernel
theorem dX2_fillLikeliesOf_45 : decode cX2_fillLikeliesOf 45 = .ok (.istore 9, 2) := by decide +kernel
theorem dX2_fillLikeliesOf_47 : decode cX2_fillLikeliesOf 47 = .ok (.aload_n 0, 1) := by decide +kernel
theorem dX2_fillLikeliesOf_48 : decode cX2_fillLikeliesOf 48 = .ok (.getfield 31, 3) := by decide +kernel
theorem dX2_fillLikeliesOf_51 : decode cX2_fillLikeliesOf 51 = .ok (.iload 4, 2) := by decide +kernel
theorem dX2_fillLikeliesOf_53 : decode cX2_fillLikeliesOf 53 = .ok (.iload 8, 2) := by decide +kernel
theorem dX2_fillLikeliesOf_55 : decode cX2_fillLikeliesOf 55 = .ok (.invokevirtual 53, 3) := by decide +kernel
theorem dX2_fillLikeliesOf_58 : decode cX2_fillLikeliesOf 58 = .ok (.bipush 10, 2) := by decide +kernel
theorem dX2_fillLikeliesOf_60 : decode cX2_fillLikeliesOf 60 = .ok (.imul, 1) := by decide +kernel
theorem dX2_fillLikeliesOf_61 : decode cX2_fillLikeliesOf 61 = .ok (.iload 9, 2) := by decide +kernel
theorem dX2_fillLikeliesOf_63 : decode cX2_fillLikeliesOf 63 = .ok (.iadd, 1) := by decide +kernel
theorem dX2_fillLikeliesOf_64 : decode cX2_fillLikeliesOf 64 = .ok (.istore 10, 2) := by decide +kernel
theorem dX2_fillLikeliesOf_66 : decode cX2_fillLikeliesOf 66 = .ok (.lload 6, 2) := by decide +kernel
theorem dX2_fillLikeliesOf_68 : decode cX2_fillLikeliesOf 68 = .ok (.aload_n 1, 1) := by decide +kernel
theorem dX2_fillLikeliesOf_69 : decode cX2_fillLikeliesOf 69 = .ok (.iload 8, 2) := by decide +kernel
theorem dX2_fillLikeliesOf_71 : decode cX2_fillLikeliesOf 71 = .ok (.iaload, 1) := by decide +kernel
theorem dX2_fillLikeliesOf_72 : decode cX2_fillLikeliesOf 72 = .ok (.i2l, 1) := by decide +kernel
theorem dX2_fillLikeliesOf_73 : decode cX2_fillLikeliesOf 73 = .ok (.iload 9, 2) := by decide +kernel
theorem dX2_fillLikeliesOf_75 : decode cX2_fillLikeliesOf 75 = .ok (.ifCond .ge 7, 3) := by decide +kernel
theorem dX2_fillLikeliesOf_78 : decode cX2_fillLikeliesOf 78 = .ok (.iload_n 3, 1) := by decide +kernel
theorem dX2_fillLikeliesOf_79 : decode cX2_fillLikeliesOf 79 = .ok (.goto 10, 3) := by decide +kernel
theorem dX2_fillLikeliesOf_82 : decode cX2_fillLikeliesOf 82 = .ok (.aload_n 0, 1) := by decide +kernel
theorem dX2_fillLikeliesOf_83 : decode cX2_fillLikeliesOf 83 = .ok (.getfield 28, 3) := by decide +kernel
theorem dX2_fillLikeliesOf_86 : decode cX2_fillLikeliesOf 86 = .ok (.iload 10, 2) := by decide +kernel
theorem dX2_fillLikeliesOf_88 : decode cX2_fillLikeliesOf 88 = .ok (.iaload, 1) := by decide +kernel
theorem dX2_fillLikeliesOf_89 : decode cX2_fillLikeliesOf 89 = .ok (.i2l, 1) := by decide +kernel
theorem dX2_fillLikeliesOf_90 : decode cX2_fillLikeliesOf 90 = .ok (.lmul, 1) := by decide +kernel
theorem dX2_fillLikeliesOf_91 : decode cX2_fillLikeliesOf 91 = .ok (.ladd, 1) := by decide +kernel
theorem dX2_fillLikeliesOf_92 : decode cX2_fillLikeliesOf 92 = .ok (.lstore 6, 2) := by decide +kernel
theorem dX2_fillLikeliesOf_94 : decode cX2_fillLikeliesOf 94 = .ok (.iinc 8 1, 3) := by decide +kernel
theorem dX2_fillLikeliesOf_97 : decode cX2_fillLikeliesOf 97 = .ok (.goto (-72), 3) := by decide +kernel
theorem dX2_fillLikeliesOf_100 : decode cX2_fillLikeliesOf 100 = .ok (.aload_n 0, 1) := by decide +kernel
theorem dX2_fillLikeliesOf_101 : decode cX2_fillLikeliesOf 101 = .ok (.getfield 25, 3) := by decide +kernel
theorem dX2_fillLikeliesOf_104 : decode cX2_fillLikeliesOf 104 = .ok (.iload 4, 2) := by decide +kernel
theorem dX2_fillLikeliesOf_106 : decode cX2_fillLikeliesOf 106 = .ok (.bipush 10, 2) := by decide +kernel
theorem dX2_fillLikeliesOf_108 : decode cX2_fillLikeliesOf 108 = .ok (.imul, 1) := by decide +kernel
theorem dX2_fillLikeliesOf_109 : decode cX2_fillLikeliesOf 109 = .ok (.iload 5, 2) := by decide +kernel
theorem dX2_fillLikeliesOf_111 : decode cX2_fillLikeliesOf 111 = .ok (.iadd, 1) := by decide +kernel
theorem dX2_fillLikeliesOf_112 : decode cX2_fillLikeliesOf 112 = .ok (.lload 6, 2) := by decide +kernel
theorem dX2_fillLikeliesOf_114 : decode cX2_fillLikeliesOf 114 = .ok (.ldc2_w 88, 3) := by decide +kernel
theorem dX2_fillLikeliesOf_117 : decode cX2_fillLikeliesOf 117 = .ok (.ldiv, 1) := by decide +kernel
theorem dX2_fillLikeliesOf_118 : decode cX2_fillLikeliesOf 118 = .ok (.l2i, 1) := by decide +kernel
theorem dX2_fillLikeliesOf_119 : decode cX2_fillLikeliesOf 119 = .ok (.iastore, 1) := by decide +kernel
theorem dX2_fillLikeliesOf_120 : decode cX2_fillLikeliesOf 120 = .ok (.iinc 5 1, 3) := by decide +kernel
theorem dX2_fillLikeliesOf_123 : decode cX2_fillLikeliesOf 123 = .ok (.goto (-110), 3) := by decide +kernel
theorem dX2_fillLikeliesOf_126 : decode cX2_fillLikeliesOf 126 = .ok (.iinc 4 1, 3) := by decide +kernel
theorem dX2_fillLikeliesOf_129 : decode cX2_fillLikeliesOf 129 = .ok (.goto (-126), 3) := by decide +kernel
theorem dX2_fillLikeliesOf_132 : decode cX2_fillLikeliesOf 132 = .ok (.return_, 1) := by decide +kernel
set_option maxRecDepth 20000 in
theorem ggX2_exchangeWhileBetter_X2_exchangeFirstBetter : GoodIn wsX2_exchangeWhileBetter wsX2_exchangeFirstBetter := goodIn_r _ [5, 6, 7, 8, 9, 10, 4, 11, 12, 13, 14, 15, 16, 17, 18, 19, 20, 21, 22, 23, 24, 25, 26, 27, 28, 29, 30, 31, 32, 33, 34, 35, 36, 37, 38, 39, 40, 41, 42, 43, 44, 45, 46, 47, 48, 49, 50, 51, 52, 53, 54, 55, 56, 57] (by decide +kernel) (by decide +kernel)
set_option maxRecDepth 20000 in
theorem gX2_exchangeWhileBetter_X2_exchangeFirstBetter : GoodIn wsX2_exchangeWhileBetter (wsV RX2 106 RX2 yX2_exchangeFirstBetter wsX2_exchangeFirstBetter) := goodIn_app (goodIn_of _ (by decide +kernel)) ggX2_exchangeWhileBetter_X2_exchangeFirstBetter
theorem dX2_exchangeWhileBetter_0 : decode cX2_exchangeWhileBetter 0 = .ok (.iconst 0, 1) := by decide +kernel
theorem dX2_exchangeWhileBetter_1 : decode cX2_exchangeWhileBetter 1 = .ok (.istore_n 1, 1) := by decide +kernel
theorem dX2_exchangeWhileBetter_2 : decode cX2_exchangeWhileBetter 2 = .ok (.iload_n 1, 1) := by decide +kernel
theorem dX2_exchangeWhileBetter_3 : decode cX2_exchangeWhileBetter 3 = .ok (.bipush 40, 2) := by decide +kernel
theorem dX2_exchangeWhileBetter_5 : decode cX2_exchangeWhileBetter 5 = .ok (.if_icmp .ge 16, 3) := by decide +kernel
theorem dX2_exchangeWhileBetter_8 : decode cX2_exchangeWhileBetter 8 = .ok (.aload_n 0, 1) := by decide +kernel
theorem dX2_exchangeWhileBetter_9 : decode cX2_exchangeWhileBetter 9 = .ok (.invokevirtual 106, 3) := by decide +kernel
theorem dX2_exchangeWhileBetter_12 : decode cX2_exchangeWhileBetter 12 = .ok (.ifCond .eq 9, 3) := by decide +kernel
theorem dX2_exchangeWhileBetter_15 : decode cX2_exchangeWhileBetter 15 = .ok (.iinc 1 1, 3) := by decide +kernel
theorem dX2_exchangeWhileBetter_18 : decode cX2_exchangeWhileBetter 18 = .ok (.goto (-16), 3) := by decide +kernel
theorem dX2_exchangeWhileBetter_21 : decode cX2_exchangeWhileBetter 21 = .ok (.iload_n 1, 1) := by decide +kernel
theorem dX2_exchangeWhileBetter_22 : decode cX2_exchangeWhileBetter 22 = .ok (.ireturn, 1) := by decide +kernel
set_option maxRecDepth 20000 in
theorem ggX2_exchangeFirstBetter_X2_rateNow : GoodIn wsX2_exchangeFirstBetter wsX2_rateNow := goodIn_r _ [7, 1, 8, 9, 10, 6, 11, 12, 13, 14, 15, 16, 17, 18, 19, 20, 21, 22, 23, 24, 25, 26, 2, 27, 28, 29, 30, 31, 32, 33, 34, 35, 36, 41, 42, 43, 44, 45, 46, 47, 48, 49, 50, 51, 52, 53] (by decide +kernel) (by decide +kernel)
set_option maxRecDepth 20000 in
theorem gX2_exchangeFirstBetter_X2_rateNow : GoodIn wsX2_exchangeFirstBetter (wsV RX2 110 RX2 yX2_rateNow wsX2_rateNow) := goodIn_app (goodIn_of _ (by decide +kernel)) ggX2_exchangeFirstBetter_X2_rateNow
set_option maxRecDepth 20000 in
theorem ggX2_exchangeFirstBetter_X2_exchange : GoodIn wsX2_exchangeFirstBetter wsX2_exchange := goodIn_r _ [40, 2, 41, 42, 43, 44, 45, 46, 47, 48, 49] (by decide +kernel) (by decide +kernel)
set_option maxRecDepth 20000 in
theorem gX2_exchangeFirstBetter_X2_exchange : GoodIn wsX2_exchangeFirstBetter (wsV RX2 114 RX2 yX2_exchange wsX2_exchange) := goodIn_app (goodIn_of _ (by decide +kernel)) ggX2_exchangeFirstBetter_X2_exchange
theorem dX2_exchangeFirstBetter_0 : decode cX2_exchangeFirstBetter 0 = .ok (.aload_n 0, 1) := by decide +kernel
theorem dX2_exchangeFirstBetter_1 : decode cX2_exchangeFirstBetter 1 = .ok (.invokevirtual 110, 3) := by decide +kernel
theorem dX2_exchangeFirstBetter_4 : decode cX2_exchangeFirstBetter 4 = .ok (.istore_n 1, 1) := by decide +kernel
theorem dX2_exchangeFirstBetter_5 : decode cX2_exchangeFirstBetter 5 = .ok (.iconst 0, 1) := by decide +kernel
theorem dX2_exchangeFirstBetter_6 : decode cX2_exchangeFirstBetter 6 = .ok (.istore_n 2, 1) := by decide +kernel
theorem dX2_exchangeFirstBetter_7 : decode cX2_exchangeFirstBetter 7 = .ok (.iload_n 2, 1) := by decide +kernel
theorem dX2_exchangeFirstBetter_8 : decode cX2_exchangeFirstBetter 8 = .ok (.aload_n 0, 1) := by decide +kernel
theorem dX2_exchangeFirstBetter_9 : decode cX2_exchangeFirstBetter 9 = .ok (.getfield 45, 3) := by decide +kernel
theorem dX2_exchangeFirstBetter_12 : decode cX2_exchangeFirstBetter 12 = .ok (.iconst 1, 1) := by decide +kernel
theorem dX2_exchangeFirstBetter_13 : decode cX2_exchangeFirstBetter 13 = .ok (.isub, 1) := by decide +kernel
theorem dX2_exchangeFirstBetter_14 : decode cX2_exchangeFirstBetter 14 = .ok (.if_icmp .ge 67, 3) := by decide +kernel
theorem dX2_exchangeFirstBetter_17 : decode cX2_exchangeFirstBetter 17 = .ok (.iload_n 2, 1) := by decide +kernel
theorem dX2_exchangeFirstBetter_18 : decode cX2_exchangeFirstBetter 18 = .ok (.iconst 1, 1) := by decide +kernel
theorem dX2_exchangeFirstBetter_19 : decode cX2_exchangeFirstBetter 19 = .ok (.iadd, 1) := by decide +kernel
theorem dX2_exchangeFirstBetter_20 : decode cX2_exchangeFirstBetter 20 = .ok (.istore_n 3, 1) := by decide +kernel
theorem dX2_exchangeFirstBetter_21 : decode cX2_exchangeFirstBetter 21 = .ok (.iload_n 3, 1) := by decide +kernel
theorem dX2_exchangeFirstBetter_22 : decode cX2_exchangeFirstBetter 22 = .ok (.aload_n 0, 1) := by decide +kernel
theorem dX2_exchangeFirstBetter_23 : decode cX2_exchangeFirstBetter 23 = .ok (.getfield 45, 3) := by decide +kernel
theorem dX2_exchangeFirstBetter_26 : decode cX2_exchangeFirstBetter 26 = .ok (.if_icmp .ge 49, 3) := by decide +kernel
theorem dX2_exchangeFirstBetter_29 : decode cX2_exchangeFirstBetter 29 = .ok (.aload_n 0, 1) := by decide +kernel
theorem dX2_exchangeFirstBetter_30 : decode cX2_exchangeFirstBetter 30 = .ok (.getfield 9, 3) := by decide +kernel
theorem dX2_exchangeFirstBetter_33 : decode cX2_exchangeFirstBetter 33 = .ok (.iload_n 2, 1) := by decide +kernel
theorem dX2_exchangeFirstBetter_34 : decode cX2_exchangeFirstBetter 34 = .ok (.iaload, 1) := by decide +kernel
theorem dX2_exchangeFirstBetter_35 : decode cX2_exchangeFirstBetter 35 = .ok (.aload_n 0, 1) := by decide +kernel
theorem dX2_exchangeFirstBetter_36 : decode cX2_exchangeFirstBetter 36 = .ok (.getfield 9, 3) := by decide +kernel
theorem dX2_exchangeFirstBetter_39 : decode cX2_exchangeFirstBetter 39 = .ok (.iload_n 3, 1) := by decide +kernel
theorem dX2_exchangeFirstBetter_40 : decode cX2_exchangeFirstBetter 40 = .ok (.iaload, 1) := by decide +kernel
theorem dX2_exchangeFirstBetter_41 : decode cX2_exchangeFirstBetter 41 = .ok (.if_icmp .ne 6, 3) := by decide +kernel
theorem dX2_exchangeFirstBetter_44 : decode cX2_exchangeFirstBetter 44 = .ok (.goto 25, 3) := by decide +kernel
theorem dX2_exchangeFirstBetter_47 : decode cX2_exchangeFirstBetter 47 = .ok (.aload_n 0, 1) := by decide +kernel
theorem dX2_exchangeFirstBetter_48 : decode cX2_exchangeFirstBetter 48 = .ok (.iload_n 2, 1) := by decide +kernel
theorem dX2_exchangeFirstBetter_49 : decode cX2_exchangeFirstBetter 49 = .ok (.iload_n 3, 1) := by decide +kernel
theorem dX2_exchangeFirstBetter_50 : decode cX2_exchangeFirstBetter 50 = .ok (.invokevirtual 114, 3) := by decide +kernel
theorem dX2_exchangeFirstBetter_53 : decode cX2_exchangeFirstBetter 53 = .ok (.aload_n 0, 1) := by decide +kernel
theorem dX2_exchangeFirstBetter_54 : decode cX2_exchangeFirstBetter 54 = .ok (.invokevirtual 110, 3) := by decide +kernel
theorem dX2_exchangeFirstBetter_57 : decode cX2_exchangeFirstBetter 57 = .ok (.iload_n 1, 1) := by decide +kernel
theorem dX2_exchangeFirstBetter_58 : decode cX2_exchangeFirstBetter 58 = .ok (.if_icmp .le 5, 3) := by decide +kernel
theorem dX2_exchangeFirstBetter_61 : decode cX2_exchangeFirstBetter 61 = .ok (.iconst 1, 1) := by decide +kernel
theorem dX2_exchangeFirstBetter_62 : decode cX2_exchangeFirstBetter 62 = .ok (.ireturn, 1) := by decide +kernel
theorem dX2_exchangeFirstBetter_63 : decode cX2_exchangeFirstBetter 63 = .ok (.aload_n 0, 1) := by decide +kernel
theorem dX2_exchangeFirstBetter_64 : decode cX2_exchangeFirstBetter 64 = .ok (.iload_n 2, 1) := by decide +kernel
theorem dX2_exchangeFirstBetter_65 : decode cX2_exchangeFirstBetter 65 = .ok (.iload_n 3, 1) := by decide +kernel
theorem dX2_exchangeFirstBetter_66 : decode cX2_exchangeFirstBetter 66 = .ok (.invokevirtual 114, 3) := by decide +kernel
theorem dX2_exchangeFirstBetter_69 : decode cX2_exchangeFirstBetter 69 = .ok (.iinc 3 1, 3) := by decide +kernel
theorem dX2_exchangeFirstBetter_72 : decode cX2_exchangeFirstBetter 72 = .ok (.goto (-51), 3) := by decide +kernel
theorem dX2_exchangeFirstBetter_75 : decode cX2_exchangeFirstBetter 75 = .ok (.iinc 2 1, 3) := by decide +kernel
theorem dX2_exchangeFirstBetter_78 : decode cX2_exchangeFirstBetter 78 = .ok (.goto (-71), 3) := by decide +kernel
theorem dX2_exchangeFirstBetter_81 : decode cX2_exchangeFirstBetter 81 = .ok (.iconst 0, 1) := by decide +kernel
theorem dX2_exchangeFirstBetter_82 : decode cX2_exchangeFirstBetter 82 = .ok (.ireturn, 1) := by decide +kernel
theorem dX2_exchange_0 : decode cX2_exchange 0 = .ok (.aload_n 0, 1) := by decide +kernel
theorem dX2_exchange_1 : decode cX2_exchange 1 = .ok (.getfield 9, 3) := by decide +kernel
theorem dX2_exchange_4 : decode cX2_exchange 4 = .ok (.iload_n 1, 1) := by decide +kernel
theorem dX2_exchange_5 : decode cX2_exchange 5 = .ok (.iaload, 1) := by decide +kernel
theorem dX2_exchange_6 : decode cX2_exchange 6 = .ok (.istore_n 3, 1) := by decide +kernel
theorem dX2_exchange_7 : decode cX2_exchange 7 = .ok (.aload_n 0, 1) := by decide +kernel
theorem dX2_exchange_8 : decode cX2_exchange 8 = .ok (.getfield 9, 3) := by decide +kernel
theorem dX2_exchange_11 : decode cX2_exchange 11 = .ok (.iload_n 1, 1) := by decide +kernel
theorem dX2_exchange_12 : decode cX2_exchange 12 = .ok (.aload_n 0, 1) := by decide +kernel
theorem dX2_exchange_13 : decode cX2_exchange 13 = .ok (.getfield 9, 3) := by decide +kernel
theorem dX2_exchange_16 : decode cX2_exchange 16 = .ok (.iload_n 2, 1) := by decide +kernel
theorem dX2_exchange_17 : decode cX2_exchange 17 = .ok (.iaload, 1) := by decide +kernel
theorem dX2_exchange_18 : decode cX2_exchange 18 = .ok (.iastore, 1) := by decide +kernel
theorem dX2_exchange_19 : decode cX2_exchange 19 = .ok (.aload_n 0, 1) := by decide +kernel
theorem dX2_exchange_20 : decode cX2_exchange 20 = .ok (.getfield 9, 3) := by decide +kernel
theorem dX2_exchange_23 : decode cX2_exchange 23 = .ok (.iload_n 2, 1) := by decide +kernel
theorem dX2_exchange_24 : decode cX2_exchange 24 = .ok (.iload_n 3, 1) := by decide +kernel
theorem dX2_exchange_25 : decode cX2_exchange 25 = .ok (.iastore, 1) := by decide +kernel
theorem dX2_exchange_26 : decode cX2_exchange 26 = .ok (.return_, 1) := by decide +kernel
set_option maxRecDepth 20000 in
theorem ggX2_becomeBest_X2_sortRow : GoodIn wsX2_becomeBest wsX2_sortRow := goodIn_r _ [12, 3, 1, 13, 14, 15, 11, 16, 58, 59, 60, 61, 62, 63, 64, 65, 66] (by decide +kernel) (by decide +kernel)
set_option maxRecDepth 20000 in
theorem gX2_becomeBest_X2_sortRow : GoodIn wsX2_becomeBest (wsV RX2 117 RX2 yX2_sortRow wsX2_sortRow) := goodIn_app (goodIn_of _ (by decide +kernel)) ggX2_becomeBest_X2_sortRow
set_option maxRecDepth 20000 in
theorem ggX2_becomeBest_X2_halvesWereMetExchanged : GoodIn wsX2_becomeBest wsX2_halvesWereMetExchanged := goodIn_r _ [20, 3, 1, 58, 59, 60, 61, 62, 63, 64, 65, 66] (by decide +kernel) (by decide +kernel)
set_option maxRecDepth 20000 in
theorem gX2_becomeBest_X2_halvesWereMetExchanged : GoodIn wsX2_becomeBest (wsV RX2 120 RX2 yX2_halvesWereMetExchanged wsX2_halvesWereMetExchanged) := goodIn_app (goodIn_of _ (by decide +kernel)) ggX2_becomeBest_X2_halvesWereMetExchanged
set_option maxRecDepth 20000 in
theorem ggX2_becomeBest_X2_rateNow : GoodIn wsX2_becomeBest wsX2_rateNow := goodIn_r _ [24, 3, 25, 26, 27, 11, 28, 29, 30, 31, 32, 33, 34, 35, 36, 37, 38, 39, 40, 41, 42, 43, 1, 44, 45, 46, 47, 48, 49, 50, 51, 52, 53, 58, 59, 60, 61, 62, 63, 64, 65, 66, 67, 68, 69, 70] (by decide +kernel) (by decide +kernel)
set_option maxRecDepth 20000 in
theorem gX2_becomeBest_X2_rateNow : GoodIn wsX2_becomeBest (wsV RX2 110 RX2 yX2_rateNow wsX2_rateNow) := goodIn_app (goodIn_of _ (by decide +kernel)) ggX2_becomeBest_X2_rateNow
set_option maxRecDepth 20000 in
theorem ggX2_becomeBest_X2_nextRow : GoodIn wsX2_becomeBest wsX2_nextRow := goodIn_r _ [57, 3, 1, 13, 14, 15, 11, 16, 58, 59, 60, 61, 62, 63, 64, 65, 66] (by decide +kernel) (by decide +kernel)
set_option maxRecDepth 20000 in
theorem gX2_becomeBest_X2_nextRow : GoodIn wsX2_becomeBest (wsV RX2 123 RX2 yX2_nextRow wsX2_nextRow) := goodIn_app (goodIn_of _ (by decide +kernel)) ggX2_becomeBest_X2_nextRow
theorem dX2_becomeBest_0 : decode cX2_becomeBest 0 = .ok (.aload_n 0, 1) := by decide +kernel
theorem dX2_becomeBest_1 : decode cX2_becomeBest 1 = .ok (.invokevirtual 117, 3) := by decide +kernel
theorem dX2_becomeBest_4 : decode cX2_becomeBest 4 = .ok (.iconst (-1), 1) := by decide +kernel
theorem dX2_becomeBest_5 : decode cX2_becomeBest 5 = .ok (.istore_n 1, 1) := by decide +kernel
theorem dX2_becomeBest_6 : decode cX2_becomeBest 6 = .ok (.iconst 0, 1) := by decide +kernel
theorem dX2_becomeBest_7 : decode cX2_becomeBest 7 = .ok (.istore_n 2, 1) := by decide +kernel
theorem dX2_becomeBest_8 : decode cX2_becomeBest 8 = .ok (.iload_n 2, 1) := by decide +kernel
theorem dX2_becomeBest_9 : decode cX2_becomeBest 9 = .ok (.sipush 720, 3) := by decide +kernel
theorem dX2_becomeBest_12 : decode cX2_becomeBest 12 = .ok (.if_icmp .ge 55, 3) := by decide +kernel
theorem dX2_becomeBest_15 : decode cX2_becomeBest 15 = .ok (.aload_n 0, 1) := by decide +kernel
theorem dX2_becomeBest_16 : decode cX2_becomeBest 16 = .ok (.invokevirtual 120, 3) := by decide +kernel
theorem dX2_becomeBest_19 : decode cX2_becomeBest 19 = .ok (.ifCond .ne 32, 3) := by decide +kernel
theorem dX2_becomeBest_22 : decode cX2_becomeBest 22 = .ok (.aload_n 0, 1) := by decide +kernel
theorem dX2_becomeBest_23 : decode cX2_becomeBest 23 = .ok (.invokevirtual 110, 3) := by decide +kernel
theorem dX2_becomeBest_26 : decode cX2_becomeBest 26 = .ok (.istore_n 3, 1) := by decide +kernel
theorem dX2_becomeBest_27 : decode cX2_becomeBest 27 = .ok (.iload_n 3, 1) := by decide +kernel
theorem dX2_becomeBest_28 : decode cX2_becomeBest 28 = .ok (.iload_n 1, 1) := by decide +kernel
theorem dX2_becomeBest_29 : decode cX2_becomeBest 29 = .ok (.if_icmp .le 22, 3) := by decide +kernel
theorem dX2_becomeBest_32 : decode cX2_becomeBest 32 = .ok (.iload_n 3, 1) := by decide +kernel
theorem dX2_becomeBest_33 : decode cX2_becomeBest 33 = .ok (.istore_n 1, 1) := by decide +kernel
theorem dX2_becomeBest_34 : decode cX2_becomeBest 34 = .ok (.aload_n 0, 1) := by decide +kernel
theorem dX2_becomeBest_35 : decode cX2_becomeBest 35 = .ok (.getfield 9, 3) := by decide +kernel
theorem dX2_becomeBest_38 : decode cX2_becomeBest 38 = .ok (.iconst 0, 1) := by decide +kernel
theorem dX2_becomeBest_39 : decode cX2_becomeBest 39 = .ok (.aload_n 0, 1) := by decide +kernel
theorem dX2_becomeBest_40 : decode cX2_becomeBest 40 = .ok (.getfield 15, 3) := by decide +kernel
theorem dX2_becomeBest_43 : decode cX2_becomeBest 43 = .ok (.iconst 0, 1) := by decide +kernel
theorem dX2_becomeBest_44 : decode cX2_becomeBest 44 = .ok (.aload_n 0, 1) := by decide +kernel
theorem dX2_becomeBest_45 : decode cX2_becomeBest 45 = .ok (.getfield 45, 3) := by decide +kernel
theorem dX2_becomeBest_48 : decode cX2_becomeBest 48 = .ok (.invokestatic 39, 3) := by decide +kernel
theorem dX2_becomeBest_51 : decode cX2_becomeBest 51 = .ok (.aload_n 0, 1) := by decide +kernel
theorem dX2_becomeBest_52 : decode cX2_becomeBest 52 = .ok (.invokevirtual 123, 3) := by decide +kernel
theorem dX2_becomeBest_55 : decode cX2_becomeBest 55 = .ok (.ifCond .ne 6, 3) := by decide +kernel
theorem dX2_becomeBest_58 : decode cX2_becomeBest 58 = .ok (.goto 9, 3) := by decide +kernel
theorem dX2_becomeBest_61 : decode cX2_becomeBest 61 = .ok (.iinc 2 1, 3) := by decide +kernel
theorem dX2_becomeBest_64 : decode cX2_becomeBest 64 = .ok (.goto (-56), 3) := by decide +kernel
theorem dX2_becomeBest_67 : decode cX2_becomeBest 67 = .ok (.aload_n 0, 1) := by decide +kernel
theorem dX2_becomeBest_68 : decode cX2_becomeBest 68 = .ok (.getfield 15, 3) := by decide +kernel
theorem dX2_becomeBest_71 : decode cX2_becomeBest 71 = .ok (.iconst 0, 1) := by decide +kernel
theorem dX2_becomeBest_72 : decode cX2_becomeBest 72 = .ok (.aload_n 0, 1) := by decide +kernel
theorem dX2_becomeBest_73 : decode cX2_becomeBest 73 = .ok (.getfield 9, 3) := by decide +kernel
theorem dX2_becomeBest_76 : decode cX2_becomeBest 76 = .ok (.iconst 0, 1) := by decide +kernel
theorem dX2_becomeBest_77 : decode cX2_becomeBest 77 = .ok (.aload_n 0, 1) := by decide +kernel
theorem dX2_becomeBest_78 : decode cX2_becomeBest 78 = .ok (.getfield 45, 3) := by decide +kernel
theorem dX2_becomeBest_81 : decode cX2_becomeBest 81 = .ok (.invokestatic 39, 3) := by decide +kernel
theorem dX2_becomeBest_84 : decode cX2_becomeBest 84 = .ok (.iload_n 1, 1) := by decide +kernel
theorem dX2_becomeBest_85 : decode cX2_becomeBest 85 = .ok (.ireturn, 1) := by decide +kernel
theorem dX2_halvesWereMetExchanged_0 : decode cX2_halvesWereMetExchanged 0 = .ok (.aload_n 0, 1) := by decide +kernel
theorem dX2_halvesWereMetExchanged_1 : decode cX2_halvesWereMetExchanged 1 = .ok (.getfield 45, 3) := by decide +kernel
theorem dX2_halvesWereMetExchanged_4 : decode cX2_halvesWereMetExchanged 4 = .ok (.iconst 2, 1) := by decide +kernel
theorem dX2_halvesWereMetExchanged_5 : decode cX2_halvesWereMetExchanged 5 = .ok (.idiv, 1) := by decide +kernel
theorem dX2_halvesWereMetExchanged_6 : decode cX2_halvesWereMetExchanged 6 = .ok (.istore_n 1, 1) := by decide +kernel
theorem dX2_halvesWereMetExchanged_7 : decode cX2_halvesWereMetExchanged 7 = .ok (.iload_n 1, 1) := by decide +kernel
theorem dX2_halvesWereMetExchanged_8 : decode cX2_halvesWereMetExchanged 8 = .ok (.iconst 2, 1) := by decide +kernel
theorem dX2_halvesWereMetExchanged_9 : decode cX2_halvesWereMetExchanged 9 = .ok (.imul, 1) := by decide +kernel
theorem dX2_halvesWereMetExchanged_10 : decode cX2_halvesWereMetExchanged 10 = .ok (.aload_n 0, 1) := by decide +kernel
theorem dX2_halvesWereMetExchanged_11 : decode cX2_halvesWereMetExchanged 11 = .ok (.getfield 45, 3) := by decide +kernel
theorem dX2_halvesWereMetExchanged_14 : decode cX2_halvesWereMetExchanged 14 = .ok (.if_icmp .eq 5, 3) := by decide +kernel
theorem dX2_halvesWereMetExchanged_17 : decode cX2_halvesWereMetExchanged 17 = .ok (.iconst 0, 1) := by decide +kernel
theorem dX2_halvesWereMetExchanged_18 : decode cX2_halvesWereMetExchanged 18 = .ok (.ireturn, 1) := by decide +kernel
theorem dX2_halvesWereMetExchanged_19 : decode cX2_halvesWereMetExchanged 19 = .ok (.iconst 0, 1) := by decide +kernel
theorem dX2_halvesWereMetExchanged_20 : decode cX2_halvesWereMetExchanged 20 = .ok (.istore_n 2, 1) := by decide +kernel
theorem dX2_halvesWereMetExchanged_21 : decode cX2_halvesWereMetExchanged 21 = .ok (.iload_n 2, 1) := by decide +kernel
theorem dX2_halvesWereMetExchanged_22 : decode cX2_halvesWereMetExchanged 22 = .ok (.iload_n 1, 1) := by decide +kernel
theorem dX2_halvesWereMetExchanged_23 : decode cX2_halvesWereMetExchanged 23 = .ok (.if_icmp .ge 49, 3) := by decide +kernel
theorem dX2_halvesWereMetExchanged_26 : decode cX2_halvesWereMetExchanged 26 = .ok (.aload_n 0, 1) := by decide +kernel
theorem dX2_halvesWereMetExchanged_27 : decode cX2_halvesWereMetExchanged 27 = .ok (.getfield 9, 3) := by decide +kernel
theorem dX2_halvesWereMetExchanged_30 : decode cX2_halvesWereMetExchanged 30 = .ok (.iload_n 2, 1) := by decide +kernel
theorem dX2_halvesWereMetExchanged_31 : decode cX2_halvesWereMetExchanged 31 = .ok (.iaload, 1) := by decide +kernel
theorem dX2_halvesWereMetExchanged_32 : decode cX2_halvesWereMetExchanged 32 = .ok (.aload_n 0, 1) := by decide +kernel
theorem dX2_halvesWereMetExchanged_33 : decode cX2_halvesWereMetExchanged 33 = .ok (.getfield 9, 3) := by decide +kernel
theorem dX2_halvesWereMetExchanged_36 : decode cX2_halvesWereMetExchanged 36 = .ok (.iload_n 2, 1) := by decide +kernel
theorem dX2_halvesWereMetExchanged_37 : decode cX2_halvesWereMetExchanged 37 = .ok (.iload_n 1, 1) := by decide +kernel
theorem dX2_halvesWereMetExchanged_38 : decode cX2_halvesWereMetExchanged 38 = .ok (.iadd, 1) := by decide +kernel
theorem dX2_halvesWereMetExchanged_39 : decode cX2_halvesWereMetExchanged 39 = .ok (.iaload, 1) := by decide +kernel
theorem dX2_halvesWereMetExchanged_40 : decode cX2_halvesWereMetExchanged 40 = .ok (.if_icmp .eq 26, 3) := by decide +kernel
theorem dX2_halvesWereMetExchanged_43 : decode cX2_halvesWereMetExchanged 43 = .ok (.aload_n 0, 1) := by decide +kernel
theorem dX2_halvesWereMetExchanged_44 : decode cX2_halvesWereMetExchanged 44 = .ok (.getfield 9, 3) := by decide +kernel
theorem dX2_halvesWereMetExchanged_47 : decode cX2_halvesWereMetExchanged 47 = .ok (.iload_n 2, 1) := by decide +kernel
theorem dX2_halvesWereMetExchanged_48 : decode cX2_halvesWereMetExchanged 48 = .ok (.iload_n 1, 1) := by decide +kernel
theorem dX2_halvesWereMetExchanged_49 : decode cX2_halvesWereMetExchanged 49 = .ok (.iadd, 1) := by decide +kernel
theorem dX2_halvesWereMetExchanged_50 : decode cX2_halvesWereMetExchanged 50 = .ok (.iaload, 1) := by decide +kernel
theorem dX2_halvesWereMetExchanged_51 : decode cX2_halvesWereMetExchanged 51 = .ok (.aload_n 0, 1) := by decide +kernel
theorem dX2_halvesWereMetExchanged_52 : decode cX2_halvesWereMetExchanged 52 = .ok (.getfield 9, 3) := by decide +kernel
theorem dX2_halvesWereMetExchanged_55 : decode cX2_halvesWereMetExchanged 55 = .ok (.iload_n 2, 1) := by decide +kernel
theorem dX2_halvesWereMetExchanged_56 : decode cX2_halvesWereMetExchanged 56 = .ok (.iaload, 1) := by decide +kernel
theorem dX2_halvesWereMetExchanged_57 : decode cX2_halvesWereMetExchanged 57 = .ok (.if_icmp .ge 7, 3) := by decide +kernel
theorem dX2_halvesWereMetExchanged_60 : decode cX2_halvesWereMetExchanged 60 = .ok (.iconst 1, 1) := by decide +kernel
theorem dX2_halvesWereMetExchanged_61 : decode cX2_halvesWereMetExchanged 61 = .ok (.goto 4, 3) := by decide +kernel
theorem dX2_halvesWereMetExchanged_64 : decode cX2_halvesWereMetExchanged 64 = .ok (.iconst 0, 1) := by decide +kernel
theorem dX2_halvesWereMetExchanged_65 : decode cX2_halvesWereMetExchanged 65 = .ok (.ireturn, 1) := by decide +kernel
theorem dX2_halvesWereMetExchanged_66 : decode cX2_halvesWereMetExchanged 66 = .ok (.iinc 2 1, 3) := by decide +kernel
theorem dX2_halvesWereMetExchanged_69 : decode cX2_halvesWereMetExchanged 69 = .ok (.goto (-48), 3) := by decide +kernel
theorem dX2_halvesWereMetExchanged_72 : decode cX2_halvesWereMetExchanged 72 = .ok (.iconst 0, 1) := by decide +kernel
theorem dX2_halvesWereMetExchanged_73 : decode cX2_halvesWereMetExchanged 73 = .ok (.ireturn, 1) := by decide +kernel
set_option maxRecDepth 20000 in
theorem ggX2_sortRow_X2_exchange : GoodIn wsX2_sortRow wsX2_exchange := goodIn_r _ [7, 2, 8, 9, 10, 11, 12, 13, 14, 15, 16] (by decide +kernel) (by decide +kernel)
set_option maxRecDepth 20000 in
theorem gX2_sortRow_X2_exchange : GoodIn wsX2_sortRow (wsV RX2 114 RX2 yX2_exchange wsX2_exchange) := goodIn_app (goodIn_of _ (by decide +kernel)) ggX2_sortRow_X2_exchange
theorem dX2_sortRow_0 : decode cX2_sortRow 0 = .ok (.iconst 0, 1) := by decide +kernel
theorem dX2_sortRow_1 : decode cX2_sortRow 1 = .ok (.istore_n 1, 1) := by decide +kernel
theorem dX2_sortRow_2 : decode cX2_sortRow 2 = .ok (.iload_n 1, 1) := by decide +kernel
theorem dX2_sortRow_3 : decode cX2_sortRow 3 = .ok (.aload_n 0, 1) := by decide +kernel
theorem dX2_sortRow_4 : decode cX2_sortRow 4 = .ok (.getfield 45, 3) := by decide +kernel
theorem dX2_sortRow_7 : decode cX2_sortRow 7 = .ok (.iconst 1, 1) := by decide +kernel
theorem dX2_sortRow_8 : decode cX2_sortRow 8 = .ok (.isub, 1) := by decide +kernel
theorem dX2_sortRow_9 : decode cX2_sortRow 9 = .ok (.if_icmp .ge 48, 3) := by decide +kernel
theorem dX2_sortRow_12 : decode cX2_sortRow 12 = .ok (.iload_n 1, 1) := by decide +kernel
theorem dX2_sortRow_13 : decode cX2_sortRow 13 = .ok (.iconst 1, 1) := by decide +kernel
theorem dX2_sortRow_14 : decode cX2_sortRow 14 = .ok (.iadd, 1) := by decide +kernel
theorem dX2_sortRow_15 : decode cX2_sortRow 15 = .ok (.istore_n 2, 1) := by decide +kernel
theorem dX2_sortRow_16 : decode cX2_sortRow 16 = .ok (.iload_n 2, 1) := by decide +kernel
theorem dX2_sortRow_17 : decode cX2_sortRow 17 = .ok (.aload_n 0, 1) := by decide +kernel
theorem dX2_sortRow_18 : decode cX2_sortRow 18 = .ok (.getfield 45, 3) := by decide +kernel
theorem dX2_sortRow_21 : decode cX2_sortRow 21 = .ok (.if_icmp .ge 30, 3) := by decide +kernel
theorem dX2_sortRow_24 : decode cX2_sortRow 24 = .ok (.aload_n 0, 1) := by decide +kernel
theorem dX2_sortRow_25 : decode cX2_sortRow 25 = .ok (.getfield 9, 3) := by decide +kernel
theorem dX2_sortRow_28 : decode cX2_sortRow 28 = .ok (.iload_n 2, 1) := by decide +kernel
theorem dX2_sortRow_29 : decode cX2_sortRow 29 = .ok (.iaload, 1) := by decide +kernel
theorem dX2_sortRow_30 : decode cX2_sortRow 30 = .ok (.aload_n 0, 1) := by decide +kernel
theorem dX2_sortRow_31 : decode cX2_sortRow 31 = .ok (.getfield 9, 3) := by decide +kernel
theorem dX2_sortRow_34 : decode cX2_sortRow 34 = .ok (.iload_n 1, 1) := by decide +kernel
theorem dX2_sortRow_35 : decode cX2_sortRow 35 = .ok (.iaload, 1) := by decide +kernel
theorem dX2_sortRow_36 : decode cX2_sortRow 36 = .ok (.if_icmp .ge 9, 3) := by decide +kernel
theorem dX2_sortRow_39 : decode cX2_sortRow 39 = .ok (.aload_n 0, 1) := by decide +kernel
theorem dX2_sortRow_40 : decode cX2_sortRow 40 = .ok (.iload_n 1, 1) := by decide +kernel
theorem dX2_sortRow_41 : decode cX2_sortRow 41 = .ok (.iload_n 2, 1) := by decide +kernel
theorem dX2_sortRow_42 : decode cX2_sortRow 42 = .ok (.invokevirtual 114, 3) := by decide +kernel
theorem dX2_sortRow_45 : decode cX2_sortRow 45 = .ok (.iinc 2 1, 3) := by decide +kernel
theorem dX2_sortRow_48 : decode cX2_sortRow 48 = .ok (.goto (-32), 3) := by decide +kernel
theorem dX2_sortRow_51 : decode cX2_sortRow 51 = .ok (.iinc 1 1, 3) := by decide +kernel
theorem dX2_sortRow_54 : decode cX2_sortRow 54 = .ok (.goto (-52), 3) := by decide +kernel
theorem dX2_sortRow_57 : decode cX2_sortRow 57 = .ok (.return_, 1) := by decide +kernel
set_option maxRecDepth 20000 in
theorem ggX2_nextRow_X2_exchange : GoodIn wsX2_nextRow wsX2_exchange := goodIn_r _ [7, 2, 8, 9, 10, 11, 12, 13, 14, 15, 16] (by decide +kernel) (by decide +kernel)
set_option maxRecDepth 20000 in
theorem gX2_nextRow_X2_exchange : GoodIn wsX2_nextRow (wsV RX2 114 RX2 yX2_exchange wsX2_exchange) := goodIn_app (goodIn_of _ (by decide +kernel)) ggX2_nextRow_X2_exchange
theorem dX2_nextRow_0 : decode cX2_nextRow 0 = .ok (.aload_n 0, 1) := by decide +kernel
theorem dX2_nextRow_1 : decode cX2_nextRow 1 = .ok (.getfield 45, 3) := by decide +kernel
theorem dX2_nextRow_4 : decode cX2_nextRow 4 = .ok (.iconst 2, 1) := by decide +kernel
theorem dX2_nextRow_5 : decode cX2_nextRow 5 = .ok (.isub, 1) := by decide +kernel
theorem dX2_nextRow_6 : decode cX2_nextRow 6 = .ok (.istore_n 1, 1) := by decide +kernel
theorem dX2_nextRow_7 : decode cX2_nextRow 7 = .ok (.iload_n 1, 1) := by decide +kernel
theorem dX2_nextRow_8 : decode cX2_nextRow 8 = .ok (.ifCond .lt 26, 3) := by decide +kernel
theorem dX2_nextRow_11 : decode cX2_nextRow 11 = .ok (.aload_n 0, 1) := by decide +kernel
theorem dX2_nextRow_12 : decode cX2_nextRow 12 = .ok (.getfield 9, 3) := by decide +kernel
theorem dX2_nextRow_15 : decode cX2_nextRow 15 = .ok (.iload_n 1, 1) := by decide +kernel
theorem dX2_nextRow_16 : decode cX2_nextRow 16 = .ok (.iaload, 1) := by decide +kernel
theorem dX2_nextRow_17 : decode cX2_nextRow 17 = .ok (.aload_n 0, 1) := by decide +kernel
theorem dX2_nextRow_18 : decode cX2_nextRow 18 = .ok (.getfield 9, 3) := by decide +kernel
theorem dX2_nextRow_21 : decode cX2_nextRow 21 = .ok (.iload_n 1, 1) := by decide +kernel
theorem dX2_nextRow_22 : decode cX2_nextRow 22 = .ok (.iconst 1, 1) := by decide +kernel
theorem dX2_nextRow_23 : decode cX2_nextRow 23 = .ok (.iadd, 1) := by decide +kernel
theorem dX2_nextRow_24 : decode cX2_nextRow 24 = .ok (.iaload, 1) := by decide +kernel
theorem dX2_nextRow_25 : decode cX2_nextRow 25 = .ok (.if_icmp .lt 9, 3) := by decide +kernel
theorem dX2_nextRow_28 : decode cX2_nextRow 28 = .ok (.iinc 1 (-1), 3) := by decide +kernel
theorem dX2_nextRow_31 : decode cX2_nextRow 31 = .ok (.goto (-24), 3) := by decide +kernel
theorem dX2_nextRow_34 : decode cX2_nextRow 34 = .ok (.iload_n 1, 1) := by decide +kernel
theorem dX2_nextRow_35 : decode cX2_nextRow 35 = .ok (.ifCond .ge 5, 3) := by decide +kernel
theorem dX2_nextRow_38 : decode cX2_nextRow 38 = .ok (.iconst 0, 1) := by decide +kernel
theorem dX2_nextRow_39 : decode cX2_nextRow 39 = .ok (.ireturn, 1) := by decide +kernel
theorem dX2_nextRow_40 : decode cX2_nextRow 40 = .ok (.aload_n 0, 1) := by decide +kernel
theorem dX2_nextRow_41 : decode cX2_nextRow 41 = .ok (.getfield 45, 3) := by decide +kernel
theorem dX2_nextRow_44 : decode cX2_nextRow 44 = .ok (.iconst 1, 1) := by decide +kernel
theorem dX2_nextRow_45 : decode cX2_nextRow 45 = .ok (.isub, 1) := by decide +kernel
theorem dX2_nextRow_46 : decode cX2_nextRow 46 = .ok (.istore_n 2, 1) := by decide +kernel
theorem dX2_nextRow_47 : decode cX2_nextRow 47 = .ok (.iload_n 2, 1) := by decide +kernel
theorem dX2_nextRow_48 : decode cX2_nextRow 48 = .ok (.iload_n 1, 1) := by decide +kernel
theorem dX2_nextRow_49 : decode cX2_nextRow 49 = .ok (.if_icmp .le 24, 3) := by decide +kernel
theorem dX2_nextRow_52 : decode cX2_nextRow 52 = .ok (.aload_n 0, 1) := by decide +kernel
theorem dX2_nextRow_53 : decode cX2_nextRow 53 = .ok (.getfield 9, 3) := by decide +kernel
theorem dX2_nextRow_56 : decode cX2_nextRow 56 = .ok (.iload_n 2, 1) := by decide +kernel
theorem dX2_nextRow_57 : decode cX2_nextRow 57 = .ok (.iaload, 1) := by decide +kernel
theorem dX2_nextRow_58 : decode cX2_nextRow 58 = .ok (.aload_n 0, 1) := by decide +kernel
theorem dX2_nextRow_59 : decode cX2_nextRow 59 = .ok (.getfield 9, 3) := by decide +kernel
theorem dX2_nextRow_62 : decode cX2_nextRow 62 = .ok (.iload_n 1, 1) := by decide +kernel
theorem dX2_nextRow_63 : decode cX2_nextRow 63 = .ok (.iaload, 1) := by decide +kernel
theorem dX2_nextRow_64 : decode cX2_nextRow 64 = .ok (.if_icmp .gt 9, 3) := by decide +kernel
theorem dX2_nextRow_67 : decode cX2_nextRow 67 = .ok (.iinc 2 (-1), 3) := by decide +kernel
theorem dX2_nextRow_70 : decode cX2_nextRow 70 = .ok (.goto (-23), 3) := by decide +kernel
theorem dX2_nextRow_73 : decode cX2_nextRow 73 = .ok (.aload_n 0, 1) := by decide +kernel
theorem dX2_nextRow_74 : decode cX2_nextRow 74 = .ok (.iload_n 1, 1) := by decide +kernel
theorem dX2_nextRow_75 : decode cX2_nextRow 75 = .ok (.iload_n 2, 1) := by decide +kernel
theorem dX2_nextRow_76 : decode cX2_nextRow 76 = .ok (.invokevirtual 114, 3) := by decide +kernel
theorem dX2_nextRow_79 : decode cX2_nextRow 79 = .ok (.iload_n 1, 1) := by decide +kernel
theorem dX2_nextRow_80 : decode cX2_nextRow 80 = .ok (.iconst 1, 1) := by decide +kernel
theorem dX2_nextRow_81 : decode cX2_nextRow 81 = .ok (.iadd, 1) := by decide +kernel
theorem dX2_nextRow_82 : decode cX2_nextRow 82 = .ok (.istore_n 3, 1) := by decide +kernel
theorem dX2_nextRow_83 : decode cX2_nextRow 83 = .ok (.aload_n 0, 1) := by decide +kernel
theorem dX2_nextRow_84 : decode cX2_nextRow 84 = .ok (.getfield 45, 3) := by decide +kernel
theorem dX2_nextRow_87 : decode cX2_nextRow 87 = .ok (.iconst 1, 1) := by decide +kernel
theorem dX2_nextRow_88 : decode cX2_nextRow 88 = .ok (.isub, 1) := by decide +kernel
theorem dX2_nextRow_89 : decode cX2_nextRow 89 = .ok (.istore 4, 2) := by decide +kernel
theorem dX2_nextRow_91 : decode cX2_nextRow 91 = .ok (.iload_n 3, 1) := by decide +kernel
theorem dX2_nextRow_92 : decode cX2_nextRow 92 = .ok (.iload 4, 2) := by decide +kernel
theorem dX2_nextRow_94 : decode cX2_nextRow 94 = .ok (.if_icmp .ge 19, 3) := by decide +kernel
theorem dX2_nextRow_97 : decode cX2_nextRow 97 = .ok (.aload_n 0, 1) := by decide +kernel
theorem dX2_nextRow_98 : decode cX2_nextRow 98 = .ok (.iload_n 3, 1) := by decide +kernel
theorem dX2_nextRow_99 : decode cX2_nextRow 99 = .ok (.iload 4, 2) := by decide +kernel
theorem dX2_nextRow_101 : decode cX2_nextRow 101 = .ok (.invokevirtual 114, 3) := by decide +kernel
theorem dX2_nextRow_104 : decode cX2_nextRow 104 = .ok (.iinc 3 1, 3) := by decide +kernel
theorem dX2_nextRow_107 : decode cX2_nextRow 107 = .ok (.iinc 4 (-1), 3) := by decide +kernel
theorem dX2_nextRow_110 : decode cX2_nextRow 110 = .ok (.goto (-19), 3) := by decide +kernel
theorem dX2_nextRow_113 : decode cX2_nextRow 113 = .ok (.iconst 1, 1) := by decide +kernel
theorem dX2_nextRow_114 : decode cX2_nextRow 114 = .ok (.ireturn, 1) := by decide +kernel
theorem dX3_init_0 : decode cX3_init 0 = .ok (.aload_n 0, 1) := by decide +kernel
theorem dX3_init_1 : decode cX3_init 1 = .ok (.invokespecial 3, 3) := by decide +kernel
theorem dX3_init_4 : decode cX3_init 4 = .ok (.aload_n 0, 1) := by decide +kernel
theorem dX3_init_5 : decode cX3_init 5 = .ok (.bipush 9, 2) := by decide +kernel
theorem dX3_init_7 : decode cX3_init 7 = .ok (.newarray .int, 2) := by decide +kernel
theorem dX3_init_9 : decode cX3_init 9 = .ok (.putfield 9, 3) := by decide +kernel
theorem dX3_init_12 : decode cX3_init 12 = .ok (.aload_n 0, 1) := by decide +kernel
theorem dX3_init_13 : decode cX3_init 13 = .ok (.aload_n 1, 1) := by decide +kernel
theorem dX3_init_14 : decode cX3_init 14 = .ok (.putfield 15, 3) := by decide +kernel
theorem dX3_init_17 : decode cX3_init 17 = .ok (.return_, 1) := by decide +kernel
set_option maxRecDepth 20000 in
theorem ggX3_read_J7_fill_53178 : GoodIn wsX3_read wsJ7_fill_53178 := goodIn_r _ [10] (by decide +kernel) (by decide +kernel)
set_option maxRecDepth 20000 in
theorem gX3_read_J7_fill_53178 : GoodIn wsX3_read (va_wsS RX3 19 yJ7_fill_53178 wsJ7_fill_53178) := goodIn_app (goodIn_of _ (by decide +kernel)) ggX3_read_J7_fill_53178
set_option maxRecDepth 20000 in
theorem ggX3_read_X3_fits : GoodIn wsX3_read wsX3_fits := goodIn_r _ [15, 6, 16, 2, 1, 4, 5, 17, 18, 19, 20, 21, 22, 23, 24, 25, 26, 27, 28, 29, 30, 31, 32, 33, 34, 35, 36, 37, 38] (by decide +kernel) (by decide +kernel)
set_option maxRecDepth 20000 in
theorem gX3_read_X3_fits : GoodIn wsX3_read (wsV RX3 39 RX3 yX3_fits wsX3_fits) := goodIn_app (goodIn_of _ (by decide +kernel)) ggX3_read_X3_fits
theorem dX3_read_0 : decode cX3_read 0 = .ok (.aload_n 0, 1) := by decide +kernel
theorem dX3_read_1 : decode cX3_read 1 = .ok (.getfield 9, 3) := by decide +kernel
theorem dX3_read_4 : decode cX3_read 4 = .ok (.iconst 0, 1) := by decide +kernel
theorem dX3_read_5 : decode cX3_read 5 = .ok (.invokestatic 19, 3) := by decide +kernel
theorem dX3_read_8 : decode cX3_read 8 = .ok (.aload_n 0, 1) := by decide +kernel
theorem dX3_read_9 : decode cX3_read 9 = .ok (.ldc 25, 2) := by decide +kernel
theorem dX3_read_11 : decode cX3_read 11 = .ok (.putfield 26, 3) := by decide +kernel
theorem dX3_read_14 : decode cX3_read 14 = .ok (.aload_n 0, 1) := by decide +kernel
theorem dX3_read_15 : decode cX3_read 15 = .ok (.iconst 0, 1) := by decide +kernel
theorem dX3_read_16 : decode cX3_read 16 = .ok (.putfield 30, 3) := by decide +kernel
theorem dX3_read_19 : decode cX3_read 19 = .ok (.aload_n 0, 1) := by decide +kernel
theorem dX3_read_20 : decode cX3_read 20 = .ok (.iconst 0, 1) := by decide +kernel
theorem dX3_read_21 : decode cX3_read 21 = .ok (.putfield 33, 3) := by decide +kernel
theorem dX3_read_24 : decode cX3_read 24 = .ok (.aload_n 0, 1) := by decide +kernel
theorem dX3_read_25 : decode cX3_read 25 = .ok (.iconst 0, 1) := by decide +kernel
theorem dX3_read_26 : decode cX3_read 26 = .ok (.putfield 36, 3) := by decide +kernel
theorem dX3_read_29 : decode cX3_read 29 = .ok (.iconst 0, 1) := by decide +kernel
theorem dX3_read_30 : decode cX3_read 30 = .ok (.istore 4, 2) := by decide +kernel
theorem dX3_read_32 : decode cX3_read 32 = .ok (.iload 4, 2) := by decide +kernel
theorem dX3_read_34 : decode cX3_read 34 = .ok (.iload_n 3, 1) := by decide +kernel
theorem dX3_read_35 : decode cX3_read 35 = .ok (.if_icmp .ge 55, 3) := by decide +kernel
theorem dX3_read_38 : decode cX3_read 38 = .ok (.aload_n 0, 1) := by decide +kernel
theorem dX3_read_39 : decode cX3_read 39 = .ok (.getfield 26, 3) := by decide +kernel
theorem dX3_read_42 : decode cX3_read 42 = .ok (.ldc 25, 2) := by decide +kernel
theorem dX3_read_44 : decode cX3_read 44 = .ok (.if_icmp .ne 46, 3) := by decide +kernel
theorem dX3_read_47 : decode cX3_read 47 = .ok (.iload_n 2, 1) := by decide +kernel
theorem dX3_read_48 : decode cX3_read 48 = .ok (.iload 4, 2) := by decide +kernel
theorem dX3_read_50 : decode cX3_read 50 = .ok (.iconst 3, 1) := by decide +kernel
theorem dX3_read_51 : decode cX3_read 51 = .ok (.imul, 1) := by decide +kernel
theorem dX3_read_52 : decode cX3_read 52 = .ok (.iadd, 1) := by decide +kernel
theorem dX3_read_53 : decode cX3_read 53 = .ok (.istore 5, 2) := by decide +kernel
theorem dX3_read_55 : decode cX3_read 55 = .ok (.aload_n 0, 1) := by decide +kernel
theorem dX3_read_56 : decode cX3_read 56 = .ok (.aload_n 1, 1) := by decide +kernel
theorem dX3_read_57 : decode cX3_read 57 = .ok (.iload 5, 2) := by decide +kernel
theorem dX3_read_59 : decode cX3_read 59 = .ok (.iaload, 1) := by decide +kernel
theorem dX3_read_60 : decode cX3_read 60 = .ok (.aload_n 1, 1) := by decide +kernel
theorem dX3_read_61 : decode cX3_read 61 = .ok (.iload 5, 2) := by decide +kernel
theorem dX3_read_63 : decode cX3_read 63 = .ok (.iconst 1, 1) := by decide +kernel
theorem dX3_read_64 : decode cX3_read 64 = .ok (.iadd, 1) := by decide +kernel
theorem dX3_read_65 : decode cX3_read 65 = .ok (.iaload, 1) := by decide +kernel
theorem dX3_read_66 : decode cX3_read 66 = .ok (.aload_n 1, 1) := by decide +kernel
theorem dX3_read_67 : decode cX3_read 67 = .ok (.iload 5, 2) := by decide +kernel
theorem dX3_read_69 : decode cX3_read 69 = .ok (.iconst 2, 1) := by decide +kernel
theorem dX3_read_70 : decode cX3_read 70 = .ok (.iadd, 1) := by decide +kernel
theorem dX3_read_71 : decode cX3_read 71 = .ok (.iaload, 1) := by decide +kernel
theorem dX3_read_72 : decode cX3_read 72 = .ok (.invokevirtual 39, 3) := by decide +kernel
theorem dX3_read_75 : decode cX3_read 75 = .ok (.ifCond .ne 9, 3) := by decide +kernel
theorem dX3_read_78 : decode cX3_read 78 = .ok (.aload_n 0, 1) := by decide +kernel
theorem dX3_read_79 : decode cX3_read 79 = .ok (.iload 4, 2) := by decide +kernel
theorem dX3_read_81 : decode cX3_read 81 = .ok (.putfield 26, 3) := by decide +kernel
theorem dX3_read_84 : decode cX3_read 84 = .ok (.iinc 4 1, 3) := by decide +kernel
theorem dX3_read_87 : decode cX3_read 87 = .ok (.goto (-55), 3) := by decide +kernel
theorem dX3_read_90 : decode cX3_read 90 = .ok (.return_, 1) := by decide +kernel
set_option maxRecDepth 20000 in
theorem ggX3_fits_X7_within : GoodIn wsX3_fits wsX7_within := goodIn_r _ [9] (by decide +kernel) (by decide +kernel)
set_option maxRecDepth 20000 in
theorem gX3_fits_X7_within_n43 : GoodIn wsX3_fits (wsX7_within) := ggX3_fits_X7_within
set_option maxRecDepth 20000 in
theorem ggX3_fits_X1_standingAfter : GoodIn wsX3_fits wsX1_standingAfter := goodIn_r _ [14, 15, 27, 28] (by decide +kernel) (by decide +kernel)
set_option maxRecDepth 20000 in
theorem gX3_fits_X1_standingAfter : GoodIn wsX3_fits (wsV RX3 46 RX1 yX1_standingAfter wsX1_standingAfter) := goodIn_app (goodIn_of _ (by decide +kernel)) ggX3_fits_X1_standingAfter
set_option maxRecDepth 20000 in
theorem ggX3_fits_X1_runsOf : GoodIn wsX3_fits wsX1_runsOf := goodIn_r _ [19, 20, 27, 28] (by decide +kernel) (by decide +kernel)
set_option maxRecDepth 20000 in
theorem gX3_fits_X1_runsOf : GoodIn wsX3_fits (wsV RX3 52 RX1 yX1_runsOf wsX1_runsOf) := goodIn_app (goodIn_of _ (by decide +kernel)) ggX3_fits_X1_runsOf
theorem dX3_fits_0 : decode cX3_fits 0 = .ok (.aload_n 0, 1) := by decide +kernel
theorem dX3_fits_1 : decode cX3_fits 1 = .ok (.getfield 36, 3) := by decide +kernel
theorem dX3_fits_4 : decode cX3_fits 4 = .ok (.bipush 24, 2) := by decide +kernel
theorem dX3_fits_6 : decode cX3_fits 6 = .ok (.if_icmp .ne 7, 3) := by decide +kernel
theorem dX3_fits_9 : decode cX3_fits 9 = .ok (.iconst 0, 1) := by decide +kernel
theorem dX3_fits_10 : decode cX3_fits 10 = .ok (.goto 7, 3) := by decide +kernel
theorem dX3_fits_13 : decode cX3_fits 13 = .ok (.aload_n 0, 1) := by decide +kernel
theorem dX3_fits_14 : decode cX3_fits 14 = .ok (.getfield 36, 3) := by decide +kernel
theorem dX3_fits_17 : decode cX3_fits 17 = .ok (.istore 4, 2) := by decide +kernel
theorem dX3_fits_19 : decode cX3_fits 19 = .ok (.iload_n 1, 1) := by decide +kernel
theorem dX3_fits_20 : decode cX3_fits 20 = .ok (.iconst 0, 1) := by decide +kernel
theorem dX3_fits_21 : decode cX3_fits 21 = .ok (.bipush 8, 2) := by decide +kernel
theorem dX3_fits_23 : decode cX3_fits 23 = .ok (.invokestatic 43, 3) := by decide +kernel
theorem dX3_fits_26 : decode cX3_fits 26 = .ok (.ifCond .eq 46, 3) := by decide +kernel
theorem dX3_fits_29 : decode cX3_fits 29 = .ok (.aload_n 0, 1) := by decide +kernel
theorem dX3_fits_30 : decode cX3_fits 30 = .ok (.getfield 15, 3) := by decide +kernel
theorem dX3_fits_33 : decode cX3_fits 33 = .ok (.iload 4, 2) := by decide +kernel
theorem dX3_fits_35 : decode cX3_fits 35 = .ok (.iload_n 1, 1) := by decide +kernel
theorem dX3_fits_36 : decode cX3_fits 36 = .ok (.invokevirtual 46, 3) := by decide +kernel
theorem dX3_fits_39 : decode cX3_fits 39 = .ok (.ldc 25, 2) := by decide +kernel
theorem dX3_fits_41 : decode cX3_fits 41 = .ok (.if_icmp .eq 31, 3) := by decide +kernel
theorem dX3_fits_44 : decode cX3_fits 44 = .ok (.aload_n 0, 1) := by decide +kernel
theorem dX3_fits_45 : decode cX3_fits 45 = .ok (.getfield 15, 3) := by decide +kernel
theorem dX3_fits_48 : decode cX3_fits 48 = .ok (.iload 4, 2) := by decide +kernel
theorem dX3_fits_50 : decode cX3_fits 50 = .ok (.iload_n 1, 1) := by decide +kernel
theorem dX3_fits_51 : decode cX3_fits 51 = .ok (.invokevirtual 46, 3) := by decide +kernel
theorem dX3_fits_54 : decode cX3_fits 54 = .ok (.iload_n 2, 1) := by decide +kernel
theorem dX3_fits_55 : decode cX3_fits 55 = .ok (.if_icmp .ne 17, 3) := by decide +kernel
theorem dX3_fits_58 : decode cX3_fits 58 = .ok (.aload_n 0, 1) := by decide +kernel
theorem dX3_fits_59 : decode cX3_fits 59 = .ok (.getfield 15, 3) := by decide +kernel
theorem dX3_fits_62 : decode cX3_fits 62 = .ok (.iload 4, 2) := by decide +kernel
theorem dX3_fits_64 : decode cX3_fits 64 = .ok (.iload_n 1, 1) := by decide +kernel
theorem dX3_fits_65 : decode cX3_fits 65 = .ok (.invokevirtual 52, 3) := by decide +kernel
theorem dX3_fits_68 : decode cX3_fits 68 = .ok (.iload_n 3, 1) := by decide +kernel
theorem dX3_fits_69 : decode cX3_fits 69 = .ok (.if_icmp .eq 5, 3) := by decide +kernel
theorem dX3_fits_72 : decode cX3_fits 72 = .ok (.iconst 0, 1) := by decide +kernel
theorem dX3_fits_73 : decode cX3_fits 73 = .ok (.ireturn, 1) := by decide +kernel
theorem dX3_fits_74 : decode cX3_fits 74 = .ok (.aload_n 0, 1) := by decide +kernel
theorem dX3_fits_75 : decode cX3_fits 75 = .ok (.getfield 9, 3) := by decide +kernel
theorem dX3_fits_78 : decode cX3_fits 78 = .ok (.iload_n 1, 1) := by decide +kernel
theorem dX3_fits_79 : decode cX3_fits 79 = .ok (.dup2, 1) := by decide +kernel
theorem dX3_fits_80 : decode cX3_fits 80 = .ok (.iaload, 1) := by decide +kernel
theorem dX3_fits_81 : decode cX3_fits 81 = .ok (.iconst 1, 1) := by decide +kernel
theorem dX3_fits_82 : decode cX3_fits 82 = .ok (.iadd, 1) := by decide +kernel
theorem dX3_fits_83 : decode cX3_fits 83 = .ok (.iastore, 1) := by decide +kernel
theorem dX3_fits_84 : decode cX3_fits 84 = .ok (.aload_n 0, 1) := by decide +kernel
theorem dX3_fits_85 : decode cX3_fits 85 = .ok (.dup, 1) := by decide +kernel
theorem dX3_fits_86 : decode cX3_fits 86 = .ok (.getfield 30, 3) := by decide +kernel
theorem dX3_fits_89 : decode cX3_fits 89 = .ok (.iload_n 3, 1) := by decide +kernel
theorem dX3_fits_90 : decode cX3_fits 90 = .ok (.iadd, 1) := by decide +kernel
theorem dX3_fits_91 : decode cX3_fits 91 = .ok (.putfield 30, 3) := by decide +kernel
theorem dX3_fits_94 : decode cX3_fits 94 = .ok (.aload_n 0, 1) := by decide +kernel
theorem dX3_fits_95 : decode cX3_fits 95 = .ok (.iload_n 2, 1) := by decide +kernel
theorem dX3_fits_96 : decode cX3_fits 96 = .ok (.putfield 36, 3) := by decide +kernel
theorem dX3_fits_99 : decode cX3_fits 99 = .ok (.iload_n 2, 1) := by decide +kernel
theorem dX3_fits_100 : decode cX3_fits 100 = .ok (.bipush 24, 2) := by decide +kernel
theorem dX3_fits_102 : decode cX3_fits 102 = .ok (.if_icmp .ne 13, 3) := by decide +kernel
theorem dX3_fits_105 : decode cX3_fits 105 = .ok (.aload_n 0, 1) := by decide +kernel
theorem dX3_fits_106 : decode cX3_fits 106 = .ok (.dup, 1) := by decide +kernel
theorem dX3_fits_107 : decode cX3_fits 107 = .ok (.getfield 33, 3) := by decide +kernel
theorem dX3_fits_110 : decode cX3_fits 110 = .ok (.iconst 1, 1) := by decide +kernel
theorem dX3_fits_111 : decode cX3_fits 111 = .ok (.iadd, 1) := by decide +kernel
theorem dX3_fits_112 : decode cX3_fits 112 = .ok (.putfield 33, 3) := by decide +kernel
theorem dX3_fits_115 : decode cX3_fits 115 = .ok (.iconst 1, 1) := by decide +kernel
theorem dX3_fits_116 : decode cX3_fits 116 = .ok (.ireturn, 1) := by decide +kernel
theorem dX3_howManyStrikes_0 : decode cX3_howManyStrikes 0 = .ok (.iconst 0, 1) := by decide +kernel
theorem dX3_howManyStrikes_1 : decode cX3_howManyStrikes 1 = .ok (.istore_n 1, 1) := by decide +kernel
theorem dX3_howManyStrikes_2 : decode cX3_howManyStrikes 2 = .ok (.iconst 0, 1) := by decide +kernel
theorem dX3_howManyStrikes_3 : decode cX3_howManyStrikes 3 = .ok (.istore_n 2, 1) := by decide +kernel
theorem dX3_howManyStrikes_4 : decode cX3_howManyStrikes 4 = .ok (.iload_n 2, 1) := by decide +kernel
end
section
theorem dX3_howManyStrikes_5 : decode cX3_howManyStrikes 5 = .ok (.iconst 5, 1) := by decide +kernel
theorem dX3_howManyStrikes_6 : decode cX3_howManyStrikes 6 = .ok (.if_icmp .gt 18, 3) := by decide +kernel
theorem dX3_howManyStrikes_9 : decode cX3_howManyStrikes 9 = .ok (.iload_n 1, 1) := by decide +kernel
theorem dX3_howManyStrikes_10 : decode cX3_howManyStrikes 10 = .ok (.aload_n 0, 1) := by decide +kernel
theorem dX3_howManyStrikes_11 : decode cX3_howManyStrikes 11 = .ok (.getfield 9, 3) := by decide +kernel
theorem dX3_howManyStrikes_14 : decode cX3_howManyStrikes 14 = .ok (.iload_n 2, 1) := by decide +kernel
theorem dX3_howManyStrikes_15 : decode cX3_howManyStrikes 15 = .ok (.iaload, 1) := by decide +kernel
theorem dX3_howManyStrikes_16 : decode cX3_howManyStrikes 16 = .ok (.iadd, 1) := by decide +kernel
theorem dX3_howManyStrikes_17 : decode cX3_howManyStrikes 17 = .ok (.istore_n 1, 1) := by decide +kernel
theorem dX3_howManyStrikes_18 : decode cX3_howManyStrikes 18 = .ok (.iinc 2 1, 3) := by decide +kernel
theorem dX3_howManyStrikes_21 : decode cX3_howManyStrikes 21 = .ok (.goto (-17), 3) := by decide +kernel
theorem dX3_howManyStrikes_24 : decode cX3_howManyStrikes 24 = .ok (.iload_n 1, 1) := by decide +kernel
theorem dX3_howManyStrikes_25 : decode cX3_howManyStrikes 25 = .ok (.ireturn, 1) := by decide +kernel
set_option maxRecDepth 20000 in
theorem ggX3_told_X7_within : GoodIn wsX3_told wsX7_within := goodIn_r _ [9] (by decide +kernel) (by decide +kernel)
set_option maxRecDepth 20000 in
theorem gX3_told_X7_within_n43 : GoodIn wsX3_told (wsX7_within) := ggX3_told_X7_within
theorem dX3_told_0 : decode cX3_told 0 = .ok (.iload_n 1, 1) := by decide +kernel
theorem dX3_told_1 : decode cX3_told 1 = .ok (.tableswitch 51 0 3 #[31, 36, 41, 46], 31) := by decide +kernel
theorem dX3_told_32 : decode cX3_told 32 = .ok (.aload_n 0, 1) := by decide +kernel
theorem dX3_told_33 : decode cX3_told 33 = .ok (.getfield 26, 3) := by decide +kernel
theorem dX3_told_36 : decode cX3_told 36 = .ok (.ireturn, 1) := by decide +kernel
theorem dX3_told_37 : decode cX3_told 37 = .ok (.aload_n 0, 1) := by decide +kernel
theorem dX3_told_38 : decode cX3_told 38 = .ok (.getfield 30, 3) := by decide +kernel
theorem dX3_told_41 : decode cX3_told 41 = .ok (.ireturn, 1) := by decide +kernel
theorem dX3_told_42 : decode cX3_told 42 = .ok (.aload_n 0, 1) := by decide +kernel
theorem dX3_told_43 : decode cX3_told 43 = .ok (.getfield 33, 3) := by decide +kernel
theorem dX3_told_46 : decode cX3_told 46 = .ok (.ireturn, 1) := by decide +kernel
theorem dX3_told_47 : decode cX3_told 47 = .ok (.aload_n 0, 1) := by decide +kernel
theorem dX3_told_48 : decode cX3_told 48 = .ok (.getfield 36, 3) := by decide +kernel
theorem dX3_told_51 : decode cX3_told 51 = .ok (.ireturn, 1) := by decide +kernel
theorem dX3_told_52 : decode cX3_told 52 = .ok (.iload_n 1, 1) := by decide +kernel
theorem dX3_told_53 : decode cX3_told 53 = .ok (.bipush 10, 2) := by decide +kernel
theorem dX3_told_55 : decode cX3_told 55 = .ok (.bipush 18, 2) := by decide +kernel
theorem dX3_told_57 : decode cX3_told 57 = .ok (.invokestatic 43, 3) := by decide +kernel
theorem dX3_told_60 : decode cX3_told 60 = .ok (.ifCond .eq 15, 3) := by decide +kernel
theorem dX3_told_63 : decode cX3_told 63 = .ok (.aload_n 0, 1) := by decide +kernel
theorem dX3_told_64 : decode cX3_told 64 = .ok (.getfield 9, 3) := by decide +kernel
theorem dX3_told_67 : decode cX3_told 67 = .ok (.iload_n 1, 1) := by decide +kernel
theorem dX3_told_68 : decode cX3_told 68 = .ok (.bipush 10, 2) := by decide +kernel
theorem dX3_told_70 : decode cX3_told 70 = .ok (.isub, 1) := by decide +kernel
theorem dX3_told_71 : decode cX3_told 71 = .ok (.iaload, 1) := by decide +kernel
theorem dX3_told_72 : decode cX3_told 72 = .ok (.goto 5, 3) := by decide +kernel
theorem dX3_told_75 : decode cX3_told 75 = .ok (.ldc 55, 2) := by decide +kernel
theorem dX3_told_77 : decode cX3_told 77 = .ok (.ireturn, 1) := by decide +kernel
theorem dX4_init_0 : decode cX4_init 0 = .ok (.aload_n 0, 1) := by decide +kernel
theorem dX4_init_1 : decode cX4_init 1 = .ok (.invokespecial 3, 3) := by decide +kernel
theorem dX4_init_4 : decode cX4_init 4 = .ok (.aload_n 0, 1) := by decide +kernel
theorem dX4_init_5 : decode cX4_init 5 = .ok (.iconst 2, 1) := by decide +kernel
theorem dX4_init_6 : decode cX4_init 6 = .ok (.newarray .int, 2) := by decide +kernel
theorem dX4_init_8 : decode cX4_init 8 = .ok (.dup, 1) := by decide +kernel
theorem dX4_init_9 : decode cX4_init 9 = .ok (.iconst 0, 1) := by decide +kernel
theorem dX4_init_10 : decode cX4_init 10 = .ok (.ldc 9, 2) := by decide +kernel
theorem dX4_init_12 : decode cX4_init 12 = .ok (.iastore, 1) := by decide +kernel
theorem dX4_init_13 : decode cX4_init 13 = .ok (.dup, 1) := by decide +kernel
theorem dX4_init_14 : decode cX4_init 14 = .ok (.iconst 1, 1) := by decide +kernel
theorem dX4_init_15 : decode cX4_init 15 = .ok (.ldc 9, 2) := by decide +kernel
theorem dX4_init_17 : decode cX4_init 17 = .ok (.iastore, 1) := by decide +kernel
theorem dX4_init_18 : decode cX4_init 18 = .ok (.putfield 10, 3) := by decide +kernel
theorem dX4_init_21 : decode cX4_init 21 = .ok (.aload_n 0, 1) := by decide +kernel
theorem dX4_init_22 : decode cX4_init 22 = .ok (.bipush 114, 2) := by decide +kernel
theorem dX4_init_24 : decode cX4_init 24 = .ok (.newarray .int, 2) := by decide +kernel
theorem dX4_init_26 : decode cX4_init 26 = .ok (.putfield 16, 3) := by decide +kernel
theorem dX4_init_29 : decode cX4_init 29 = .ok (.aload_n 0, 1) := by decide +kernel
theorem dX4_init_30 : decode cX4_init 30 = .ok (.sipush 475, 3) := by decide +kernel
theorem dX4_init_33 : decode cX4_init 33 = .ok (.newarray .int, 2) := by decide +kernel
theorem dX4_init_35 : decode cX4_init 35 = .ok (.putfield 19, 3) := by decide +kernel
theorem dX4_init_38 : decode cX4_init 38 = .ok (.aload_n 0, 1) := by decide +kernel
theorem dX4_init_39 : decode cX4_init 39 = .ok (.sipush 475, 3) := by decide +kernel
theorem dX4_init_42 : decode cX4_init 42 = .ok (.newarray .int, 2) := by decide +kernel
theorem dX4_init_44 : decode cX4_init 44 = .ok (.putfield 22, 3) := by decide +kernel
theorem dX4_init_47 : decode cX4_init 47 = .ok (.aload_n 0, 1) := by decide +kernel
theorem dX4_init_48 : decode cX4_init 48 = .ok (.aload_n 1, 1) := by decide +kernel
theorem dX4_init_49 : decode cX4_init 49 = .ok (.putfield 25, 3) := by decide +kernel
theorem dX4_init_52 : decode cX4_init 52 = .ok (.aload_n 0, 1) := by decide +kernel
theorem dX4_init_53 : decode cX4_init 53 = .ok (.aload_n 2, 1) := by decide +kernel
theorem dX4_init_54 : decode cX4_init 54 = .ok (.putfield 29, 3) := by decide +kernel
theorem dX4_init_57 : decode cX4_init 57 = .ok (.iconst 0, 1) := by decide +kernel
theorem dX4_init_58 : decode cX4_init 58 = .ok (.istore_n 3, 1) := by decide +kernel
theorem dX4_init_59 : decode cX4_init 59 = .ok (.iload_n 3, 1) := by decide +kernel
theorem dX4_init_60 : decode cX4_init 60 = .ok (.bipush 19, 2) := by decide +kernel
theorem dX4_init_62 : decode cX4_init 62 = .ok (.if_icmp .ge 38, 3) := by decide +kernel
theorem dX4_init_65 : decode cX4_init 65 = .ok (.aload_n 0, 1) := by decide +kernel
theorem dX4_init_66 : decode cX4_init 66 = .ok (.getfield 16, 3) := by decide +kernel
theorem dX4_init_69 : decode cX4_init 69 = .ok (.iload_n 3, 1) := by decide +kernel
theorem dX4_init_70 : decode cX4_init 70 = .ok (.iload_n 3, 1) := by decide +kernel
theorem dX4_init_71 : decode cX4_init 71 = .ok (.bipush 9, 2) := by decide +kernel
theorem dX4_init_73 : decode cX4_init 73 = .ok (.if_icmp .le 8, 3) := by decide +kernel
theorem dX4_init_76 : decode cX4_init 76 = .ok (.ldc 33, 2) := by decide +kernel
theorem dX4_init_78 : decode cX4_init 78 = .ok (.goto 15, 3) := by decide +kernel
theorem dX4_init_81 : decode cX4_init 81 = .ok (.iload_n 3, 1) := by decide +kernel
theorem dX4_init_82 : decode cX4_init 82 = .ok (.bipush 9, 2) := by decide +kernel
theorem dX4_init_84 : decode cX4_init 84 = .ok (.if_icmp .ne 8, 3) := by decide +kernel
theorem dX4_init_87 : decode cX4_init 87 = .ok (.ldc 34, 2) := by decide +kernel
theorem dX4_init_89 : decode cX4_init 89 = .ok (.goto 4, 3) := by decide +kernel
theorem dX4_init_92 : decode cX4_init 92 = .ok (.iconst 0, 1) := by decide +kernel
theorem dX4_init_93 : decode cX4_init 93 = .ok (.iastore, 1) := by decide +kernel
theorem dX4_init_94 : decode cX4_init 94 = .ok (.iinc 3 1, 3) := by decide +kernel
theorem dX4_init_97 : decode cX4_init 97 = .ok (.goto (-38), 3) := by decide +kernel
theorem dX4_init_100 : decode cX4_init 100 = .ok (.aload_n 0, 1) := by decide +kernel
theorem dX4_init_101 : decode cX4_init 101 = .ok (.iconst 0, 1) := by decide +kernel
theorem dX4_init_102 : decode cX4_init 102 = .ok (.putfield 35, 3) := by decide +kernel
theorem dX4_init_105 : decode cX4_init 105 = .ok (.return_, 1) := by decide +kernel
theorem dX4_forget_0 : decode cX4_forget 0 = .ok (.aload_n 0, 1) := by decide +kernel
theorem dX4_forget_1 : decode cX4_forget 1 = .ok (.iconst 0, 1) := by decide +kernel
theorem dX4_forget_2 : decode cX4_forget 2 = .ok (.putfield 35, 3) := by decide +kernel
theorem dX4_forget_5 : decode cX4_forget 5 = .ok (.return_, 1) := by decide +kernel
theorem dX4_howManyTeams_0 : decode cX4_howManyTeams 0 = .ok (.aload_n 0, 1) := by decide +kernel
theorem dX4_howManyTeams_1 : decode cX4_howManyTeams 1 = .ok (.getfield 10, 3) := by decide +kernel
theorem dX4_howManyTeams_4 : decode cX4_howManyTeams 4 = .ok (.iconst 0, 1) := by decide +kernel
theorem dX4_howManyTeams_5 : decode cX4_howManyTeams 5 = .ok (.iaload, 1) := by decide +kernel
theorem dX4_howManyTeams_6 : decode cX4_howManyTeams 6 = .ok (.ldc 9, 2) := by decide +kernel
theorem dX4_howManyTeams_8 : decode cX4_howManyTeams 8 = .ok (.if_icmp .ne 7, 3) := by decide +kernel
theorem dX4_howManyTeams_11 : decode cX4_howManyTeams 11 = .ok (.iconst 0, 1) := by decide +kernel
theorem dX4_howManyTeams_12 : decode cX4_howManyTeams 12 = .ok (.goto 4, 3) := by decide +kernel
theorem dX4_howManyTeams_15 : decode cX4_howManyTeams 15 = .ok (.iconst 1, 1) := by decide +kernel
theorem dX4_howManyTeams_16 : decode cX4_howManyTeams 16 = .ok (.aload_n 0, 1) := by decide +kernel
theorem dX4_howManyTeams_17 : decode cX4_howManyTeams 17 = .ok (.getfield 10, 3) := by decide +kernel
theorem dX4_howManyTeams_20 : decode cX4_howManyTeams 20 = .ok (.iconst 1, 1) := by decide +kernel
theorem dX4_howManyTeams_21 : decode cX4_howManyTeams 21 = .ok (.iaload, 1) := by decide +kernel
theorem dX4_howManyTeams_22 : decode cX4_howManyTeams 22 = .ok (.ldc 9, 2) := by decide +kernel
theorem dX4_howManyTeams_24 : decode cX4_howManyTeams 24 = .ok (.if_icmp .ne 7, 3) := by decide +kernel
theorem dX4_howManyTeams_27 : decode cX4_howManyTeams 27 = .ok (.iconst 0, 1) := by decide +kernel
theorem dX4_howManyTeams_28 : decode cX4_howManyTeams 28 = .ok (.goto 4, 3) := by decide +kernel
theorem dX4_howManyTeams_31 : decode cX4_howManyTeams 31 = .ok (.iconst 1, 1) := by decide +kernel
theorem dX4_howManyTeams_32 : decode cX4_howManyTeams 32 = .ok (.iadd, 1) := by decide +kernel
theorem dX4_howManyTeams_33 : decode cX4_howManyTeams 33 = .ok (.ireturn, 1) := by decide +kernel
set_option maxRecDepth 20000 in
theorem ggX4_told_X4_learnStarts : GoodIn wsX4_told wsX4_learnStarts := goodIn_r _ [12, 13, 6, 7, 14, 15, 16, 11, 17, 18, 19, 20, 21, 22, 23, 24, 25, 26, 27, 28, 29, 30, 31, 32, 33, 34, 35, 36, 37, 38, 39, 40, 41, 42, 43, 44, 45, 46, 47, 48, 49, 2, 3, 4, 5, 50, 51, 52, 53, 54, 55, 56, 57, 58, 59, 60, 69, 70, 71, 72, 73, 74, 75, 76, 77, 78, 79, 80] (by decide +kernel) (by decide +kernel)
set_option maxRecDepth 20000 in
theorem gX4_told_X4_learnStarts : GoodIn wsX4_told (wsV RX4 45 RX4 yX4_learnStarts wsX4_learnStarts) := goodIn_app (goodIn_of _ (by decide +kernel)) ggX4_told_X4_learnStarts
set_option maxRecDepth 20000 in
theorem ggX4_told_X4_fillHalf : GoodIn wsX4_told wsX4_fillHalf := goodIn_r _ [17, 18, 7, 19, 20, 21, 22, 11, 23, 6, 24, 25, 26, 27, 28, 29, 30, 31, 32, 33, 34, 35, 36, 37, 38, 39, 40, 41, 42, 43, 44, 45, 46, 47, 48, 49, 2, 3, 4, 5, 50, 51, 52, 53, 54, 55, 56, 57, 58, 59, 60, 69, 70, 71, 72, 73, 74, 75, 76, 77, 78, 79, 80] (by decide +kernel) (by decide +kernel)
set_option maxRecDepth 20000 in
theorem gX4_told_X4_fillHalf : GoodIn wsX4_told (wsV RX4 49 RX4 yX4_fillHalf wsX4_fillHalf) := goodIn_app (goodIn_of _ (by decide +kernel)) ggX4_told_X4_fillHalf
set_option maxRecDepth 20000 in
theorem ggX4_told_X4_choiceAt : GoodIn wsX4_told wsX4_choiceAt := goodIn_r _ [64, 7, 28, 29, 30, 11, 31, 32, 33, 18, 34, 35, 36, 37, 38, 39, 40, 19, 41, 42, 43, 44, 45, 69, 70, 71, 72, 73, 74, 75, 76, 77, 78, 79, 80] (by decide +kernel) (by decide +kernel)
set_option maxRecDepth 20000 in
theorem gX4_told_X4_choiceAt : GoodIn wsX4_told (wsV RX4 53 RX4 yX4_choiceAt wsX4_choiceAt) := goodIn_app (goodIn_of _ (by decide +kernel)) ggX4_told_X4_choiceAt
set_option maxRecDepth 20000 in
theorem ggX4_told_X4_walkIsBetter : GoodIn wsX4_told wsX4_walkIsBetter := goodIn_r _ [68, 7, 18, 35, 36, 37, 11, 38, 39, 40, 19, 41, 69, 70, 71, 72, 73, 74, 75, 76, 79, 80] (by decide +kernel) (by decide +kernel)
set_option maxRecDepth 20000 in
theorem gX4_told_X4_walkIsBetter : GoodIn wsX4_told (wsV RX4 56 RX4 yX4_walkIsBetter wsX4_walkIsBetter) := goodIn_app (goodIn_of _ (by decide +kernel)) ggX4_told_X4_walkIsBetter
theorem dX4_told_0 : decode cX4_told 0 = .ok (.iload_n 2, 1) := by decide +kernel
theorem dX4_told_1 : decode cX4_told 1 = .ok (.bipush 9, 2) := by decide +kernel
theorem dX4_told_3 : decode cX4_told 3 = .ok (.iadd, 1) := by decide +kernel
theorem dX4_told_4 : decode cX4_told 4 = .ok (.istore 6, 2) := by decide +kernel
theorem dX4_told_6 : decode cX4_told 6 = .ok (.iload_n 1, 1) := by decide +kernel
theorem dX4_told_7 : decode cX4_told 7 = .ok (.ifCond .eq 14, 3) := by decide +kernel
theorem dX4_told_10 : decode cX4_told 10 = .ok (.iload_n 3, 1) := by decide +kernel
theorem dX4_told_11 : decode cX4_told 11 = .ok (.bipush 24, 2) := by decide +kernel
theorem dX4_told_13 : decode cX4_told 13 = .ok (.if_icmp .eq 8, 3) := by decide +kernel
theorem dX4_told_16 : decode cX4_told 16 = .ok (.iload 4, 2) := by decide +kernel
theorem dX4_told_18 : decode cX4_told 18 = .ok (.ifCond .ne 7, 3) := by decide +kernel
theorem dX4_told_21 : decode cX4_told 21 = .ok (.iconst 1, 1) := by decide +kernel
theorem dX4_told_22 : decode cX4_told 22 = .ok (.goto 4, 3) := by decide +kernel
theorem dX4_told_25 : decode cX4_told 25 = .ok (.iconst 0, 1) := by decide +kernel
theorem dX4_told_26 : decode cX4_told 26 = .ok (.istore 7, 2) := by decide +kernel
theorem dX4_told_28 : decode cX4_told 28 = .ok (.iload 7, 2) := by decide +kernel
theorem dX4_told_30 : decode cX4_told 30 = .ok (.ifCond .eq 21, 3) := by decide +kernel
theorem dX4_told_33 : decode cX4_told 33 = .ok (.iload 5, 2) := by decide +kernel
theorem dX4_told_35 : decode cX4_told 35 = .ok (.ifCond .eq 16, 3) := by decide +kernel
theorem dX4_told_38 : decode cX4_told 38 = .ok (.iload 5, 2) := by decide +kernel
theorem dX4_told_40 : decode cX4_told 40 = .ok (.iconst 1, 1) := by decide +kernel
theorem dX4_told_41 : decode cX4_told 41 = .ok (.if_icmp .ne 8, 3) := by decide +kernel
theorem dX4_told_44 : decode cX4_told 44 = .ok (.ldc 9, 2) := by decide +kernel
theorem dX4_told_46 : decode cX4_told 46 = .ok (.goto 4, 3) := by decide +kernel
theorem dX4_told_49 : decode cX4_told 49 = .ok (.iconst 0, 1) := by decide +kernel
theorem dX4_told_50 : decode cX4_told 50 = .ok (.ireturn, 1) := by decide +kernel
theorem dX4_told_51 : decode cX4_told 51 = .ok (.iload_n 1, 1) := by decide +kernel
theorem dX4_told_52 : decode cX4_told 52 = .ok (.iconst 1, 1) := by decide +kernel
theorem dX4_told_53 : decode cX4_told 53 = .ok (.isub, 1) := by decide +kernel
theorem dX4_told_54 : decode cX4_told 54 = .ok (.iconst 0, 1) := by decide +kernel
theorem dX4_told_55 : decode cX4_told 55 = .ok (.invokestatic 39, 3) := by decide +kernel
theorem dX4_told_58 : decode cX4_told 58 = .ok (.istore 8, 2) := by decide +kernel
theorem dX4_told_60 : decode cX4_told 60 = .ok (.aload_n 0, 1) := by decide +kernel
theorem dX4_told_61 : decode cX4_told 61 = .ok (.iload 8, 2) := by decide +kernel
theorem dX4_told_63 : decode cX4_told 63 = .ok (.invokevirtual 45, 3) := by decide +kernel
theorem dX4_told_66 : decode cX4_told 66 = .ok (.iload 7, 2) := by decide +kernel
theorem dX4_told_68 : decode cX4_told 68 = .ok (.ifCond .eq 17, 3) := by decide +kernel
theorem dX4_told_71 : decode cX4_told 71 = .ok (.aload_n 0, 1) := by decide +kernel
theorem dX4_told_72 : decode cX4_told 72 = .ok (.getfield 16, 3) := by decide +kernel
theorem dX4_told_75 : decode cX4_told 75 = .ok (.iload 8, 2) := by decide +kernel
theorem dX4_told_77 : decode cX4_told 77 = .ok (.bipush 19, 2) := by decide +kernel
theorem dX4_told_79 : decode cX4_told 79 = .ok (.imul, 1) := by decide +kernel
theorem dX4_told_80 : decode cX4_told 80 = .ok (.iload 6, 2) := by decide +kernel
theorem dX4_told_82 : decode cX4_told 82 = .ok (.iadd, 1) := by decide +kernel
theorem dX4_told_83 : decode cX4_told 83 = .ok (.iaload, 1) := by decide +kernel
theorem dX4_told_84 : decode cX4_told 84 = .ok (.ireturn, 1) := by decide +kernel
theorem dX4_told_85 : decode cX4_told 85 = .ok (.aload_n 0, 1) := by decide +kernel
theorem dX4_told_86 : decode cX4_told 86 = .ok (.iload_n 1, 1) := by decide +kernel
theorem dX4_told_87 : decode cX4_told 87 = .ok (.iload 4, 2) := by decide +kernel
theorem dX4_told_89 : decode cX4_told 89 = .ok (.invokevirtual 49, 3) := by decide +kernel
theorem dX4_told_92 : decode cX4_told 92 = .ok (.iload 5, 2) := by decide +kernel
theorem dX4_told_94 : decode cX4_told 94 = .ok (.ifCond .ne 16, 3) := by decide +kernel
theorem dX4_told_97 : decode cX4_told 97 = .ok (.aload_n 0, 1) := by decide +kernel
theorem dX4_told_98 : decode cX4_told 98 = .ok (.getfield 19, 3) := by decide +kernel
theorem dX4_told_101 : decode cX4_told 101 = .ok (.iload 6, 2) := by decide +kernel
theorem dX4_told_103 : decode cX4_told 103 = .ok (.bipush 25, 2) := by decide +kernel
theorem dX4_told_105 : decode cX4_told 105 = .ok (.imul, 1) := by decide +kernel
theorem dX4_told_106 : decode cX4_told 106 = .ok (.iload_n 3, 1) := by decide +kernel
theorem dX4_told_107 : decode cX4_told 107 = .ok (.iadd, 1) := by decide +kernel
theorem dX4_told_108 : decode cX4_told 108 = .ok (.iaload, 1) := by decide +kernel
theorem dX4_told_109 : decode cX4_told 109 = .ok (.ireturn, 1) := by decide +kernel
theorem dX4_told_110 : decode cX4_told 110 = .ok (.iload 5, 2) := by decide +kernel
theorem dX4_told_112 : decode cX4_told 112 = .ok (.iconst 1, 1) := by decide +kernel
theorem dX4_told_113 : decode cX4_told 113 = .ok (.if_icmp .ne 13, 3) := by decide +kernel
theorem dX4_told_116 : decode cX4_told 116 = .ok (.aload_n 0, 1) := by decide +kernel
theorem dX4_told_117 : decode cX4_told 117 = .ok (.iload 6, 2) := by decide +kernel
theorem dX4_told_119 : decode cX4_told 119 = .ok (.iload_n 3, 1) := by decide +kernel
theorem dX4_told_120 : decode cX4_told 120 = .ok (.invokevirtual 53, 3) := by decide +kernel
theorem dX4_told_123 : decode cX4_told 123 = .ok (.goto 10, 3) := by decide +kernel
theorem dX4_told_126 : decode cX4_told 126 = .ok (.aload_n 0, 1) := by decide +kernel
theorem dX4_told_127 : decode cX4_told 127 = .ok (.iload 6, 2) := by decide +kernel
theorem dX4_told_129 : decode cX4_told 129 = .ok (.iload_n 3, 1) := by decide +kernel
theorem dX4_told_130 : decode cX4_told 130 = .ok (.invokevirtual 56, 3) := by decide +kernel
theorem dX4_told_133 : decode cX4_told 133 = .ok (.ireturn, 1) := by decide +kernel
set_option maxRecDepth 20000 in
theorem ggX4_learnStarts_X4_fillHalf : GoodIn wsX4_learnStarts wsX4_fillHalf := goodIn_r _ [8, 9, 3, 10, 11, 12, 13, 7, 14, 2, 15, 16, 17, 18, 19, 20, 21, 22, 23, 24, 25, 26, 27, 28, 29, 30, 31, 32, 33, 34, 35, 36, 37, 38, 39, 40, 41, 42, 43, 44, 45, 46, 47, 48, 49, 50, 51, 52, 53, 54, 55, 56, 57, 58, 59, 60, 61, 62, 63, 64, 65, 66, 67] (by decide +kernel) (by decide +kernel)
set_option maxRecDepth 20000 in
theorem gX4_learnStarts_X4_fillHalf : GoodIn wsX4_learnStarts (wsV RX4 49 RX4 yX4_fillHalf wsX4_fillHalf) := goodIn_app (goodIn_of _ (by decide +kernel)) ggX4_learnStarts_X4_fillHalf
theorem dX4_learnStarts_0 : decode cX4_learnStarts 0 = .ok (.aload_n 0, 1) := by decide +kernel
theorem dX4_learnStarts_1 : decode cX4_learnStarts 1 = .ok (.getfield 35, 3) := by decide +kernel
theorem dX4_learnStarts_4 : decode cX4_learnStarts 4 = .ok (.iconst 1, 1) := by decide +kernel
theorem dX4_learnStarts_5 : decode cX4_learnStarts 5 = .ok (.iadd, 1) := by decide +kernel
theorem dX4_learnStarts_6 : decode cX4_learnStarts 6 = .ok (.istore_n 2, 1) := by decide +kernel
theorem dX4_learnStarts_7 : decode cX4_learnStarts 7 = .ok (.iload_n 2, 1) := by decide +kernel
theorem dX4_learnStarts_8 : decode cX4_learnStarts 8 = .ok (.iload_n 1, 1) := by decide +kernel
theorem dX4_learnStarts_9 : decode cX4_learnStarts 9 = .ok (.if_icmp .gt 55, 3) := by decide +kernel
theorem dX4_learnStarts_12 : decode cX4_learnStarts 12 = .ok (.aload_n 0, 1) := by decide +kernel
theorem dX4_learnStarts_13 : decode cX4_learnStarts 13 = .ok (.iload_n 2, 1) := by decide +kernel
theorem dX4_learnStarts_14 : decode cX4_learnStarts 14 = .ok (.bipush 12, 2) := by decide +kernel
theorem dX4_learnStarts_16 : decode cX4_learnStarts 16 = .ok (.invokevirtual 49, 3) := by decide +kernel
theorem dX4_learnStarts_19 : decode cX4_learnStarts 19 = .ok (.iconst 0, 1) := by decide +kernel
theorem dX4_learnStarts_20 : decode cX4_learnStarts 20 = .ok (.istore_n 3, 1) := by decide +kernel
theorem dX4_learnStarts_21 : decode cX4_learnStarts 21 = .ok (.iload_n 3, 1) := by decide +kernel
theorem dX4_learnStarts_22 : decode cX4_learnStarts 22 = .ok (.bipush 19, 2) := by decide +kernel
theorem dX4_learnStarts_24 : decode cX4_learnStarts 24 = .ok (.if_icmp .ge 29, 3) := by decide +kernel
theorem dX4_learnStarts_27 : decode cX4_learnStarts 27 = .ok (.aload_n 0, 1) := by decide +kernel
theorem dX4_learnStarts_28 : decode cX4_learnStarts 28 = .ok (.getfield 16, 3) := by decide +kernel
theorem dX4_learnStarts_31 : decode cX4_learnStarts 31 = .ok (.iload_n 2, 1) := by decide +kernel
theorem dX4_learnStarts_32 : decode cX4_learnStarts 32 = .ok (.bipush 19, 2) := by decide +kernel
theorem dX4_learnStarts_34 : decode cX4_learnStarts 34 = .ok (.imul, 1) := by decide +kernel
theorem dX4_learnStarts_35 : decode cX4_learnStarts 35 = .ok (.iload_n 3, 1) := by decide +kernel
theorem dX4_learnStarts_36 : decode cX4_learnStarts 36 = .ok (.iadd, 1) := by decide +kernel
theorem dX4_learnStarts_37 : decode cX4_learnStarts 37 = .ok (.aload_n 0, 1) := by decide +kernel
theorem dX4_learnStarts_38 : decode cX4_learnStarts 38 = .ok (.getfield 19, 3) := by decide +kernel
theorem dX4_learnStarts_41 : decode cX4_learnStarts 41 = .ok (.iload_n 3, 1) := by decide +kernel
theorem dX4_learnStarts_42 : decode cX4_learnStarts 42 = .ok (.bipush 25, 2) := by decide +kernel
theorem dX4_learnStarts_44 : decode cX4_learnStarts 44 = .ok (.imul, 1) := by decide +kernel
theorem dX4_learnStarts_45 : decode cX4_learnStarts 45 = .ok (.iaload, 1) := by decide +kernel
theorem dX4_learnStarts_46 : decode cX4_learnStarts 46 = .ok (.iastore, 1) := by decide +kernel
theorem dX4_learnStarts_47 : decode cX4_learnStarts 47 = .ok (.iinc 3 1, 3) := by decide +kernel
theorem dX4_learnStarts_50 : decode cX4_learnStarts 50 = .ok (.goto (-29), 3) := by decide +kernel
theorem dX4_learnStarts_53 : decode cX4_learnStarts 53 = .ok (.aload_n 0, 1) := by decide +kernel
theorem dX4_learnStarts_54 : decode cX4_learnStarts 54 = .ok (.iload_n 2, 1) := by decide +kernel
theorem dX4_learnStarts_55 : decode cX4_learnStarts 55 = .ok (.putfield 35, 3) := by decide +kernel
theorem dX4_learnStarts_58 : decode cX4_learnStarts 58 = .ok (.iinc 2 1, 3) := by decide +kernel
theorem dX4_learnStarts_61 : decode cX4_learnStarts 61 = .ok (.goto (-54), 3) := by decide +kernel
theorem dX4_learnStarts_64 : decode cX4_learnStarts 64 = .ok (.return_, 1) := by decide +kernel
set_option maxRecDepth 20000 in
theorem ggX4_fillHalf_X4_beginHalf : GoodIn wsX4_fillHalf wsX4_beginHalf := goodIn_r _ [8, 9, 51, 52, 53, 54, 55, 56, 57, 58] (by decide +kernel) (by decide +kernel)
set_option maxRecDepth 20000 in
theorem gX4_fillHalf_X4_beginHalf : GoodIn wsX4_fillHalf (wsV RX4 62 RX4 yX4_beginHalf wsX4_beginHalf) := goodIn_app (goodIn_of _ (by decide +kernel)) ggX4_fillHalf_X4_beginHalf
set_option maxRecDepth 20000 in
theorem ggX4_fillHalf_X4_winByBest : GoodIn wsX4_fillHalf wsX4_winByBest := goodIn_r _ [13, 14, 15, 16, 7, 17, 18, 19, 1, 20, 21, 22, 23, 24, 25, 26, 3, 27, 28, 29, 30, 31, 32, 33, 34, 35, 36, 37, 38, 39, 40, 41, 42, 43, 44, 45, 46, 47, 48, 49, 50, 51, 52, 53, 54, 55, 56, 57, 58, 59, 60, 61, 62] (by decide +kernel) (by decide +kernel)
set_option maxRecDepth 20000 in
theorem gX4_fillHalf_X4_winByBest : GoodIn wsX4_fillHalf (wsV RX4 66 RX4 yX4_winByBest wsX4_winByBest) := goodIn_app (goodIn_of _ (by decide +kernel)) ggX4_fillHalf_X4_winByBest
theorem dX4_fillHalf_0 : decode cX4_fillHalf 0 = .ok (.aload_n 0, 1) := by decide +kernel
theorem dX4_fillHalf_1 : decode cX4_fillHalf 1 = .ok (.iload_n 1, 1) := by decide +kernel
theorem dX4_fillHalf_2 : decode cX4_fillHalf 2 = .ok (.iconst 2, 1) := by decide +kernel
theorem dX4_fillHalf_3 : decode cX4_fillHalf 3 = .ok (.irem, 1) := by decide +kernel
theorem dX4_fillHalf_4 : decode cX4_fillHalf 4 = .ok (.putfield 59, 3) := by decide +kernel
theorem dX4_fillHalf_7 : decode cX4_fillHalf 7 = .ok (.aload_n 0, 1) := by decide +kernel
theorem dX4_fillHalf_8 : decode cX4_fillHalf 8 = .ok (.aload_n 0, 1) := by decide +kernel
theorem dX4_fillHalf_9 : decode cX4_fillHalf 9 = .ok (.getfield 19, 3) := by decide +kernel
theorem dX4_fillHalf_12 : decode cX4_fillHalf 12 = .ok (.iload_n 1, 1) := by decide +kernel
theorem dX4_fillHalf_13 : decode cX4_fillHalf 13 = .ok (.iconst 1, 1) := by decide +kernel
theorem dX4_fillHalf_14 : decode cX4_fillHalf 14 = .ok (.isub, 1) := by decide +kernel
theorem dX4_fillHalf_15 : decode cX4_fillHalf 15 = .ok (.invokevirtual 62, 3) := by decide +kernel
theorem dX4_fillHalf_18 : decode cX4_fillHalf 18 = .ok (.aload_n 0, 1) := by decide +kernel
theorem dX4_fillHalf_19 : decode cX4_fillHalf 19 = .ok (.aload_n 0, 1) := by decide +kernel
theorem dX4_fillHalf_20 : decode cX4_fillHalf 20 = .ok (.getfield 22, 3) := by decide +kernel
theorem dX4_fillHalf_23 : decode cX4_fillHalf 23 = .ok (.iload_n 1, 1) := by decide +kernel
theorem dX4_fillHalf_24 : decode cX4_fillHalf 24 = .ok (.iconst 1, 1) := by decide +kernel
theorem dX4_fillHalf_25 : decode cX4_fillHalf 25 = .ok (.isub, 1) := by decide +kernel
theorem dX4_fillHalf_26 : decode cX4_fillHalf 26 = .ok (.invokevirtual 62, 3) := by decide +kernel
theorem dX4_fillHalf_29 : decode cX4_fillHalf 29 = .ok (.iconst 1, 1) := by decide +kernel
theorem dX4_fillHalf_30 : decode cX4_fillHalf 30 = .ok (.istore_n 3, 1) := by decide +kernel
theorem dX4_fillHalf_31 : decode cX4_fillHalf 31 = .ok (.iload_n 3, 1) := by decide +kernel
theorem dX4_fillHalf_32 : decode cX4_fillHalf 32 = .ok (.iload_n 2, 1) := by decide +kernel
theorem dX4_fillHalf_33 : decode cX4_fillHalf 33 = .ok (.if_icmp .gt 82, 3) := by decide +kernel
theorem dX4_fillHalf_36 : decode cX4_fillHalf 36 = .ok (.aload_n 0, 1) := by decide +kernel
theorem dX4_fillHalf_37 : decode cX4_fillHalf 37 = .ok (.getfield 22, 3) := by decide +kernel
theorem dX4_fillHalf_40 : decode cX4_fillHalf 40 = .ok (.astore 4, 2) := by decide +kernel
theorem dX4_fillHalf_42 : decode cX4_fillHalf 42 = .ok (.aload_n 0, 1) := by decide +kernel
theorem dX4_fillHalf_43 : decode cX4_fillHalf 43 = .ok (.aload_n 0, 1) := by decide +kernel
theorem dX4_fillHalf_44 : decode cX4_fillHalf 44 = .ok (.getfield 19, 3) := by decide +kernel
theorem dX4_fillHalf_47 : decode cX4_fillHalf 47 = .ok (.putfield 22, 3) := by decide +kernel
theorem dX4_fillHalf_50 : decode cX4_fillHalf 50 = .ok (.aload_n 0, 1) := by decide +kernel
theorem dX4_fillHalf_51 : decode cX4_fillHalf 51 = .ok (.aload 4, 2) := by decide +kernel
theorem dX4_fillHalf_53 : decode cX4_fillHalf 53 = .ok (.putfield 19, 3) := by decide +kernel
theorem dX4_fillHalf_56 : decode cX4_fillHalf 56 = .ok (.iconst 0, 1) := by decide +kernel
theorem dX4_fillHalf_57 : decode cX4_fillHalf 57 = .ok (.istore 5, 2) := by decide +kernel
theorem dX4_fillHalf_59 : decode cX4_fillHalf 59 = .ok (.iload 5, 2) := by decide +kernel
theorem dX4_fillHalf_61 : decode cX4_fillHalf 61 = .ok (.bipush 19, 2) := by decide +kernel
theorem dX4_fillHalf_63 : decode cX4_fillHalf 63 = .ok (.if_icmp .ge 46, 3) := by decide +kernel
theorem dX4_fillHalf_66 : decode cX4_fillHalf 66 = .ok (.iconst 0, 1) := by decide +kernel
theorem dX4_fillHalf_67 : decode cX4_fillHalf 67 = .ok (.istore 6, 2) := by decide +kernel
theorem dX4_fillHalf_69 : decode cX4_fillHalf 69 = .ok (.iload 6, 2) := by decide +kernel
theorem dX4_fillHalf_71 : decode cX4_fillHalf 71 = .ok (.bipush 24, 2) := by decide +kernel
theorem dX4_fillHalf_73 : decode cX4_fillHalf 73 = .ok (.if_icmp .ge 30, 3) := by decide +kernel
theorem dX4_fillHalf_76 : decode cX4_fillHalf 76 = .ok (.aload_n 0, 1) := by decide +kernel
theorem dX4_fillHalf_77 : decode cX4_fillHalf 77 = .ok (.getfield 19, 3) := by decide +kernel
theorem dX4_fillHalf_80 : decode cX4_fillHalf 80 = .ok (.iload 5, 2) := by decide +kernel
theorem dX4_fillHalf_82 : decode cX4_fillHalf 82 = .ok (.bipush 25, 2) := by decide +kernel
theorem dX4_fillHalf_84 : decode cX4_fillHalf 84 = .ok (.imul, 1) := by decide +kernel
theorem dX4_fillHalf_85 : decode cX4_fillHalf 85 = .ok (.iload 6, 2) := by decide +kernel
theorem dX4_fillHalf_87 : decode cX4_fillHalf 87 = .ok (.iadd, 1) := by decide +kernel
theorem dX4_fillHalf_88 : decode cX4_fillHalf 88 = .ok (.aload_n 0, 1) := by decide +kernel
theorem dX4_fillHalf_89 : decode cX4_fillHalf 89 = .ok (.iload 5, 2) := by decide +kernel
theorem dX4_fillHalf_91 : decode cX4_fillHalf 91 = .ok (.iload 6, 2) := by decide +kernel
theorem dX4_fillHalf_93 : decode cX4_fillHalf 93 = .ok (.invokevirtual 66, 3) := by decide +kernel
theorem dX4_fillHalf_96 : decode cX4_fillHalf 96 = .ok (.iastore, 1) := by decide +kernel
theorem dX4_fillHalf_97 : decode cX4_fillHalf 97 = .ok (.iinc 6 1, 3) := by decide +kernel
theorem dX4_fillHalf_100 : decode cX4_fillHalf 100 = .ok (.goto (-31), 3) := by decide +kernel
theorem dX4_fillHalf_103 : decode cX4_fillHalf 103 = .ok (.iinc 5 1, 3) := by decide +kernel
theorem dX4_fillHalf_106 : decode cX4_fillHalf 106 = .ok (.goto (-47), 3) := by decide +kernel
theorem dX4_fillHalf_109 : decode cX4_fillHalf 109 = .ok (.iinc 3 1, 3) := by decide +kernel
theorem dX4_fillHalf_112 : decode cX4_fillHalf 112 = .ok (.goto (-81), 3) := by decide +kernel
theorem dX4_fillHalf_115 : decode cX4_fillHalf 115 = .ok (.return_, 1) := by decide +kernel
theorem dX4_beginHalf_0 : decode cX4_beginHalf 0 = .ok (.iconst 0, 1) := by decide +kernel
theorem dX4_beginHalf_1 : decode cX4_beginHalf 1 = .ok (.istore_n 3, 1) := by decide +kernel
theorem dX4_beginHalf_2 : decode cX4_beginHalf 2 = .ok (.iload_n 3, 1) := by decide +kernel
theorem dX4_beginHalf_3 : decode cX4_beginHalf 3 = .ok (.bipush 19, 2) := by decide +kernel
theorem dX4_beginHalf_5 : decode cX4_beginHalf 5 = .ok (.if_icmp .ge 49, 3) := by decide +kernel
theorem dX4_beginHalf_8 : decode cX4_beginHalf 8 = .ok (.aload_n 0, 1) := by decide +kernel
theorem dX4_beginHalf_9 : decode cX4_beginHalf 9 = .ok (.getfield 16, 3) := by decide +kernel
theorem dX4_beginHalf_12 : decode cX4_beginHalf 12 = .ok (.iload_n 2, 1) := by decide +kernel
theorem dX4_beginHalf_13 : decode cX4_beginHalf 13 = .ok (.bipush 19, 2) := by decide +kernel
theorem dX4_beginHalf_15 : decode cX4_beginHalf 15 = .ok (.imul, 1) := by decide +kernel
theorem dX4_beginHalf_16 : decode cX4_beginHalf 16 = .ok (.iload_n 3, 1) := by decide +kernel
theorem dX4_beginHalf_17 : decode cX4_beginHalf 17 = .ok (.iadd, 1) := by decide +kernel
theorem dX4_beginHalf_18 : decode cX4_beginHalf 18 = .ok (.iaload, 1) := by decide +kernel
theorem dX4_beginHalf_19 : decode cX4_beginHalf 19 = .ok (.istore 4, 2) := by decide +kernel
theorem dX4_beginHalf_21 : decode cX4_beginHalf 21 = .ok (.iconst 0, 1) := by decide +kernel
theorem dX4_beginHalf_22 : decode cX4_beginHalf 22 = .ok (.istore 5, 2) := by decide +kernel
theorem dX4_beginHalf_24 : decode cX4_beginHalf 24 = .ok (.iload 5, 2) := by decide +kernel
theorem dX4_beginHalf_26 : decode cX4_beginHalf 26 = .ok (.bipush 25, 2) := by decide +kernel
theorem dX4_beginHalf_28 : decode cX4_beginHalf 28 = .ok (.if_icmp .ge 20, 3) := by decide +kernel
theorem dX4_beginHalf_31 : decode cX4_beginHalf 31 = .ok (.aload_n 1, 1) := by decide +kernel
theorem dX4_beginHalf_32 : decode cX4_beginHalf 32 = .ok (.iload_n 3, 1) := by decide +kernel
theorem dX4_beginHalf_33 : decode cX4_beginHalf 33 = .ok (.bipush 25, 2) := by decide +kernel
theorem dX4_beginHalf_35 : decode cX4_beginHalf 35 = .ok (.imul, 1) := by decide +kernel
theorem dX4_beginHalf_36 : decode cX4_beginHalf 36 = .ok (.iload 5, 2) := by decide +kernel
theorem dX4_beginHalf_38 : decode cX4_beginHalf 38 = .ok (.iadd, 1) := by decide +kernel
theorem dX4_beginHalf_39 : decode cX4_beginHalf 39 = .ok (.iload 4, 2) := by decide +kernel
theorem dX4_beginHalf_41 : decode cX4_beginHalf 41 = .ok (.iastore, 1) := by decide +kernel
theorem dX4_beginHalf_42 : decode cX4_beginHalf 42 = .ok (.iinc 5 1, 3) := by decide +kernel
theorem dX4_beginHalf_45 : decode cX4_beginHalf 45 = .ok (.goto (-21), 3) := by decide +kernel
theorem dX4_beginHalf_48 : decode cX4_beginHalf 48 = .ok (.iinc 3 1, 3) := by decide +kernel
theorem dX4_beginHalf_51 : decode cX4_beginHalf 51 = .ok (.goto (-49), 3) := by decide +kernel
theorem dX4_beginHalf_54 : decode cX4_beginHalf 54 = .ok (.return_, 1) := by decide +kernel
set_option maxRecDepth 20000 in
theorem ggX4_winByBest_X4_winByStrike : GoodIn wsX4_winByBest wsX4_winByStrike := goodIn_r _ [5, 6, 7, 8, 9, 10, 11, 12, 4, 13, 14, 15, 16, 17, 41, 42, 43, 44, 45, 46, 47, 48, 49, 50, 51, 52] (by decide +kernel) (by decide +kernel)
set_option maxRecDepth 20000 in
theorem gX4_winByBest_X4_winByStrike : GoodIn wsX4_winByBest (wsV RX4 69 RX4 yX4_winByStrike wsX4_winByStrike) := goodIn_app (goodIn_of _ (by decide +kernel)) ggX4_winByBest_X4_winByStrike
set_option maxRecDepth 20000 in
theorem ggX4_winByBest_X1_someoneIsOn : GoodIn wsX4_winByBest wsX1_someoneIsOn := goodIn_r _ [21] (by decide +kernel) (by decide +kernel)
set_option maxRecDepth 20000 in
theorem gX4_winByBest_X1_someoneIsOn : GoodIn wsX4_winByBest (va_wsS RX4 72 yX1_someoneIsOn wsX1_someoneIsOn) := goodIn_app (goodIn_of _ (by decide +kernel)) ggX4_winByBest_X1_someoneIsOn
set_option maxRecDepth 20000 in
theorem ggX4_winByBest_X4_winAfter : GoodIn wsX4_winByBest wsX4_winAfter := goodIn_r _ [13, 8, 14, 15, 16, 17, 41, 42, 43, 44, 45, 46, 47, 48, 51, 52] (by decide +kernel) (by decide +kernel)
set_option maxRecDepth 20000 in
theorem gX4_winByBest_X4_winAfter : GoodIn wsX4_winByBest (wsV RX4 78 RX4 yX4_winAfter wsX4_winAfter) := goodIn_app (goodIn_of _ (by decide +kernel)) ggX4_winByBest_X4_winAfter
set_option maxRecDepth 20000 in
theorem ggX4_winByBest_X4_betterOf : GoodIn wsX4_winByBest wsX4_betterOf := goodIn_r _ [25, 8, 26, 27, 28, 29, 30, 31, 32, 41, 42, 43, 44, 45, 46, 47, 48] (by decide +kernel) (by decide +kernel)
set_option maxRecDepth 20000 in
theorem gX4_winByBest_X4_betterOf : GoodIn wsX4_winByBest (wsV RX4 82 RX4 yX4_betterOf wsX4_betterOf) := goodIn_app (goodIn_of _ (by decide +kernel)) ggX4_winByBest_X4_betterOf
set_option maxRecDepth 20000 in
theorem ggX4_winByBest_X1_canSteal : GoodIn wsX4_winByBest wsX1_canSteal := goodIn_r _ [35] (by decide +kernel) (by decide +kernel)
set_option maxRecDepth 20000 in
theorem gX4_winByBest_X1_canSteal : GoodIn wsX4_winByBest (va_wsS RX4 85 yX1_canSteal wsX1_canSteal) := goodIn_app (goodIn_of _ (by decide +kernel)) ggX4_winByBest_X1_canSteal
set_option maxRecDepth 20000 in
theorem ggX4_winByBest_X4_winBySteal : GoodIn wsX4_winByBest wsX4_winBySteal := goodIn_r _ [39, 6, 7, 8, 40, 10, 11, 12, 4, 13, 14, 15, 16, 17, 41, 42, 43, 44, 45, 46, 47, 48, 49, 50, 51, 52] (by decide +kernel) (by decide +kernel)
set_option maxRecDepth 20000 in
theorem gX4_winByBest_X4_winBySteal : GoodIn wsX4_winByBest (wsV RX4 88 RX4 yX4_winBySteal wsX4_winBySteal) := goodIn_app (goodIn_of _ (by decide +kernel)) ggX4_winByBest_X4_winBySteal
theorem dX4_winByBest_0 : decode cX4_winByBest 0 = .ok (.aload_n 0, 1) := by decide +kernel
theorem dX4_winByBest_1 : decode cX4_winByBest 1 = .ok (.iload_n 1, 1) := by decide +kernel
theorem dX4_winByBest_2 : decode cX4_winByBest 2 = .ok (.iload_n 2, 1) := by decide +kernel
theorem dX4_winByBest_3 : decode cX4_winByBest 3 = .ok (.invokevirtual 69, 3) := by decide +kernel
theorem dX4_winByBest_6 : decode cX4_winByBest 6 = .ok (.istore_n 3, 1) := by decide +kernel
theorem dX4_winByBest_7 : decode cX4_winByBest 7 = .ok (.iload_n 2, 1) := by decide +kernel
theorem dX4_winByBest_8 : decode cX4_winByBest 8 = .ok (.invokestatic 72, 3) := by decide +kernel
theorem dX4_winByBest_11 : decode cX4_winByBest 11 = .ok (.ifCond .eq 17, 3) := by decide +kernel
theorem dX4_winByBest_14 : decode cX4_winByBest 14 = .ok (.aload_n 0, 1) := by decide +kernel
theorem dX4_winByBest_15 : decode cX4_winByBest 15 = .ok (.iload_n 3, 1) := by decide +kernel
theorem dX4_winByBest_16 : decode cX4_winByBest 16 = .ok (.aload_n 0, 1) := by decide +kernel
theorem dX4_winByBest_17 : decode cX4_winByBest 17 = .ok (.iload_n 1, 1) := by decide +kernel
theorem dX4_winByBest_18 : decode cX4_winByBest 18 = .ok (.iload_n 2, 1) := by decide +kernel
theorem dX4_winByBest_19 : decode cX4_winByBest 19 = .ok (.bipush 6, 2) := by decide +kernel
theorem dX4_winByBest_21 : decode cX4_winByBest 21 = .ok (.invokevirtual 78, 3) := by decide +kernel
theorem dX4_winByBest_24 : decode cX4_winByBest 24 = .ok (.invokevirtual 82, 3) := by decide +kernel
theorem dX4_winByBest_27 : decode cX4_winByBest 27 = .ok (.istore_n 3, 1) := by decide +kernel
theorem dX4_winByBest_28 : decode cX4_winByBest 28 = .ok (.iload_n 2, 1) := by decide +kernel
theorem dX4_winByBest_29 : decode cX4_winByBest 29 = .ok (.invokestatic 85, 3) := by decide +kernel
theorem dX4_winByBest_32 : decode cX4_winByBest 32 = .ok (.ifCond .eq 15, 3) := by decide +kernel
theorem dX4_winByBest_35 : decode cX4_winByBest 35 = .ok (.aload_n 0, 1) := by decide +kernel
theorem dX4_winByBest_36 : decode cX4_winByBest 36 = .ok (.iload_n 3, 1) := by decide +kernel
theorem dX4_winByBest_37 : decode cX4_winByBest 37 = .ok (.aload_n 0, 1) := by decide +kernel
theorem dX4_winByBest_38 : decode cX4_winByBest 38 = .ok (.iload_n 1, 1) := by decide +kernel
theorem dX4_winByBest_39 : decode cX4_winByBest 39 = .ok (.iload_n 2, 1) := by decide +kernel
theorem dX4_winByBest_40 : decode cX4_winByBest 40 = .ok (.invokevirtual 88, 3) := by decide +kernel
theorem dX4_winByBest_43 : decode cX4_winByBest 43 = .ok (.invokevirtual 82, 3) := by decide +kernel
theorem dX4_winByBest_46 : decode cX4_winByBest 46 = .ok (.istore_n 3, 1) := by decide +kernel
theorem dX4_winByBest_47 : decode cX4_winByBest 47 = .ok (.iload_n 3, 1) := by decide +kernel
theorem dX4_winByBest_48 : decode cX4_winByBest 48 = .ok (.ireturn, 1) := by decide +kernel
theorem dX4_betterOf_0 : decode cX4_betterOf 0 = .ok (.aload_n 0, 1) := by decide +kernel
theorem dX4_betterOf_1 : decode cX4_betterOf 1 = .ok (.getfield 59, 3) := by decide +kernel
theorem dX4_betterOf_4 : decode cX4_betterOf 4 = .ok (.ifCond .ne 11, 3) := by decide +kernel
theorem dX4_betterOf_7 : decode cX4_betterOf 7 = .ok (.iload_n 1, 1) := by decide +kernel
theorem dX4_betterOf_8 : decode cX4_betterOf 8 = .ok (.iload_n 2, 1) := by decide +kernel
theorem dX4_betterOf_9 : decode cX4_betterOf 9 = .ok (.invokestatic 39, 3) := by decide +kernel
theorem dX4_betterOf_12 : decode cX4_betterOf 12 = .ok (.goto 8, 3) := by decide +kernel
theorem dX4_betterOf_15 : decode cX4_betterOf 15 = .ok (.iload_n 1, 1) := by decide +kernel
theorem dX4_betterOf_16 : decode cX4_betterOf 16 = .ok (.iload_n 2, 1) := by decide +kernel
theorem dX4_betterOf_17 : decode cX4_betterOf 17 = .ok (.invokestatic 91, 3) := by decide +kernel
theorem dX4_betterOf_20 : decode cX4_betterOf 20 = .ok (.ireturn, 1) := by decide +kernel
set_option maxRecDepth 20000 in
theorem ggX4_choiceAt_X4_winByStrike : GoodIn wsX4_choiceAt wsX4_winByStrike := goodIn_r _ [6, 7, 8, 9, 10, 11, 12, 13, 5, 14, 15, 16, 17, 18, 23, 24, 25, 26, 27, 28, 29, 30, 31, 32, 33, 34] (by decide +kernel) (by decide +kernel)
set_option maxRecDepth 20000 in
theorem gX4_choiceAt_X4_winByStrike : GoodIn wsX4_choiceAt (wsV RX4 69 RX4 yX4_winByStrike wsX4_winByStrike) := goodIn_app (goodIn_of _ (by decide +kernel)) ggX4_choiceAt_X4_winByStrike
set_option maxRecDepth 20000 in
theorem ggX4_choiceAt_X1_someoneIsOn : GoodIn wsX4_choiceAt wsX1_someoneIsOn := goodIn_r _ [22] (by decide +kernel) (by decide +kernel)
set_option maxRecDepth 20000 in
theorem gX4_choiceAt_X1_someoneIsOn : GoodIn wsX4_choiceAt (va_wsS RX4 72 yX1_someoneIsOn wsX1_someoneIsOn) := goodIn_app (goodIn_of _ (by decide +kernel)) ggX4_choiceAt_X1_someoneIsOn
set_option maxRecDepth 20000 in
theorem ggX4_choiceAt_X4_winAfter : GoodIn wsX4_choiceAt wsX4_winAfter := goodIn_r _ [14, 9, 15, 16, 17, 18, 23, 24, 25, 26, 27, 28, 29, 30, 33, 34] (by decide +kernel) (by decide +kernel)
set_option maxRecDepth 20000 in
theorem gX4_choiceAt_X4_winAfter : GoodIn wsX4_choiceAt (wsV RX4 78 RX4 yX4_winAfter wsX4_winAfter) := goodIn_app (goodIn_of _ (by decide +kernel)) ggX4_choiceAt_X4_winAfter
theorem dX4_choiceAt_0 : decode cX4_choiceAt 0 = .ok (.aload_n 0, 1) := by decide +kernel
theorem dX4_choiceAt_1 : decode cX4_choiceAt 1 = .ok (.getfield 19, 3) := by decide +kernel
theorem dX4_choiceAt_4 : decode cX4_choiceAt 4 = .ok (.iload_n 1, 1) := by decide +kernel
theorem dX4_choiceAt_5 : decode cX4_choiceAt 5 = .ok (.bipush 25, 2) := by decide +kernel
theorem dX4_choiceAt_7 : decode cX4_choiceAt 7 = .ok (.imul, 1) := by decide +kernel
theorem dX4_choiceAt_8 : decode cX4_choiceAt 8 = .ok (.iload_n 2, 1) := by decide +kernel
theorem dX4_choiceAt_9 : decode cX4_choiceAt 9 = .ok (.iadd, 1) := by decide +kernel
theorem dX4_choiceAt_10 : decode cX4_choiceAt 10 = .ok (.iaload, 1) := by decide +kernel
theorem dX4_choiceAt_11 : decode cX4_choiceAt 11 = .ok (.istore_n 3, 1) := by decide +kernel
theorem dX4_choiceAt_12 : decode cX4_choiceAt 12 = .ok (.aload_n 0, 1) := by decide +kernel
theorem dX4_choiceAt_13 : decode cX4_choiceAt 13 = .ok (.iload_n 1, 1) := by decide +kernel
theorem dX4_choiceAt_14 : decode cX4_choiceAt 14 = .ok (.iload_n 2, 1) := by decide +kernel
theorem dX4_choiceAt_15 : decode cX4_choiceAt 15 = .ok (.invokevirtual 69, 3) := by decide +kernel
theorem dX4_choiceAt_18 : decode cX4_choiceAt 18 = .ok (.iload_n 3, 1) := by decide +kernel
theorem dX4_choiceAt_19 : decode cX4_choiceAt 19 = .ok (.if_icmp .ne 5, 3) := by decide +kernel
theorem dX4_choiceAt_22 : decode cX4_choiceAt 22 = .ok (.iconst 0, 1) := by decide +kernel
theorem dX4_choiceAt_23 : decode cX4_choiceAt 23 = .ok (.ireturn, 1) := by decide +kernel
theorem dX4_choiceAt_24 : decode cX4_choiceAt 24 = .ok (.iload_n 2, 1) := by decide +kernel
theorem dX4_choiceAt_25 : decode cX4_choiceAt 25 = .ok (.invokestatic 72, 3) := by decide +kernel
theorem dX4_choiceAt_28 : decode cX4_choiceAt 28 = .ok (.ifCond .eq 19, 3) := by decide +kernel
theorem dX4_choiceAt_31 : decode cX4_choiceAt 31 = .ok (.aload_n 0, 1) := by decide +kernel
theorem dX4_choiceAt_32 : decode cX4_choiceAt 32 = .ok (.iload_n 1, 1) := by decide +kernel
theorem dX4_choiceAt_33 : decode cX4_choiceAt 33 = .ok (.iload_n 2, 1) := by decide +kernel
theorem dX4_choiceAt_34 : decode cX4_choiceAt 34 = .ok (.bipush 6, 2) := by decide +kernel
theorem dX4_choiceAt_36 : decode cX4_choiceAt 36 = .ok (.invokevirtual 78, 3) := by decide +kernel
theorem dX4_choiceAt_39 : decode cX4_choiceAt 39 = .ok (.iload_n 3, 1) := by decide +kernel
theorem dX4_choiceAt_40 : decode cX4_choiceAt 40 = .ok (.if_icmp .ne 7, 3) := by decide +kernel
theorem dX4_choiceAt_43 : decode cX4_choiceAt 43 = .ok (.iconst 1, 1) := by decide +kernel
theorem dX4_choiceAt_44 : decode cX4_choiceAt 44 = .ok (.goto 4, 3) := by decide +kernel
theorem dX4_choiceAt_47 : decode cX4_choiceAt 47 = .ok (.iconst 0, 1) := by decide +kernel
theorem dX4_choiceAt_48 : decode cX4_choiceAt 48 = .ok (.istore 4, 2) := by decide +kernel
theorem dX4_choiceAt_50 : decode cX4_choiceAt 50 = .ok (.iload 4, 2) := by decide +kernel
theorem dX4_choiceAt_52 : decode cX4_choiceAt 52 = .ok (.ifCond .eq 7, 3) := by decide +kernel
theorem dX4_choiceAt_55 : decode cX4_choiceAt 55 = .ok (.iconst 1, 1) := by decide +kernel
theorem dX4_choiceAt_56 : decode cX4_choiceAt 56 = .ok (.goto 4, 3) := by decide +kernel
theorem dX4_choiceAt_59 : decode cX4_choiceAt 59 = .ok (.iconst 2, 1) := by decide +kernel
theorem dX4_choiceAt_60 : decode cX4_choiceAt 60 = .ok (.ireturn, 1) := by decide +kernel
set_option maxRecDepth 20000 in
theorem ggX4_walkIsBetter_X4_winAfter : GoodIn wsX4_walkIsBetter wsX4_winAfter := goodIn_r _ [7, 2, 8, 9, 10, 11, 12, 13, 14, 15, 16, 17, 18, 19, 20, 21] (by decide +kernel) (by decide +kernel)
set_option maxRecDepth 20000 in
theorem gX4_walkIsBetter_X4_winAfter : GoodIn wsX4_walkIsBetter (wsV RX4 78 RX4 yX4_winAfter wsX4_winAfter) := goodIn_app (goodIn_of _ (by decide +kernel)) ggX4_walkIsBetter_X4_winAfter
theorem dX4_walkIsBetter_0 : decode cX4_walkIsBetter 0 = .ok (.aload_n 0, 1) := by decide +kernel
theorem dX4_walkIsBetter_1 : decode cX4_walkIsBetter 1 = .ok (.getfield 19, 3) := by decide +kernel
theorem dX4_walkIsBetter_4 : decode cX4_walkIsBetter 4 = .ok (.iload_n 1, 1) := by decide +kernel
theorem dX4_walkIsBetter_5 : decode cX4_walkIsBetter 5 = .ok (.bipush 25, 2) := by decide +kernel
theorem dX4_walkIsBetter_7 : decode cX4_walkIsBetter 7 = .ok (.imul, 1) := by decide +kernel
theorem dX4_walkIsBetter_8 : decode cX4_walkIsBetter 8 = .ok (.iload_n 2, 1) := by decide +kernel
theorem dX4_walkIsBetter_9 : decode cX4_walkIsBetter 9 = .ok (.iadd, 1) := by decide +kernel
theorem dX4_walkIsBetter_10 : decode cX4_walkIsBetter 10 = .ok (.iaload, 1) := by decide +kernel
theorem dX4_walkIsBetter_11 : decode cX4_walkIsBetter 11 = .ok (.istore_n 3, 1) := by decide +kernel
theorem dX4_walkIsBetter_12 : decode cX4_walkIsBetter 12 = .ok (.aload_n 0, 1) := by decide +kernel
theorem dX4_walkIsBetter_13 : decode cX4_walkIsBetter 13 = .ok (.iload_n 1, 1) := by decide +kernel
theorem dX4_walkIsBetter_14 : decode cX4_walkIsBetter 14 = .ok (.iload_n 2, 1) := by decide +kernel
theorem dX4_walkIsBetter_15 : decode cX4_walkIsBetter 15 = .ok (.iconst 1, 1) := by decide +kernel
theorem dX4_walkIsBetter_16 : decode cX4_walkIsBetter 16 = .ok (.invokevirtual 78, 3) := by decide +kernel
theorem dX4_walkIsBetter_19 : decode cX4_walkIsBetter 19 = .ok (.istore 4, 2) := by decide +kernel
theorem dX4_walkIsBetter_21 : decode cX4_walkIsBetter 21 = .ok (.aload_n 0, 1) := by decide +kernel
theorem dX4_walkIsBetter_22 : decode cX4_walkIsBetter 22 = .ok (.getfield 59, 3) := by decide +kernel
theorem dX4_walkIsBetter_25 : decode cX4_walkIsBetter 25 = .ok (.ifCond .ne 17, 3) := by decide +kernel
theorem dX4_walkIsBetter_28 : decode cX4_walkIsBetter 28 = .ok (.iload 4, 2) := by decide +kernel
theorem dX4_walkIsBetter_30 : decode cX4_walkIsBetter 30 = .ok (.iload_n 3, 1) := by decide +kernel
theorem dX4_walkIsBetter_31 : decode cX4_walkIsBetter 31 = .ok (.if_icmp .ge 7, 3) := by decide +kernel
theorem dX4_walkIsBetter_34 : decode cX4_walkIsBetter 34 = .ok (.iconst 1, 1) := by decide +kernel
theorem dX4_walkIsBetter_35 : decode cX4_walkIsBetter 35 = .ok (.goto 18, 3) := by decide +kernel
theorem dX4_walkIsBetter_38 : decode cX4_walkIsBetter 38 = .ok (.iconst 0, 1) := by decide +kernel
theorem dX4_walkIsBetter_39 : decode cX4_walkIsBetter 39 = .ok (.goto 14, 3) := by decide +kernel
theorem dX4_walkIsBetter_42 : decode cX4_walkIsBetter 42 = .ok (.iload 4, 2) := by decide +kernel
theorem dX4_walkIsBetter_44 : decode cX4_walkIsBetter 44 = .ok (.iload_n 3, 1) := by decide +kernel
theorem dX4_walkIsBetter_45 : decode cX4_walkIsBetter 45 = .ok (.if_icmp .le 7, 3) := by decide +kernel
theorem dX4_walkIsBetter_48 : decode cX4_walkIsBetter 48 = .ok (.iconst 1, 1) := by decide +kernel
theorem dX4_walkIsBetter_49 : decode cX4_walkIsBetter 49 = .ok (.goto 4, 3) := by decide +kernel
theorem dX4_walkIsBetter_52 : decode cX4_walkIsBetter 52 = .ok (.iconst 0, 1) := by decide +kernel
theorem dX4_walkIsBetter_53 : decode cX4_walkIsBetter 53 = .ok (.istore 5, 2) := by decide +kernel
theorem dX4_walkIsBetter_55 : decode cX4_walkIsBetter 55 = .ok (.iload 5, 2) := by decide +kernel
theorem dX4_walkIsBetter_57 : decode cX4_walkIsBetter 57 = .ok (.ifCond .eq 7, 3) := by decide +kernel
theorem dX4_walkIsBetter_60 : decode cX4_walkIsBetter 60 = .ok (.iconst 1, 1) := by decide +kernel
theorem dX4_walkIsBetter_61 : decode cX4_walkIsBetter 61 = .ok (.goto 4, 3) := by decide +kernel
theorem dX4_walkIsBetter_64 : decode cX4_walkIsBetter 64 = .ok (.iconst 0, 1) := by decide +kernel
theorem dX4_walkIsBetter_65 : decode cX4_walkIsBetter 65 = .ok (.ireturn, 1) := by decide +kernel
set_option maxRecDepth 20000 in
theorem ggX4_winByStrike_X4_winAfter : GoodIn wsX4_winByStrike wsX4_winAfter := goodIn_r _ [9, 3, 10, 11, 12, 13, 14, 15, 16, 17, 18, 19, 20, 21, 24, 25] (by decide +kernel) (by decide +kernel)
set_option maxRecDepth 20000 in
theorem gX4_winByStrike_X4_winAfter : GoodIn wsX4_winByStrike (wsV RX4 78 RX4 yX4_winAfter wsX4_winAfter) := goodIn_app (goodIn_of _ (by decide +kernel)) ggX4_winByStrike_X4_winAfter
theorem dX4_winByStrike_0 : decode cX4_winByStrike 0 = .ok (.aload_n 0, 1) := by decide +kernel
theorem dX4_winByStrike_1 : decode cX4_winByStrike 1 = .ok (.getfield 29, 3) := by decide +kernel
theorem dX4_winByStrike_4 : decode cX4_winByStrike 4 = .ok (.aload_n 0, 1) := by decide +kernel
theorem dX4_winByStrike_5 : decode cX4_winByStrike 5 = .ok (.getfield 10, 3) := by decide +kernel
theorem dX4_winByStrike_8 : decode cX4_winByStrike 8 = .ok (.aload_n 0, 1) := by decide +kernel
theorem dX4_winByStrike_9 : decode cX4_winByStrike 9 = .ok (.getfield 59, 3) := by decide +kernel
theorem dX4_winByStrike_12 : decode cX4_winByStrike 12 = .ok (.iaload, 1) := by decide +kernel
theorem dX4_winByStrike_13 : decode cX4_winByStrike 13 = .ok (.aaload, 1) := by decide +kernel
theorem dX4_winByStrike_14 : decode cX4_winByStrike 14 = .ok (.getfield 94, 3) := by decide +kernel
theorem dX4_winByStrike_17 : decode cX4_winByStrike 17 = .ok (.astore_n 3, 1) := by decide +kernel
theorem dX4_winByStrike_18 : decode cX4_winByStrike 18 = .ok (.iconst 0, 1) := by decide +kernel
theorem dX4_winByStrike_19 : decode cX4_winByStrike 19 = .ok (.istore 4, 2) := by decide +kernel
theorem dX4_winByStrike_21 : decode cX4_winByStrike 21 = .ok (.iconst 0, 1) := by decide +kernel
theorem dX4_winByStrike_22 : decode cX4_winByStrike 22 = .ok (.istore 5, 2) := by decide +kernel
theorem dX4_winByStrike_24 : decode cX4_winByStrike 24 = .ok (.iload 5, 2) := by decide +kernel
theorem dX4_winByStrike_26 : decode cX4_winByStrike 26 = .ok (.iconst 5, 1) := by decide +kernel
theorem dX4_winByStrike_27 : decode cX4_winByStrike 27 = .ok (.if_icmp .gt 34, 3) := by decide +kernel
theorem dX4_winByStrike_30 : decode cX4_winByStrike 30 = .ok (.aload_n 3, 1) := by decide +kernel
theorem dX4_winByStrike_31 : decode cX4_winByStrike 31 = .ok (.iload 5, 2) := by decide +kernel
theorem dX4_winByStrike_33 : decode cX4_winByStrike 33 = .ok (.iaload, 1) := by decide +kernel
theorem dX4_winByStrike_34 : decode cX4_winByStrike 34 = .ok (.ifCond .le 21, 3) := by decide +kernel
theorem dX4_winByStrike_37 : decode cX4_winByStrike 37 = .ok (.iload 4, 2) := by decide +kernel
theorem dX4_winByStrike_39 : decode cX4_winByStrike 39 = .ok (.aload_n 3, 1) := by decide +kernel
theorem dX4_winByStrike_40 : decode cX4_winByStrike 40 = .ok (.iload 5, 2) := by decide +kernel
theorem dX4_winByStrike_42 : decode cX4_winByStrike 42 = .ok (.iaload, 1) := by decide +kernel
theorem dX4_winByStrike_43 : decode cX4_winByStrike 43 = .ok (.aload_n 0, 1) := by decide +kernel
theorem dX4_winByStrike_44 : decode cX4_winByStrike 44 = .ok (.iload_n 1, 1) := by decide +kernel
theorem dX4_winByStrike_45 : decode cX4_winByStrike 45 = .ok (.iload_n 2, 1) := by decide +kernel
theorem dX4_winByStrike_46 : decode cX4_winByStrike 46 = .ok (.iload 5, 2) := by decide +kernel
theorem dX4_winByStrike_48 : decode cX4_winByStrike 48 = .ok (.invokevirtual 78, 3) := by decide +kernel
theorem dX4_winByStrike_51 : decode cX4_winByStrike 51 = .ok (.imul, 1) := by decide +kernel
theorem dX4_winByStrike_52 : decode cX4_winByStrike 52 = .ok (.iadd, 1) := by decide +kernel
theorem dX4_winByStrike_53 : decode cX4_winByStrike 53 = .ok (.istore 4, 2) := by decide +kernel
theorem dX4_winByStrike_55 : decode cX4_winByStrike 55 = .ok (.iinc 5 1, 3) := by decide +kernel
theorem dX4_winByStrike_58 : decode cX4_winByStrike 58 = .ok (.goto (-34), 3) := by decide +kernel
theorem dX4_winByStrike_61 : decode cX4_winByStrike 61 = .ok (.iload 4, 2) := by decide +kernel
theorem dX4_winByStrike_63 : decode cX4_winByStrike 63 = .ok (.sipush 1000, 3) := by decide +kernel
theorem dX4_winByStrike_66 : decode cX4_winByStrike 66 = .ok (.idiv, 1) := by decide +kernel
theorem dX4_winByStrike_67 : decode cX4_winByStrike 67 = .ok (.ireturn, 1) := by decide +kernel
set_option maxRecDepth 20000 in
theorem ggX4_winBySteal_X4_winAfter : GoodIn wsX4_winBySteal wsX4_winAfter := goodIn_r _ [9, 3, 10, 11, 12, 13, 14, 15, 16, 17, 18, 19, 20, 21, 24, 25] (by decide +kernel) (by decide +kernel)
set_option maxRecDepth 20000 in
theorem gX4_winBySteal_X4_winAfter : GoodIn wsX4_winBySteal (wsV RX4 78 RX4 yX4_winAfter wsX4_winAfter) := goodIn_app (goodIn_of _ (by decide +kernel)) ggX4_winBySteal_X4_winAfter
theorem dX4_winBySteal_0 : decode cX4_winBySteal 0 = .ok (.aload_n 0, 1) := by decide +kernel
theorem dX4_winBySteal_1 : decode cX4_winBySteal 1 = .ok (.getfield 29, 3) := by decide +kernel
theorem dX4_winBySteal_4 : decode cX4_winBySteal 4 = .ok (.aload_n 0, 1) := by decide +kernel
theorem dX4_winBySteal_5 : decode cX4_winBySteal 5 = .ok (.getfield 10, 3) := by decide +kernel
theorem dX4_winBySteal_8 : decode cX4_winBySteal 8 = .ok (.aload_n 0, 1) := by decide +kernel
theorem dX4_winBySteal_9 : decode cX4_winBySteal 9 = .ok (.getfield 59, 3) := by decide +kernel
theorem dX4_winBySteal_12 : decode cX4_winBySteal 12 = .ok (.iaload, 1) := by decide +kernel
theorem dX4_winBySteal_13 : decode cX4_winBySteal 13 = .ok (.aaload, 1) := by decide +kernel
theorem dX4_winBySteal_14 : decode cX4_winBySteal 14 = .ok (.getfield 99, 3) := by decide +kernel
theorem dX4_winBySteal_17 : decode cX4_winBySteal 17 = .ok (.istore_n 3, 1) := by decide +kernel
theorem dX4_winBySteal_18 : decode cX4_winBySteal 18 = .ok (.iload_n 3, 1) := by decide +kernel
theorem dX4_winBySteal_19 : decode cX4_winBySteal 19 = .ok (.aload_n 0, 1) := by decide +kernel
theorem dX4_winBySteal_20 : decode cX4_winBySteal 20 = .ok (.iload_n 1, 1) := by decide +kernel
theorem dX4_winBySteal_21 : decode cX4_winBySteal 21 = .ok (.iload_n 2, 1) := by decide +kernel
theorem dX4_winBySteal_22 : decode cX4_winBySteal 22 = .ok (.bipush 7, 2) := by decide +kernel
theorem dX4_winBySteal_24 : decode cX4_winBySteal 24 = .ok (.invokevirtual 78, 3) := by decide +kernel
theorem dX4_winBySteal_27 : decode cX4_winBySteal 27 = .ok (.imul, 1) := by decide +kernel
theorem dX4_winBySteal_28 : decode cX4_winBySteal 28 = .ok (.sipush 1000, 3) := by decide +kernel
theorem dX4_winBySteal_31 : decode cX4_winBySteal 31 = .ok (.iload_n 3, 1) := by decide +kernel
theorem dX4_winBySteal_32 : decode cX4_winBySteal 32 = .ok (.isub, 1) := by decide +kernel
theorem dX4_winBySteal_33 : decode cX4_winBySteal 33 = .ok (.aload_n 0, 1) := by decide +kernel
theorem dX4_winBySteal_34 : decode cX4_winBySteal 34 = .ok (.iload_n 1, 1) := by decide +kernel
theorem dX4_winBySteal_35 : decode cX4_winBySteal 35 = .ok (.iload_n 2, 1) := by decide +kernel
theorem dX4_winBySteal_36 : decode cX4_winBySteal 36 = .ok (.bipush 8, 2) := by decide +kernel
theorem dX4_winBySteal_38 : decode cX4_winBySteal 38 = .ok (.invokevirtual 78, 3) := by decide +kernel
theorem dX4_winBySteal_41 : decode cX4_winBySteal 41 = .ok (.imul, 1) := by decide +kernel
theorem dX4_winBySteal_42 : decode cX4_winBySteal 42 = .ok (.iadd, 1) := by decide +kernel
theorem dX4_winBySteal_43 : decode cX4_winBySteal 43 = .ok (.istore 4, 2) := by decide +kernel
theorem dX4_winBySteal_45 : decode cX4_winBySteal 45 = .ok (.iload 4, 2) := by decide +kernel
theorem dX4_winBySteal_47 : decode cX4_winBySteal 47 = .ok (.sipush 1000, 3) := by decide +kernel
theorem dX4_winBySteal_50 : decode cX4_winBySteal 50 = .ok (.idiv, 1) := by decide +kernel
theorem dX4_winBySteal_51 : decode cX4_winBySteal 51 = .ok (.ireturn, 1) := by decide +kernel
theorem dX4_winAfter_0 : decode cX4_winAfter 0 = .ok (.iload_n 2, 1) := by decide +kernel
theorem dX4_winAfter_1 : decode cX4_winAfter 1 = .ok (.bipush 9, 2) := by decide +kernel
theorem dX4_winAfter_3 : decode cX4_winAfter 3 = .ok (.imul, 1) := by decide +kernel
theorem dX4_winAfter_4 : decode cX4_winAfter 4 = .ok (.iload_n 3, 1) := by decide +kernel
theorem dX4_winAfter_5 : decode cX4_winAfter 5 = .ok (.iadd, 1) := by decide +kernel
theorem dX4_winAfter_6 : decode cX4_winAfter 6 = .ok (.istore 4, 2) := by decide +kernel
theorem dX4_winAfter_8 : decode cX4_winAfter 8 = .ok (.aload_n 0, 1) := by decide +kernel
theorem dX4_winAfter_9 : decode cX4_winAfter 9 = .ok (.getfield 59, 3) := by decide +kernel
theorem dX4_winAfter_12 : decode cX4_winAfter 12 = .ok (.ifCond .ne 18, 3) := by decide +kernel
theorem dX4_winAfter_15 : decode cX4_winAfter 15 = .ok (.iload_n 1, 1) := by decide +kernel
theorem dX4_winAfter_16 : decode cX4_winAfter 16 = .ok (.aload_n 0, 1) := by decide +kernel
theorem dX4_winAfter_17 : decode cX4_winAfter 17 = .ok (.getfield 25, 3) := by decide +kernel
theorem dX4_winAfter_20 : decode cX4_winAfter 20 = .ok (.getfield 102, 3) := by decide +kernel
theorem dX4_winAfter_23 : decode cX4_winAfter 23 = .ok (.iload 4, 2) := by decide +kernel
theorem dX4_winAfter_25 : decode cX4_winAfter 25 = .ok (.iaload, 1) := by decide +kernel
theorem dX4_winAfter_26 : decode cX4_winAfter 26 = .ok (.iadd, 1) := by decide +kernel
theorem dX4_winAfter_27 : decode cX4_winAfter 27 = .ok (.goto 15, 3) := by decide +kernel
theorem dX4_winAfter_30 : decode cX4_winAfter 30 = .ok (.iload_n 1, 1) := by decide +kernel
theorem dX4_winAfter_31 : decode cX4_winAfter 31 = .ok (.aload_n 0, 1) := by decide +kernel
theorem dX4_winAfter_32 : decode cX4_winAfter 32 = .ok (.getfield 25, 3) := by decide +kernel
theorem dX4_winAfter_35 : decode cX4_winAfter 35 = .ok (.getfield 102, 3) := by decide +kernel
theorem dX4_winAfter_38 : decode cX4_winAfter 38 = .ok (.iload 4, 2) := by decide +kernel
theorem dX4_winAfter_40 : decode cX4_winAfter 40 = .ok (.iaload, 1) := by decide +kernel
theorem dX4_winAfter_41 : decode cX4_winAfter 41 = .ok (.isub, 1) := by decide +kernel
theorem dX4_winAfter_42 : decode cX4_winAfter 42 = .ok (.istore 5, 2) := by decide +kernel
theorem dX4_winAfter_44 : decode cX4_winAfter 44 = .ok (.iload 5, 2) := by decide +kernel
theorem dX4_winAfter_46 : decode cX4_winAfter 46 = .ok (.ifCond .ge 9, 3) := by decide +kernel
theorem dX4_winAfter_49 : decode cX4_winAfter 49 = .ok (.iconst 0, 1) := by decide +kernel
theorem dX4_winAfter_50 : decode cX4_winAfter 50 = .ok (.istore 5, 2) := by decide +kernel
theorem dX4_winAfter_52 : decode cX4_winAfter 52 = .ok (.goto 14, 3) := by decide +kernel
theorem dX4_winAfter_55 : decode cX4_winAfter 55 = .ok (.iload 5, 2) := by decide +kernel
theorem dX4_winAfter_57 : decode cX4_winAfter 57 = .ok (.bipush 19, 2) := by decide +kernel
theorem dX4_winAfter_59 : decode cX4_winAfter 59 = .ok (.if_icmp .lt 7, 3) := by decide +kernel
theorem dX4_winAfter_62 : decode cX4_winAfter 62 = .ok (.bipush 18, 2) := by decide +kernel
theorem dX4_winAfter_64 : decode cX4_winAfter 64 = .ok (.istore 5, 2) := by decide +kernel
theorem dX4_winAfter_66 : decode cX4_winAfter 66 = .ok (.aload_n 0, 1) := by decide +kernel
theorem dX4_winAfter_67 : decode cX4_winAfter 67 = .ok (.getfield 22, 3) := by decide +kernel
theorem dX4_winAfter_70 : decode cX4_winAfter 70 = .ok (.iload 5, 2) := by decide +kernel
theorem dX4_winAfter_72 : decode cX4_winAfter 72 = .ok (.bipush 25, 2) := by decide +kernel
theorem dX4_winAfter_74 : decode cX4_winAfter 74 = .ok (.imul, 1) := by decide +kernel
theorem dX4_winAfter_75 : decode cX4_winAfter 75 = .ok (.aload_n 0, 1) := by decide +kernel
theorem dX4_winAfter_76 : decode cX4_winAfter 76 = .ok (.getfield 25, 3) := by decide +kernel
theorem dX4_winAfter_79 : decode cX4_winAfter 79 = .ok (.getfield 105, 3) := by decide +kernel
theorem dX4_winAfter_82 : decode cX4_winAfter 82 = .ok (.iload 4, 2) := by decide +kernel
theorem dX4_winAfter_84 : decode cX4_winAfter 84 = .ok (.iaload, 1) := by decide +kernel
theorem dX4_winAfter_85 : decode cX4_winAfter 85 = .ok (.iadd, 1) := by decide +kernel
theorem dX4_winAfter_86 : decode cX4_winAfter 86 = .ok (.iaload, 1) := by decide +kernel
theorem dX4_winAfter_87 : decode cX4_winAfter 87 = .ok (.ireturn, 1) := by decide +kernel
theorem dX5_init_0 : decode cX5_init 0 = .ok (.aload_n 0, 1) := by decide +kernel
theorem dX5_init_1 : decode cX5_init 1 = .ok (.invokespecial 1, 3) := by decide +kernel
theorem dX5_init_4 : decode cX5_init 4 = .ok (.aload_n 0, 1) := by decide +kernel
theorem dX5_init_5 : decode cX5_init 5 = .ok (.bipush 60, 2) := by decide +kernel
theorem dX5_init_7 : decode cX5_init 7 = .ok (.newarray .int, 2) := by decide +kernel
theorem dX5_init_9 : decode cX5_init 9 = .ok (.putfield 9, 3) := by decide +kernel
theorem dX5_init_12 : decode cX5_init 12 = .ok (.aload_n 0, 1) := by decide +kernel
theorem dX5_init_13 : decode cX5_init 13 = .ok (.iconst 1, 1) := by decide +kernel
theorem dX5_init_14 : decode cX5_init 14 = .ok (.putfield 13, 3) := by decide +kernel
theorem dX5_init_17 : decode cX5_init 17 = .ok (.return_, 1) := by decide +kernel
set_option maxRecDepth 20000 in
theorem ggX5_begin_J7_fill_53178 : GoodIn wsX5_begin wsJ7_fill_53178 := goodIn_r _ [8] (by decide +kernel) (by decide +kernel)
set_option maxRecDepth 20000 in
theorem gX5_begin_J7_fill_53178 : GoodIn wsX5_begin (va_wsS RX5 24 yJ7_fill_53178 wsJ7_fill_53178) := goodIn_app (goodIn_of _ (by decide +kernel)) ggX5_begin_J7_fill_53178
theorem dX5_begin_0 : decode cX5_begin 0 = .ok (.aload_n 0, 1) := by decide +kernel
theorem dX5_begin_1 : decode cX5_begin 1 = .ok (.iconst 0, 1) := by decide +kernel
theorem dX5_begin_2 : decode cX5_begin 2 = .ok (.putfield 13, 3) := by decide +kernel
theorem dX5_begin_5 : decode cX5_begin 5 = .ok (.aload_n 0, 1) := by decide +kernel
theorem dX5_begin_6 : decode cX5_begin 6 = .ok (.iload_n 1, 1) := by decide +kernel
theorem dX5_begin_7 : decode cX5_begin 7 = .ok (.putfield 17, 3) := by decide +kernel
theorem dX5_begin_10 : decode cX5_begin 10 = .ok (.aload_n 0, 1) := by decide +kernel
theorem dX5_begin_11 : decode cX5_begin 11 = .ok (.iload_n 2, 1) := by decide +kernel
theorem dX5_begin_12 : decode cX5_begin 12 = .ok (.putfield 21, 3) := by decide +kernel
theorem dX5_begin_15 : decode cX5_begin 15 = .ok (.aload_n 0, 1) := by decide +kernel
theorem dX5_begin_16 : decode cX5_begin 16 = .ok (.getfield 9, 3) := by decide +kernel
theorem dX5_begin_19 : decode cX5_begin 19 = .ok (.iconst 0, 1) := by decide +kernel
theorem dX5_begin_20 : decode cX5_begin 20 = .ok (.invokestatic 24, 3) := by decide +kernel
theorem dX5_begin_23 : decode cX5_begin 23 = .ok (.return_, 1) := by decide +kernel
theorem dX5_holds_0 : decode cX5_holds 0 = .ok (.iload_n 1, 1) := by decide +kernel
theorem dX5_holds_1 : decode cX5_holds 1 = .ok (.ifCond .lt 21, 3) := by decide +kernel
theorem dX5_holds_4 : decode cX5_holds 4 = .ok (.iload_n 2, 1) := by decide +kernel
theorem dX5_holds_5 : decode cX5_holds 5 = .ok (.ifCond .lt 17, 3) := by decide +kernel
theorem dX5_holds_8 : decode cX5_holds 8 = .ok (.iload_n 1, 1) := by decide +kernel
theorem dX5_holds_9 : decode cX5_holds 9 = .ok (.aload_n 0, 1) := by decide +kernel
theorem dX5_holds_10 : decode cX5_holds 10 = .ok (.getfield 21, 3) := by decide +kernel
theorem dX5_holds_13 : decode cX5_holds 13 = .ok (.iload_n 2, 1) := by decide +kernel
theorem dX5_holds_14 : decode cX5_holds 14 = .ok (.isub, 1) := by decide +kernel
theorem dX5_holds_15 : decode cX5_holds 15 = .ok (.if_icmp .gt 7, 3) := by decide +kernel
theorem dX5_holds_18 : decode cX5_holds 18 = .ok (.iconst 1, 1) := by decide +kernel
theorem dX5_holds_19 : decode cX5_holds 19 = .ok (.goto 4, 3) := by decide +kernel
theorem dX5_holds_22 : decode cX5_holds 22 = .ok (.iconst 0, 1) := by decide +kernel
theorem dX5_holds_23 : decode cX5_holds 23 = .ok (.ireturn, 1) := by decide +kernel
theorem dX5_cutToLane_0 : decode cX5_cutToLane 0 = .ok (.aload_n 0, 1) := by decide +kernel
theorem dX5_cutToLane_1 : decode cX5_cutToLane 1 = .ok (.getfield 17, 3) := by decide +kernel
theorem dX5_cutToLane_4 : decode cX5_cutToLane 4 = .ok (.ifCond .ne 6, 3) := by decide +kernel
theorem dX5_cutToLane_7 : decode cX5_cutToLane 7 = .ok (.iload_n 1, 1) := by decide +kernel
theorem dX5_cutToLane_8 : decode cX5_cutToLane 8 = .ok (.i2b, 1) := by decide +kernel
theorem dX5_cutToLane_9 : decode cX5_cutToLane 9 = .ok (.ireturn, 1) := by decide +kernel
theorem dX5_cutToLane_10 : decode cX5_cutToLane 10 = .ok (.aload_n 0, 1) := by decide +kernel
theorem dX5_cutToLane_11 : decode cX5_cutToLane 11 = .ok (.getfield 17, 3) := by decide +kernel
theorem dX5_cutToLane_14 : decode cX5_cutToLane 14 = .ok (.iconst 1, 1) := by decide +kernel
theorem dX5_cutToLane_15 : decode cX5_cutToLane 15 = .ok (.if_icmp .ne 8, 3) := by decide +kernel
theorem dX5_cutToLane_18 : decode cX5_cutToLane 18 = .ok (.iload_n 1, 1) := by decide +kernel
theorem dX5_cutToLane_19 : decode cX5_cutToLane 19 = .ok (.i2s, 1) := by decide +kernel
theorem dX5_cutToLane_20 : decode cX5_cutToLane 20 = .ok (.goto 4, 3) := by decide +kernel
theorem dX5_cutToLane_23 : decode cX5_cutToLane 23 = .ok (.iload_n 1, 1) := by decide +kernel
theorem dX5_cutToLane_24 : decode cX5_cutToLane 24 = .ok (.ireturn, 1) := by decide +kernel
theorem dX6_init_0 : decode cX6_init 0 = .ok (.aload_n 0, 1) := by decide +kernel
theorem dX6_init_1 : decode cX6_init 1 = .ok (.invokespecial 3, 3) := by decide +kernel
theorem dX6_init_4 : decode cX6_init 4 = .ok (.aload_n 0, 1) := by decide +kernel
theorem dX6_init_5 : decode cX6_init 5 = .ok (.bipush 6, 2) := by decide +kernel
theorem dX6_init_7 : decode cX6_init 7 = .ok (.newarray .int, 2) := by decide +kernel
theorem dX6_init_9 : decode cX6_init 9 = .ok (.putfield 9, 3) := by decide +kernel
theorem dX6_init_12 : decode cX6_init 12 = .ok (.return_, 1) := by decide +kernel
theorem dX6_giveTheRestToOut_0 : decode cX6_giveTheRestToOut 0 = .ok (.sipush 1000, 3) := by decide +kernel
theorem dX6_giveTheRestToOut_3 : decode cX6_giveTheRestToOut 3 = .ok (.istore_n 1, 1) := by decide +kernel
theorem dX6_giveTheRestToOut_4 : decode cX6_giveTheRestToOut 4 = .ok (.iconst 1, 1) := by decide +kernel
theorem dX6_giveTheRestToOut_5 : decode cX6_giveTheRestToOut 5 = .ok (.istore_n 2, 1) := by decide +kernel
theorem dX6_giveTheRestToOut_6 : decode cX6_giveTheRestToOut 6 = .ok (.iload_n 2, 1) := by decide +kernel
theorem dX6_giveTheRestToOut_7 : decode cX6_giveTheRestToOut 7 = .ok (.iconst 5, 1) := by decide +kernel
theorem dX6_giveTheRestToOut_8 : decode cX6_giveTheRestToOut 8 = .ok (.if_icmp .gt 18, 3) := by decide +kernel
theorem dX6_giveTheRestToOut_11 : decode cX6_giveTheRestToOut 11 = .ok (.iload_n 1, 1) := by decide +kernel
theorem dX6_giveTheRestToOut_12 : decode cX6_giveTheRestToOut 12 = .ok (.aload_n 0, 1) := by decide +kernel
theorem dX6_giveTheRestToOut_13 : decode cX6_giveTheRestToOut 13 = .ok (.getfield 9, 3) := by decide +kernel
theorem dX6_giveTheRestToOut_16 : decode cX6_giveTheRestToOut 16 = .ok (.iload_n 2, 1) := by decide +kernel
theorem dX6_giveTheRestToOut_17 : decode cX6_giveTheRestToOut 17 = .ok (.iaload, 1) := by decide +kernel
theorem dX6_giveTheRestToOut_18 : decode cX6_giveTheRestToOut 18 = .ok (.isub, 1) := by decide +kernel
theorem dX6_giveTheRestToOut_19 : decode cX6_giveTheRestToOut 19 = .ok (.istore_n 1, 1) := by decide +kernel
theorem dX6_giveTheRestToOut_20 : decode cX6_giveTheRestToOut 20 = .ok (.iinc 2 1, 3) := by decide +kernel
theorem dX6_giveTheRestToOut_23 : decode cX6_giveTheRestToOut 23 = .ok (.goto (-17), 3) := by decide +kernel
theorem dX6_giveTheRestToOut_26 : decode cX6_giveTheRestToOut 26 = .ok (.aload_n 0, 1) := by decide +kernel
theorem dX6_giveTheRestToOut_27 : decode cX6_giveTheRestToOut 27 = .ok (.getfield 9, 3) := by decide +kernel
theorem dX6_giveTheRestToOut_30 : decode cX6_giveTheRestToOut 30 = .ok (.iconst 0, 1) := by decide +kernel
theorem dX6_giveTheRestToOut_31 : decode cX6_giveTheRestToOut 31 = .ok (.iload_n 1, 1) := by decide +kernel
theorem dX6_giveTheRestToOut_32 : decode cX6_giveTheRestToOut 32 = .ok (.iastore, 1) := by decide +kernel
theorem dX6_giveTheRestToOut_33 : decode cX6_giveTheRestToOut 33 = .ok (.return_, 1) := by decide +kernel
theorem dX6_chanceOrSteals_0 : decode cX6_chanceOrSteals 0 = .ok (.iload_n 1, 1) := by decide +kernel
theorem dX6_chanceOrSteals_1 : decode cX6_chanceOrSteals 1 = .ok (.bipush 6, 2) := by decide +kernel
theorem dX6_chanceOrSteals_3 : decode cX6_chanceOrSteals 3 = .ok (.if_icmp .ne 10, 3) := by decide +kernel
theorem dX6_chanceOrSteals_6 : decode cX6_chanceOrSteals 6 = .ok (.aload_n 0, 1) := by decide +kernel
theorem dX6_chanceOrSteals_7 : decode cX6_chanceOrSteals 7 = .ok (.getfield 15, 3) := by decide +kernel
theorem dX6_chanceOrSteals_10 : decode cX6_chanceOrSteals 10 = .ok (.goto 9, 3) := by decide +kernel
theorem dX6_chanceOrSteals_13 : decode cX6_chanceOrSteals 13 = .ok (.aload_n 0, 1) := by decide +kernel
theorem dX6_chanceOrSteals_14 : decode cX6_chanceOrSteals 14 = .ok (.getfield 9, 3) := by decide +kernel
theorem dX6_chanceOrSteals_17 : decode cX6_chanceOrSteals 17 = .ok (.iload_n 1, 1) := by decide +kernel
theorem dX6_chanceOrSteals_18 : decode cX6_chanceOrSteals 18 = .ok (.iaload, 1) := by decide +kernel
theorem dX6_chanceOrSteals_19 : decode cX6_chanceOrSteals 19 = .ok (.ireturn, 1) := by decide +kernel
theorem dX6_toldKind_0 : decode cX6_toldKind 0 = .ok (.aload_n 0, 1) := by decide +kernel
theorem dX6_toldKind_1 : decode cX6_toldKind 1 = .ok (.getfield 9, 3) := by decide +kernel
theorem dX6_toldKind_4 : decode cX6_toldKind 4 = .ok (.iconst 0, 1) := by decide +kernel
theorem dX6_toldKind_5 : decode cX6_toldKind 5 = .ok (.iaload, 1) := by decide +kernel
theorem dX6_toldKind_6 : decode cX6_toldKind 6 = .ok (.sipush 650, 3) := by decide +kernel
theorem dX6_toldKind_9 : decode cX6_toldKind 9 = .ok (.if_icmp .gt 27, 3) := by decide +kernel
theorem dX6_toldKind_12 : decode cX6_toldKind 12 = .ok (.aload_n 0, 1) := by decide +kernel
theorem dX6_toldKind_13 : decode cX6_toldKind 13 = .ok (.getfield 9, 3) := by decide +kernel
theorem dX6_toldKind_16 : decode cX6_toldKind 16 = .ok (.iconst 4, 1) := by decide +kernel
theorem dX6_toldKind_17 : decode cX6_toldKind 17 = .ok (.iaload, 1) := by decide +kernel
theorem dX6_toldKind_18 : decode cX6_toldKind 18 = .ok (.aload_n 0, 1) := by decide +kernel
theorem dX6_toldKind_19 : decode cX6_toldKind 19 = .ok (.getfield 9, 3) := by decide +kernel
theorem dX6_toldKind_22 : decode cX6_toldKind 22 = .ok (.iconst 5, 1) := by decide +kernel
theorem dX6_toldKind_23 : decode cX6_toldKind 23 = .ok (.iaload, 1) := by decide +kernel
theorem dX6_toldKind_24 : decode cX6_toldKind 24 = .ok (.iadd, 1) := by decide +kernel
theorem dX6_toldKind_25 : decode cX6_toldKind 25 = .ok (.bipush 60, 2) := by decide +kernel
theorem dX6_toldKind_27 : decode cX6_toldKind 27 = .ok (.if_icmp .lt 7, 3) := by decide +kernel
theorem dX6_toldKind_30 : decode cX6_toldKind 30 = .ok (.iconst 2, 1) := by decide +kernel
theorem dX6_toldKind_31 : decode cX6_toldKind 31 = .ok (.goto 4, 3) := by decide +kernel
theorem dX6_toldKind_34 : decode cX6_toldKind 34 = .ok (.iconst 1, 1) := by decide +kernel
theorem dX6_toldKind_35 : decode cX6_toldKind 35 = .ok (.ireturn, 1) := by decide +kernel
theorem dX6_toldKind_36 : decode cX6_toldKind 36 = .ok (.aload_n 0, 1) := by decide +kernel
theorem dX6_toldKind_37 : decode cX6_toldKind 37 = .ok (.getfield 15, 3) := by decide +kernel
theorem dX6_toldKind_40 : decode cX6_toldKind 40 = .ok (.sipush 700, 3) := by decide +kernel
theorem dX6_toldKind_43 : decode cX6_toldKind 43 = .ok (.if_icmp .lt 7, 3) := by decide +kernel
theorem dX6_toldKind_46 : decode cX6_toldKind 46 = .ok (.iconst 3, 1) := by decide +kernel
theorem dX6_toldKind_47 : decode cX6_toldKind 47 = .ok (.goto 4, 3) := by decide +kernel
theorem dX6_toldKind_50 : decode cX6_toldKind 50 = .ok (.iconst 0, 1) := by decide +kernel
theorem dX6_toldKind_51 : decode cX6_toldKind 51 = .ok (.ireturn, 1) := by decide +kernel
set_option maxRecDepth 20000 in
theorem ggX6_isOne_X6_toldKind : GoodIn wsX6_isOne wsX6_toldKind := goodIn_r _ [5, 6, 7, 8, 9] (by decide +kernel) (by decide +kernel)
set_option maxRecDepth 20000 in
theorem gX6_isOne_X6_toldKind : GoodIn wsX6_isOne (wsV RX6 19 RX6 yX6_toldKind wsX6_toldKind) := goodIn_app (goodIn_of _ (by decide +kernel)) ggX6_isOne_X6_toldKind
theorem dX6_isOne_0 : decode cX6_isOne 0 = .ok (.aload_n 0, 1) := by decide +kernel
theorem dX6_isOne_1 : decode cX6_isOne 1 = .ok (.invokevirtual 19, 3) := by decide +kernel
theorem dX6_isOne_4 : decode cX6_isOne 4 = .ok (.istore_n 2, 1) := by decide +kernel
theorem dX6_isOne_5 : decode cX6_isOne 5 = .ok (.iload_n 1, 1) := by decide +kernel
theorem dX6_isOne_6 : decode cX6_isOne 6 = .ok (.ifCond .eq 18, 3) := by decide +kernel
theorem dX6_isOne_9 : decode cX6_isOne 9 = .ok (.iload_n 1, 1) := by decide +kernel
theorem dX6_isOne_10 : decode cX6_isOne 10 = .ok (.iload_n 2, 1) := by decide +kernel
theorem dX6_isOne_11 : decode cX6_isOne 11 = .ok (.if_icmp .eq 13, 3) := by decide +kernel
theorem dX6_isOne_14 : decode cX6_isOne 14 = .ok (.iload_n 1, 1) := by decide +kernel
theorem dX6_isOne_15 : decode cX6_isOne 15 = .ok (.iconst 1, 1) := by decide +kernel
theorem dX6_isOne_16 : decode cX6_isOne 16 = .ok (.if_icmp .ne 12, 3) := by decide +kernel
theorem dX6_isOne_19 : decode cX6_isOne 19 = .ok (.iload_n 2, 1) := by decide +kernel
theorem dX6_isOne_20 : decode cX6_isOne 20 = .ok (.iconst 2, 1) := by decide +kernel
theorem dX6_isOne_21 : decode cX6_isOne 21 = .ok (.if_icmp .ne 7, 3) := by decide +kernel
theorem dX6_isOne_24 : decode cX6_isOne 24 = .ok (.iconst 1, 1) := by decide +kernel
theorem dX6_isOne_25 : decode cX6_isOne 25 = .ok (.goto 4, 3) := by decide +kernel
theorem dX6_isOne_28 : decode cX6_isOne 28 = .ok (.iconst 0, 1) := by decide +kernel
theorem dX6_isOne_29 : decode cX6_isOne 29 = .ok (.ireturn, 1) := by decide +kernel
set_option maxRecDepth 20000 in
theorem ggX7_init_X5_init : GoodIn wsX7_init wsX5_init := goodIn_r _ [35, 36, 2, 3, 37, 38, 39, 120, 121, 122, 123] (by decide +kernel) (by decide +kernel)
set_option maxRecDepth 20000 in
theorem gX7_init_X5_init_n15 : GoodIn wsX7_init (wsX5_init) := ggX7_init_X5_init
set_option maxRecDepth 20000 in
theorem ggX7_init_X6_init : GoodIn wsX7_init wsX6_init := goodIn_r _ [41, 42, 2, 3, 37, 43, 124, 125] (by decide +kernel) (by decide +kernel)
set_option maxRecDepth 20000 in
theorem gX7_init_X6_init_n22 : GoodIn wsX7_init (wsX6_init) := ggX7_init_X6_init
set_option maxRecDepth 20000 in
theorem ggX7_init_X1_init : GoodIn wsX7_init wsX1_init := goodIn_r _ [46, 47, 2, 3, 37, 48, 49, 50, 51, 52, 15, 53, 54, 55, 56, 57, 58, 59, 60, 61, 62, 63, 64, 65, 66, 67, 68, 69, 70, 71, 72, 73, 126, 127] (by decide +kernel) (by decide +kernel)
set_option maxRecDepth 20000 in
theorem gX7_init_X1_init : GoodIn wsX7_init (wsX1_init) := ggX7_init_X1_init
set_option maxRecDepth 20000 in
theorem ggX7_init_X2_init : GoodIn wsX7_init wsX2_init := goodIn_r _ [76, 77, 2, 3, 37, 78, 79, 80, 81, 82, 83, 84, 85, 86, 128, 129, 130, 131, 132, 133, 134, 135, 136] (by decide +kernel) (by decide +kernel)
set_option maxRecDepth 20000 in
theorem gX7_init_X2_init : GoodIn wsX7_init (wsX2_init) := ggX7_init_X2_init
set_option maxRecDepth 20000 in
theorem ggX7_init_X4_init : GoodIn wsX7_init wsX4_init := goodIn_r _ [89, 90, 2, 3, 37, 91, 92, 93, 94, 95, 96, 97, 98, 99, 100, 137, 138, 139, 140, 141, 142, 143, 144] (by decide +kernel) (by decide +kernel)
set_option maxRecDepth 20000 in
theorem gX7_init_X4_init : GoodIn wsX7_init (wsX4_init) := ggX7_init_X4_init
set_option maxRecDepth 20000 in
theorem ggX7_init_X3_init : GoodIn wsX7_init wsX3_init := goodIn_r _ [103, 104, 2, 3, 37, 105, 106, 145, 146, 147, 148, 149, 150] (by decide +kernel) (by decide +kernel)
set_option maxRecDepth 20000 in
theorem gX7_init_X3_init : GoodIn wsX7_init (wsX3_init) := ggX7_init_X3_init
set_option maxRecDepth 20000 in
theorem ggX7_init_X0_init : GoodIn wsX7_init wsX0_init := goodIn_r _ [108, 109, 2, 3, 37, 110, 151, 152] (by decide +kernel) (by decide +kernel)
set_option maxRecDepth 20000 in
theorem gX7_init_X0_init_n61 : GoodIn wsX7_init (wsX0_init) := ggX7_init_X0_init
theorem dX7_init_0 : decode cX7_init 0 = .ok (.aload_n 0, 1) := by decide +kernel
theorem dX7_init_1 : decode cX7_init 1 = .ok (.invokespecial 1, 3) := by decide +kernel
theorem dX7_init_4 : decode cX7_init 4 = .ok (.aload_n 0, 1) := by decide +kernel
theorem dX7_init_5 : decode cX7_init 5 = .ok (.bipush 8, 2) := by decide +kernel
theorem dX7_init_7 : decode cX7_init 7 = .ok (.anewarray 9, 3) := by decide +kernel
theorem dX7_init_10 : decode cX7_init 10 = .ok (.putfield 11, 3) := by decide +kernel
theorem dX7_init_13 : decode cX7_init 13 = .ok (.iconst 0, 1) := by decide +kernel
theorem dX7_init_14 : decode cX7_init 14 = .ok (.istore_n 1, 1) := by decide +kernel
theorem dX7_init_15 : decode cX7_init 15 = .ok (.iload_n 1, 1) := by decide +kernel
theorem dX7_init_16 : decode cX7_init 16 = .ok (.bipush 8, 2) := by decide +kernel
theorem dX7_init_18 : decode cX7_init 18 = .ok (.if_icmp .ge 22, 3) := by decide +kernel
theorem dX7_init_21 : decode cX7_init 21 = .ok (.aload_n 0, 1) := by decide +kernel
theorem dX7_init_22 : decode cX7_init 22 = .ok (.getfield 11, 3) := by decide +kernel
theorem dX7_init_25 : decode cX7_init 25 = .ok (.iload_n 1, 1) := by decide +kernel
theorem dX7_init_26 : decode cX7_init 26 = .ok (.new 9, 3) := by decide +kernel
theorem dX7_init_29 : decode cX7_init 29 = .ok (.dup, 1) := by decide +kernel
theorem dX7_init_30 : decode cX7_init 30 = .ok (.invokespecial 15, 3) := by decide +kernel
theorem dX7_init_33 : decode cX7_init 33 = .ok (.aastore, 1) := by decide +kernel
theorem dX7_init_34 : decode cX7_init 34 = .ok (.iinc 1 1, 3) := by decide +kernel
theorem dX7_init_37 : decode cX7_init 37 = .ok (.goto (-22), 3) := by decide +kernel
theorem dX7_init_40 : decode cX7_init 40 = .ok (.aload_n 0, 1) := by decide +kernel
theorem dX7_init_41 : decode cX7_init 41 = .ok (.bipush 12, 2) := by decide +kernel
theorem dX7_init_43 : decode cX7_init 43 = .ok (.anewarray 16, 3) := by decide +kernel
theorem dX7_init_46 : decode cX7_init 46 = .ok (.putfield 18, 3) := by decide +kernel
theorem dX7_init_49 : decode cX7_init 49 = .ok (.iconst 0, 1) := by decide +kernel
theorem dX7_init_50 : decode cX7_init 50 = .ok (.istore_n 1, 1) := by decide +kernel
theorem dX7_init_51 : decode cX7_init 51 = .ok (.iload_n 1, 1) := by decide +kernel
theorem dX7_init_52 : decode cX7_init 52 = .ok (.bipush 12, 2) := by decide +kernel
theorem dX7_init_54 : decode cX7_init 54 = .ok (.if_icmp .ge 22, 3) := by decide +kernel
theorem dX7_init_57 : decode cX7_init 57 = .ok (.aload_n 0, 1) := by decide +kernel
theorem dX7_init_58 : decode cX7_init 58 = .ok (.getfield 18, 3) := by decide +kernel
theorem dX7_init_61 : decode cX7_init 61 = .ok (.iload_n 1, 1) := by decide +kernel
theorem dX7_init_62 : decode cX7_init 62 = .ok (.new 16, 3) := by decide +kernel
theorem dX7_init_65 : decode cX7_init 65 = .ok (.dup, 1) := by decide +kernel
theorem dX7_init_66 : decode cX7_init 66 = .ok (.invokespecial 22, 3) := by decide +kernel
theorem dX7_init_69 : decode cX7_init 69 = .ok (.aastore, 1) := by decide +kernel
theorem dX7_init_70 : decode cX7_init 70 = .ok (.iinc 1 1, 3) := by decide +kernel
theorem dX7_init_73 : decode cX7_init 73 = .ok (.goto (-22), 3) := by decide +kernel
theorem dX7_init_76 : decode cX7_init 76 = .ok (.aload_n 0, 1) := by decide +kernel
theorem dX7_init_77 : decode cX7_init 77 = .ok (.iconst 0, 1) := by decide +kernel
theorem dX7_init_78 : decode cX7_init 78 = .ok (.putfield 23, 3) := by decide +kernel
theorem dX7_init_81 : decode cX7_init 81 = .ok (.aload_n 0, 1) := by decide +kernel
theorem dX7_init_82 : decode cX7_init 82 = .ok (.new 27, 3) := by decide +kernel
theorem dX7_init_85 : decode cX7_init 85 = .ok (.dup, 1) := by decide +kernel
theorem dX7_init_86 : decode cX7_init 86 = .ok (.invokespecial 29, 3) := by decide +kernel
theorem dX7_init_89 : decode cX7_init 89 = .ok (.putfield 30, 3) := by decide +kernel
theorem dX7_init_92 : decode cX7_init 92 = .ok (.aload_n 0, 1) := by decide +kernel
theorem dX7_init_93 : decode cX7_init 93 = .ok (.new 34, 3) := by decide +kernel
theorem dX7_init_96 : decode cX7_init 96 = .ok (.dup, 1) := by decide +kernel
theorem dX7_init_97 : decode cX7_init 97 = .ok (.aload_n 0, 1) := by decide +kernel
theorem dX7_init_98 : decode cX7_init 98 = .ok (.getfield 30, 3) := by decide +kernel
theorem dX7_init_101 : decode cX7_init 101 = .ok (.aload_n 0, 1) := by decide +kernel
theorem dX7_init_102 : decode cX7_init 102 = .ok (.getfield 18, 3) := by decide +kernel
theorem dX7_init_105 : decode cX7_init 105 = .ok (.invokespecial 36, 3) := by decide +kernel
theorem dX7_init_108 : decode cX7_init 108 = .ok (.putfield 39, 3) := by decide +kernel
theorem dX7_init_111 : decode cX7_init 111 = .ok (.aload_n 0, 1) := by decide +kernel
theorem dX7_init_112 : decode cX7_init 112 = .ok (.new 43, 3) := by decide +kernel
theorem dX7_init_115 : decode cX7_init 115 = .ok (.dup, 1) := by decide +kernel
theorem dX7_init_116 : decode cX7_init 116 = .ok (.aload_n 0, 1) := by decide +kernel
theorem dX7_init_117 : decode cX7_init 117 = .ok (.getfield 30, 3) := by decide +kernel
theorem dX7_init_120 : decode cX7_init 120 = .ok (.aload_n 0, 1) := by decide +kernel
theorem dX7_init_121 : decode cX7_init 121 = .ok (.getfield 18, 3) := by decide +kernel
theorem dX7_init_124 : decode cX7_init 124 = .ok (.invokespecial 45, 3) := by decide +kernel
theorem dX7_init_127 : decode cX7_init 127 = .ok (.putfield 46, 3) := by decide +kernel
theorem dX7_init_130 : decode cX7_init 130 = .ok (.aload_n 0, 1) := by decide +kernel
theorem dX7_init_131 : decode cX7_init 131 = .ok (.new 50, 3) := by decide +kernel
theorem dX7_init_134 : decode cX7_init 134 = .ok (.dup, 1) := by decide +kernel
theorem dX7_init_135 : decode cX7_init 135 = .ok (.aload_n 0, 1) := by decide +kernel
theorem dX7_init_136 : decode cX7_init 136 = .ok (.getfield 30, 3) := by decide +kernel
theorem dX7_init_139 : decode cX7_init 139 = .ok (.invokespecial 52, 3) := by decide +kernel
theorem dX7_init_142 : decode cX7_init 142 = .ok (.putfield 55, 3) := by decide +kernel
theorem dX7_init_145 : decode cX7_init 145 = .ok (.aload_n 0, 1) := by decide +kernel
theorem dX7_init_146 : decode cX7_init 146 = .ok (.new 59, 3) := by decide +kernel
theorem dX7_init_149 : decode cX7_init 149 = .ok (.dup, 1) := by decide +kernel
theorem dX7_init_150 : decode cX7_init 150 = .ok (.invokespecial 61, 3) := by decide +kernel
theorem dX7_init_153 : decode cX7_init 153 = .ok (.putfield 62, 3) := by decide +kernel
theorem dX7_init_156 : decode cX7_init 156 = .ok (.aload_n 0, 1) := by decide +kernel
theorem dX7_init_157 : decode cX7_init 157 = .ok (.iconst 0, 1) := by decide +kernel
theorem dX7_init_158 : decode cX7_init 158 = .ok (.putfield 66, 3) := by decide +kernel
theorem dX7_init_161 : decode cX7_init 161 = .ok (.return_, 1) := by decide +kernel
set_option maxRecDepth 20000 in
theorem ggX7_sheet_X7_isSheet : GoodIn wsX7_sheet wsX7_isSheet := goodIn_r _ [6, 7, 8, 5, 9] (by decide +kernel) (by decide +kernel)
set_option maxRecDepth 20000 in
theorem gX7_sheet_X7_isSheet : GoodIn wsX7_sheet (va_wsS RX7 69 yX7_isSheet wsX7_isSheet) := goodIn_app (goodIn_of _ (by decide +kernel)) ggX7_sheet_X7_isSheet
set_option maxRecDepth 20000 in
theorem ggX7_sheet_X7_within : GoodIn wsX7_sheet wsX7_within := goodIn_r _ [9] (by decide +kernel) (by decide +kernel)
set_option maxRecDepth 20000 in
theorem gX7_sheet_X7_within : GoodIn wsX7_sheet (va_wsS RX7 73 yX7_within wsX7_within) := goodIn_app (goodIn_of _ (by decide +kernel)) ggX7_sheet_X7_within
set_option maxRecDepth 20000 in
theorem ggX7_sheet_X7_found : GoodIn wsX7_sheet wsX7_found := goodIn_r _ [13, 14, 15, 33, 34, 35, 36, 37, 38, 39, 40, 41] (by decide +kernel) (by decide +kernel)
set_option maxRecDepth 20000 in
theorem gX7_sheet_X7_found : GoodIn wsX7_sheet (wsV RX7 78 RX7 yX7_found wsX7_found) := goodIn_app (goodIn_of _ (by decide +kernel)) ggX7_sheet_X7_found
set_option maxRecDepth 20000 in
theorem ggX7_sheet_X5_begin : GoodIn wsX7_sheet wsX5_begin := goodIn_r _ [20, 21, 22, 23, 24, 25, 26, 27, 28, 42, 43, 44, 45] (by decide +kernel) (by decide +kernel)
set_option maxRecDepth 20000 in
theorem gX7_sheet_X5_begin : GoodIn wsX7_sheet (wsV RX7 82 RX5 yX5_begin wsX5_begin) := goodIn_app (goodIn_of _ (by decide +kernel)) ggX7_sheet_X5_begin
set_option maxRecDepth 20000 in
theorem ggX7_sheet_X7_fine : GoodIn wsX7_sheet wsX7_fine := goodIn_r _ [32, 14, 33, 34, 35, 36, 37, 38, 39, 40, 41] (by decide +kernel) (by decide +kernel)
set_option maxRecDepth 20000 in
theorem gX7_sheet_X7_fine : GoodIn wsX7_sheet (wsV RX7 86 RX7 yX7_fine wsX7_fine) := goodIn_app (goodIn_of _ (by decide +kernel)) ggX7_sheet_X7_fine
theorem dX7_sheet_0 : decode cX7_sheet 0 = .ok (.iload_n 1, 1) := by decide +kernel
theorem dX7_sheet_1 : decode cX7_sheet 1 = .ok (.invokestatic 69, 3) := by decide +kernel
theorem dX7_sheet_4 : decode cX7_sheet 4 = .ok (.ifCond .eq 18, 3) := by decide +kernel
theorem dX7_sheet_7 : decode cX7_sheet 7 = .ok (.iload_n 2, 1) := by decide +kernel
theorem dX7_sheet_8 : decode cX7_sheet 8 = .ok (.iconst 0, 1) := by decide +kernel
theorem dX7_sheet_9 : decode cX7_sheet 9 = .ok (.iconst 2, 1) := by decide +kernel
theorem dX7_sheet_10 : decode cX7_sheet 10 = .ok (.invokestatic 73, 3) := by decide +kernel
theorem dX7_sheet_13 : decode cX7_sheet 13 = .ok (.ifCond .eq 9, 3) := by decide +kernel
theorem dX7_sheet_16 : decode cX7_sheet 16 = .ok (.iload_n 3, 1) := by decide +kernel
theorem dX7_sheet_17 : decode cX7_sheet 17 = .ok (.bipush 60, 2) := by decide +kernel
theorem dX7_sheet_19 : decode cX7_sheet 19 = .ok (.if_icmp .le 6, 3) := by decide +kernel
theorem dX7_sheet_22 : decode cX7_sheet 22 = .ok (.ldc 77, 2) := by decide +kernel
theorem dX7_sheet_24 : decode cX7_sheet 24 = .ok (.ireturn, 1) := by decide +kernel
theorem dX7_sheet_25 : decode cX7_sheet 25 = .ok (.iload_n 3, 1) := by decide +kernel
theorem dX7_sheet_26 : decode cX7_sheet 26 = .ok (.ifCond .ge 9, 3) := by decide +kernel
theorem dX7_sheet_29 : decode cX7_sheet 29 = .ok (.aload_n 0, 1) := by decide +kernel
theorem dX7_sheet_30 : decode cX7_sheet 30 = .ok (.iconst 4, 1) := by decide +kernel
theorem dX7_sheet_31 : decode cX7_sheet 31 = .ok (.invokevirtual 78, 3) := by decide +kernel
theorem dX7_sheet_34 : decode cX7_sheet 34 = .ok (.ireturn, 1) := by decide +kernel
theorem dX7_sheet_35 : decode cX7_sheet 35 = .ok (.aload_n 0, 1) := by decide +kernel
theorem dX7_sheet_36 : decode cX7_sheet 36 = .ok (.getfield 11, 3) := by decide +kernel
theorem dX7_sheet_39 : decode cX7_sheet 39 = .ok (.iload_n 1, 1) := by decide +kernel
theorem dX7_sheet_40 : decode cX7_sheet 40 = .ok (.aaload, 1) := by decide +kernel
theorem dX7_sheet_41 : decode cX7_sheet 41 = .ok (.iload_n 2, 1) := by decide +kernel
theorem dX7_sheet_42 : decode cX7_sheet 42 = .ok (.iload_n 3, 1) := by decide +kernel
theorem dX7_sheet_43 : decode cX7_sheet 43 = .ok (.invokevirtual 82, 3) := by decide +kernel
theorem dX7_sheet_46 : decode cX7_sheet 46 = .ok (.aload_n 0, 1) := by decide +kernel
theorem dX7_sheet_47 : decode cX7_sheet 47 = .ok (.iload_n 3, 1) := by decide +kernel
theorem dX7_sheet_48 : decode cX7_sheet 48 = .ok (.invokevirtual 86, 3) := by decide +kernel
theorem dX7_sheet_51 : decode cX7_sheet 51 = .ok (.ireturn, 1) := by decide +kernel
set_option maxRecDepth 20000 in
theorem ggX7_set_X7_isSheet : GoodIn wsX7_set wsX7_isSheet := goodIn_r _ [8, 9, 10, 7, 11] (by decide +kernel) (by decide +kernel)
set_option maxRecDepth 20000 in
theorem gX7_set_X7_isSheet : GoodIn wsX7_set (va_wsS RX7 69 yX7_isSheet wsX7_isSheet) := goodIn_app (goodIn_of _ (by decide +kernel)) ggX7_set_X7_isSheet
set_option maxRecDepth 20000 in
theorem ggX7_set_X7_found : GoodIn wsX7_set wsX7_found := goodIn_r _ [15, 16, 17, 33, 34, 35, 36, 37, 38, 39, 40, 41] (by decide +kernel) (by decide +kernel)
set_option maxRecDepth 20000 in
theorem gX7_set_X7_found : GoodIn wsX7_set (wsV RX7 78 RX7 yX7_found wsX7_found) := goodIn_app (goodIn_of _ (by decide +kernel)) ggX7_set_X7_found
set_option maxRecDepth 20000 in
theorem ggX7_set_X5_holds : GoodIn wsX7_set wsX5_holds := goodIn_r _ [22, 23, 42, 43, 44, 45] (by decide +kernel) (by decide +kernel)
set_option maxRecDepth 20000 in
theorem gX7_set_X5_holds : GoodIn wsX7_set (wsV RX7 93 RX5 yX5_holds wsX5_holds) := goodIn_app (goodIn_of _ (by decide +kernel)) ggX7_set_X5_holds
set_option maxRecDepth 20000 in
theorem ggX7_set_X5_cutToLane : GoodIn wsX7_set wsX5_cutToLane := goodIn_r _ [27, 28, 42, 43, 44, 45] (by decide +kernel) (by decide +kernel)
set_option maxRecDepth 20000 in
theorem gX7_set_X5_cutToLane : GoodIn wsX7_set (wsV RX7 101 RX5 yX5_cutToLane wsX5_cutToLane) := goodIn_app (goodIn_of _ (by decide +kernel)) ggX7_set_X5_cutToLane
set_option maxRecDepth 20000 in
theorem ggX7_set_X7_fine : GoodIn wsX7_set wsX7_fine := goodIn_r _ [32, 16, 33, 34, 35, 36, 37, 38, 39, 40, 41] (by decide +kernel) (by decide +kernel)
set_option maxRecDepth 20000 in
theorem gX7_set_X7_fine : GoodIn wsX7_set (wsV RX7 86 RX7 yX7_fine wsX7_fine) := goodIn_app (goodIn_of _ (by decide +kernel)) ggX7_set_X7_fine
theorem dX7_set_0 : decode cX7_set 0 = .ok (.iload_n 1, 1) := by decide +kernel
theorem dX7_set_1 : decode cX7_set 1 = .ok (.invokestatic 69, 3) := by decide +kernel
theorem dX7_set_4 : decode cX7_set 4 = .ok (.ifCond .ne 6, 3) := by decide +kernel
theorem dX7_set_7 : decode cX7_set 7 = .ok (.ldc 77, 2) := by decide +kernel
theorem dX7_set_9 : decode cX7_set 9 = .ok (.ireturn, 1) := by decide +kernel
theorem dX7_set_10 : decode cX7_set 10 = .ok (.aload_n 0, 1) := by decide +kernel
theorem dX7_set_11 : decode cX7_set 11 = .ok (.getfield 11, 3) := by decide +kernel
theorem dX7_set_14 : decode cX7_set 14 = .ok (.iload_n 1, 1) := by decide +kernel
theorem dX7_set_15 : decode cX7_set 15 = .ok (.aaload, 1) := by decide +kernel
theorem dX7_set_16 : decode cX7_set 16 = .ok (.astore 4, 2) := by decide +kernel
theorem dX7_set_18 : decode cX7_set 18 = .ok (.aload 4, 2) := by decide +kernel
theorem dX7_set_20 : decode cX7_set 20 = .ok (.getfield 89, 3) := by decide +kernel
theorem dX7_set_23 : decode cX7_set 23 = .ok (.ifCond .eq 9, 3) := by decide +kernel
theorem dX7_set_26 : decode cX7_set 26 = .ok (.aload_n 0, 1) := by decide +kernel
theorem dX7_set_27 : decode cX7_set 27 = .ok (.iconst 1, 1) := by decide +kernel
theorem dX7_set_28 : decode cX7_set 28 = .ok (.invokevirtual 78, 3) := by decide +kernel
theorem dX7_set_31 : decode cX7_set 31 = .ok (.ireturn, 1) := by decide +kernel
theorem dX7_set_32 : decode cX7_set 32 = .ok (.aload 4, 2) := by decide +kernel
theorem dX7_set_34 : decode cX7_set 34 = .ok (.iload_n 2, 1) := by decide +kernel
theorem dX7_set_35 : decode cX7_set 35 = .ok (.iconst 1, 1) := by decide +kernel
theorem dX7_set_36 : decode cX7_set 36 = .ok (.invokevirtual 93, 3) := by decide +kernel
theorem dX7_set_39 : decode cX7_set 39 = .ok (.ifCond .ne 9, 3) := by decide +kernel
theorem dX7_set_42 : decode cX7_set 42 = .ok (.aload_n 0, 1) := by decide +kernel
theorem dX7_set_43 : decode cX7_set 43 = .ok (.iconst 2, 1) := by decide +kernel
theorem dX7_set_44 : decode cX7_set 44 = .ok (.invokevirtual 78, 3) := by decide +kernel
theorem dX7_set_47 : decode cX7_set 47 = .ok (.ireturn, 1) := by decide +kernel
theorem dX7_set_48 : decode cX7_set 48 = .ok (.aload 4, 2) := by decide +kernel
theorem dX7_set_50 : decode cX7_set 50 = .ok (.getfield 97, 3) := by decide +kernel
theorem dX7_set_53 : decode cX7_set 53 = .ok (.iload_n 2, 1) := by decide +kernel
theorem dX7_set_54 : decode cX7_set 54 = .ok (.aload 4, 2) := by decide +kernel
theorem dX7_set_56 : decode cX7_set 56 = .ok (.iload_n 3, 1) := by decide +kernel
theorem dX7_set_57 : decode cX7_set 57 = .ok (.invokevirtual 101, 3) := by decide +kernel
theorem dX7_set_60 : decode cX7_set 60 = .ok (.iastore, 1) := by decide +kernel
theorem dX7_set_61 : decode cX7_set 61 = .ok (.aload_n 0, 1) := by decide +kernel
theorem dX7_set_62 : decode cX7_set 62 = .ok (.aload 4, 2) := by decide +kernel
theorem dX7_set_64 : decode cX7_set 64 = .ok (.getfield 97, 3) := by decide +kernel
theorem dX7_set_67 : decode cX7_set 67 = .ok (.iload_n 2, 1) := by decide +kernel
theorem dX7_set_68 : decode cX7_set 68 = .ok (.iaload, 1) := by decide +kernel
theorem dX7_set_69 : decode cX7_set 69 = .ok (.invokevirtual 86, 3) := by decide +kernel
theorem dX7_set_72 : decode cX7_set 72 = .ok (.ireturn, 1) := by decide +kernel
set_option maxRecDepth 20000 in
theorem ggX7_copy_X7_isSheet : GoodIn wsX7_copy wsX7_isSheet := goodIn_r _ [13, 14, 15, 12, 16] (by decide +kernel) (by decide +kernel)
set_option maxRecDepth 20000 in
theorem gX7_copy_X7_isSheet : GoodIn wsX7_copy (va_wsS RX7 69 yX7_isSheet wsX7_isSheet) := goodIn_app (goodIn_of _ (by decide +kernel)) ggX7_copy_X7_isSheet
set_option maxRecDepth 20000 in
theorem ggX7_copy_X7_found : GoodIn wsX7_copy wsX7_found := goodIn_r _ [20, 21, 22, 33, 34, 35, 36, 37, 38, 39, 40, 41] (by decide +kernel) (by decide +kernel)
set_option maxRecDepth 20000 in
theorem gX7_copy_X7_found : GoodIn wsX7_copy (wsV RX7 78 RX7 yX7_found wsX7_found) := goodIn_app (goodIn_of _ (by decide +kernel)) ggX7_copy_X7_found
set_option maxRecDepth 20000 in
theorem ggX7_copy_X5_holds : GoodIn wsX7_copy wsX5_holds := goodIn_r _ [27, 28, 42, 43, 44, 45] (by decide +kernel) (by decide +kernel)
set_option maxRecDepth 20000 in
theorem gX7_copy_X5_holds : GoodIn wsX7_copy (wsV RX7 93 RX5 yX5_holds wsX5_holds) := goodIn_app (goodIn_of _ (by decide +kernel)) ggX7_copy_X5_holds
set_option maxRecDepth 20000 in
theorem ggX7_copy_X7_fine : GoodIn wsX7_copy wsX7_fine := goodIn_r _ [32, 21, 33, 34, 35, 36, 37, 38, 39, 40, 41] (by decide +kernel) (by decide +kernel)
set_option maxRecDepth 20000 in
theorem gX7_copy_X7_fine : GoodIn wsX7_copy (wsV RX7 86 RX7 yX7_fine wsX7_fine) := goodIn_app (goodIn_of _ (by decide +kernel)) ggX7_copy_X7_fine
theorem dX7_copy_0 : decode cX7_copy 0 = .ok (.iload_n 1, 1) := by decide +kernel
theorem dX7_copy_1 : decode cX7_copy 1 = .ok (.invokestatic 69, 3) := by decide +kernel
theorem dX7_copy_4 : decode cX7_copy 4 = .ok (.ifCond .eq 10, 3) := by decide +kernel
theorem dX7_copy_7 : decode cX7_copy 7 = .ok (.iload_n 3, 1) := by decide +kernel
theorem dX7_copy_8 : decode cX7_copy 8 = .ok (.invokestatic 69, 3) := by decide +kernel
theorem dX7_copy_11 : decode cX7_copy 11 = .ok (.ifCond .ne 6, 3) := by decide +kernel
theorem dX7_copy_14 : decode cX7_copy 14 = .ok (.ldc 77, 2) := by decide +kernel
theorem dX7_copy_16 : decode cX7_copy 16 = .ok (.ireturn, 1) := by decide +kernel
theorem dX7_copy_17 : decode cX7_copy 17 = .ok (.aload_n 0, 1) := by decide +kernel
theorem dX7_copy_18 : decode cX7_copy 18 = .ok (.getfield 11, 3) := by decide +kernel
theorem dX7_copy_21 : decode cX7_copy 21 = .ok (.iload_n 1, 1) := by decide +kernel
theorem dX7_copy_22 : decode cX7_copy 22 = .ok (.aaload, 1) := by decide +kernel
theorem dX7_copy_23 : decode cX7_copy 23 = .ok (.astore 6, 2) := by decide +kernel
theorem dX7_copy_25 : decode cX7_copy 25 = .ok (.aload_n 0, 1) := by decide +kernel
theorem dX7_copy_26 : decode cX7_copy 26 = .ok (.getfield 11, 3) := by decide +kernel
theorem dX7_copy_29 : decode cX7_copy 29 = .ok (.iload_n 3, 1) := by decide +kernel
theorem dX7_copy_30 : decode cX7_copy 30 = .ok (.aaload, 1) := by decide +kernel
theorem dX7_copy_31 : decode cX7_copy 31 = .ok (.astore 7, 2) := by decide +kernel
theorem dX7_copy_33 : decode cX7_copy 33 = .ok (.aload 6, 2) := by decide +kernel
theorem dX7_copy_35 : decode cX7_copy 35 = .ok (.getfield 89, 3) := by decide +kernel
theorem dX7_copy_38 : decode cX7_copy 38 = .ok (.ifCond .ne 11, 3) := by decide +kernel
theorem dX7_copy_41 : decode cX7_copy 41 = .ok (.aload 7, 2) := by decide +kernel
theorem dX7_copy_43 : decode cX7_copy 43 = .ok (.getfield 89, 3) := by decide +kernel
theorem dX7_copy_46 : decode cX7_copy 46 = .ok (.ifCond .eq 9, 3) := by decide +kernel
theorem dX7_copy_49 : decode cX7_copy 49 = .ok (.aload_n 0, 1) := by decide +kernel
theorem dX7_copy_50 : decode cX7_copy 50 = .ok (.iconst 1, 1) := by decide +kernel
theorem dX7_copy_51 : decode cX7_copy 51 = .ok (.invokevirtual 78, 3) := by decide +kernel
theorem dX7_copy_54 : decode cX7_copy 54 = .ok (.ireturn, 1) := by decide +kernel
theorem dX7_copy_55 : decode cX7_copy 55 = .ok (.aload 6, 2) := by decide +kernel
theorem dX7_copy_57 : decode cX7_copy 57 = .ok (.getfield 104, 3) := by decide +kernel
theorem dX7_copy_60 : decode cX7_copy 60 = .ok (.aload 7, 2) := by decide +kernel
theorem dX7_copy_62 : decode cX7_copy 62 = .ok (.getfield 104, 3) := by decide +kernel
theorem dX7_copy_65 : decode cX7_copy 65 = .ok (.if_icmp .eq 9, 3) := by decide +kernel
theorem dX7_copy_68 : decode cX7_copy 68 = .ok (.aload_n 0, 1) := by decide +kernel
theorem dX7_copy_69 : decode cX7_copy 69 = .ok (.iconst 5, 1) := by decide +kernel
theorem dX7_copy_70 : decode cX7_copy 70 = .ok (.invokevirtual 78, 3) := by decide +kernel
theorem dX7_copy_73 : decode cX7_copy 73 = .ok (.ireturn, 1) := by decide +kernel
theorem dX7_copy_74 : decode cX7_copy 74 = .ok (.aload 6, 2) := by decide +kernel
theorem dX7_copy_76 : decode cX7_copy 76 = .ok (.iload_n 2, 1) := by decide +kernel
theorem dX7_copy_77 : decode cX7_copy 77 = .ok (.iload 5, 2) := by decide +kernel
theorem dX7_copy_79 : decode cX7_copy 79 = .ok (.invokevirtual 93, 3) := by decide +kernel
theorem dX7_copy_82 : decode cX7_copy 82 = .ok (.ifCond .eq 15, 3) := by decide +kernel
theorem dX7_copy_85 : decode cX7_copy 85 = .ok (.aload 7, 2) := by decide +kernel
theorem dX7_copy_87 : decode cX7_copy 87 = .ok (.iload 4, 2) := by decide +kernel
theorem dX7_copy_89 : decode cX7_copy 89 = .ok (.iload 5, 2) := by decide +kernel
theorem dX7_copy_91 : decode cX7_copy 91 = .ok (.invokevirtual 93, 3) := by decide +kernel
theorem dX7_copy_94 : decode cX7_copy 94 = .ok (.ifCond .ne 9, 3) := by decide +kernel
theorem dX7_copy_97 : decode cX7_copy 97 = .ok (.aload_n 0, 1) := by decide +kernel
theorem dX7_copy_98 : decode cX7_copy 98 = .ok (.iconst 2, 1) := by decide +kernel
theorem dX7_copy_99 : decode cX7_copy 99 = .ok (.invokevirtual 78, 3) := by decide +kernel
theorem dX7_copy_102 : decode cX7_copy 102 = .ok (.ireturn, 1) := by decide +kernel
theorem dX7_copy_103 : decode cX7_copy 103 = .ok (.aload 6, 2) := by decide +kernel
theorem dX7_copy_105 : decode cX7_copy 105 = .ok (.getfield 97, 3) := by decide +kernel
theorem dX7_copy_108 : decode cX7_copy 108 = .ok (.iload_n 2, 1) := by decide +kernel
theorem dX7_copy_109 : decode cX7_copy 109 = .ok (.aload 7, 2) := by decide +kernel
theorem dX7_copy_111 : decode cX7_copy 111 = .ok (.getfield 97, 3) := by decide +kernel
theorem dX7_copy_114 : decode cX7_copy 114 = .ok (.iload 4, 2) := by decide +kernel
theorem dX7_copy_116 : decode cX7_copy 116 = .ok (.iload 5, 2) := by decide +kernel
theorem dX7_copy_118 : decode cX7_copy 118 = .ok (.invokestatic 107, 3) := by decide +kernel
theorem dX7_copy_121 : decode cX7_copy 121 = .ok (.aload_n 0, 1) := by decide +kernel
theorem dX7_copy_122 : decode cX7_copy 122 = .ok (.iload 5, 2) := by decide +kernel
theorem dX7_copy_124 : decode cX7_copy 124 = .ok (.invokevirtual 86, 3) := by decide +kernel
theorem dX7_copy_127 : decode cX7_copy 127 = .ok (.ireturn, 1) := by decide +kernel
set_option maxRecDepth 20000 in
theorem ggX7_drop_X7_isSheet : GoodIn wsX7_drop wsX7_isSheet := goodIn_r _ [8, 9, 10, 7, 11] (by decide +kernel) (by decide +kernel)
set_option maxRecDepth 20000 in
theorem gX7_drop_X7_isSheet : GoodIn wsX7_drop (va_wsS RX7 69 yX7_isSheet wsX7_isSheet) := goodIn_app (goodIn_of _ (by decide +kernel)) ggX7_drop_X7_isSheet
set_option maxRecDepth 20000 in
theorem ggX7_drop_X7_found : GoodIn wsX7_drop wsX7_found := goodIn_r _ [15, 16, 17, 22, 23, 24, 25, 26, 27, 28, 29, 30] (by decide +kernel) (by decide +kernel)
set_option maxRecDepth 20000 in
theorem gX7_drop_X7_found : GoodIn wsX7_drop (wsV RX7 78 RX7 yX7_found wsX7_found) := goodIn_app (goodIn_of _ (by decide +kernel)) ggX7_drop_X7_found
set_option maxRecDepth 20000 in
theorem ggX7_drop_X7_fine : GoodIn wsX7_drop wsX7_fine := goodIn_r _ [21, 16, 22, 23, 24, 25, 26, 27, 28, 29, 30] (by decide +kernel) (by decide +kernel)
set_option maxRecDepth 20000 in
theorem gX7_drop_X7_fine : GoodIn wsX7_drop (wsV RX7 86 RX7 yX7_fine wsX7_fine) := goodIn_app (goodIn_of _ (by decide +kernel)) ggX7_drop_X7_fine
theorem dX7_drop_0 : decode cX7_drop 0 = .ok (.iload_n 1, 1) := by decide +kernel
theorem dX7_drop_1 : decode cX7_drop 1 = .ok (.invokestatic 69, 3) := by decide +kernel
theorem dX7_drop_4 : decode cX7_drop 4 = .ok (.ifCond .ne 6, 3) := by decide +kernel
theorem dX7_drop_7 : decode cX7_drop 7 = .ok (.ldc 77, 2) := by decide +kernel
theorem dX7_drop_9 : decode cX7_drop 9 = .ok (.ireturn, 1) := by decide +kernel
theorem dX7_drop_10 : decode cX7_drop 10 = .ok (.aload_n 0, 1) := by decide +kernel
theorem dX7_drop_11 : decode cX7_drop 11 = .ok (.getfield 11, 3) := by decide +kernel
theorem dX7_drop_14 : decode cX7_drop 14 = .ok (.iload_n 1, 1) := by decide +kernel
theorem dX7_drop_15 : decode cX7_drop 15 = .ok (.aaload, 1) := by decide +kernel
theorem dX7_drop_16 : decode cX7_drop 16 = .ok (.astore_n 2, 1) := by decide +kernel
theorem dX7_drop_17 : decode cX7_drop 17 = .ok (.aload_n 2, 1) := by decide +kernel
theorem dX7_drop_18 : decode cX7_drop 18 = .ok (.getfield 89, 3) := by decide +kernel
theorem dX7_drop_21 : decode cX7_drop 21 = .ok (.ifCond .eq 9, 3) := by decide +kernel
theorem dX7_drop_24 : decode cX7_drop 24 = .ok (.aload_n 0, 1) := by decide +kernel
theorem dX7_drop_25 : decode cX7_drop 25 = .ok (.iconst 1, 1) := by decide +kernel
theorem dX7_drop_26 : decode cX7_drop 26 = .ok (.invokevirtual 78, 3) := by decide +kernel
theorem dX7_drop_29 : decode cX7_drop 29 = .ok (.ireturn, 1) := by decide +kernel
theorem dX7_drop_30 : decode cX7_drop 30 = .ok (.aload_n 2, 1) := by decide +kernel
theorem dX7_drop_31 : decode cX7_drop 31 = .ok (.iconst 1, 1) := by decide +kernel
theorem dX7_drop_32 : decode cX7_drop 32 = .ok (.putfield 89, 3) := by decide +kernel
theorem dX7_drop_35 : decode cX7_drop 35 = .ok (.aload_n 0, 1) := by decide +kernel
theorem dX7_drop_36 : decode cX7_drop 36 = .ok (.aload_n 2, 1) := by decide +kernel
theorem dX7_drop_37 : decode cX7_drop 37 = .ok (.getfield 113, 3) := by decide +kernel
theorem dX7_drop_40 : decode cX7_drop 40 = .ok (.invokevirtual 86, 3) := by decide +kernel
theorem dX7_drop_43 : decode cX7_drop 43 = .ok (.ireturn, 1) := by decide +kernel
set_option maxRecDepth 20000 in
theorem ggX7_behind_X7_within : GoodIn wsX7_behind wsX7_within := goodIn_r _ [6] (by decide +kernel) (by decide +kernel)
set_option maxRecDepth 20000 in
theorem gX7_behind_X7_within : GoodIn wsX7_behind (va_wsS RX7 73 yX7_within wsX7_within) := goodIn_app (goodIn_of _ (by decide +kernel)) ggX7_behind_X7_within
set_option maxRecDepth 20000 in
theorem ggX7_behind_X1_standingAfter : GoodIn wsX7_behind wsX1_standingAfter := goodIn_r _ [11, 12, 27, 28] (by decide +kernel) (by decide +kernel)
set_option maxRecDepth 20000 in
theorem gX7_behind_X1_standingAfter : GoodIn wsX7_behind (wsV RX7 116 RX1 yX1_standingAfter wsX1_standingAfter) := goodIn_app (goodIn_of _ (by decide +kernel)) ggX7_behind_X1_standingAfter
set_option maxRecDepth 20000 in
theorem ggX7_behind_X1_runsOf : GoodIn wsX7_behind wsX1_runsOf := goodIn_r _ [16, 17, 27, 28] (by decide +kernel) (by decide +kernel)
set_option maxRecDepth 20000 in
theorem gX7_behind_X1_runsOf : GoodIn wsX7_behind (wsV RX7 120 RX1 yX1_runsOf wsX1_runsOf) := goodIn_app (goodIn_of _ (by decide +kernel)) ggX7_behind_X1_runsOf
theorem dX7_behind_0 : decode cX7_behind 0 = .ok (.iload_n 1, 1) := by decide +kernel
theorem dX7_behind_1 : decode cX7_behind 1 = .ok (.iconst 0, 1) := by decide +kernel
theorem dX7_behind_2 : decode cX7_behind 2 = .ok (.bipush 23, 2) := by decide +kernel
theorem dX7_behind_4 : decode cX7_behind 4 = .ok (.invokestatic 73, 3) := by decide +kernel
theorem dX7_behind_7 : decode cX7_behind 7 = .ok (.ifCond .eq 22, 3) := by decide +kernel
theorem dX7_behind_10 : decode cX7_behind 10 = .ok (.iload_n 2, 1) := by decide +kernel
theorem dX7_behind_11 : decode cX7_behind 11 = .ok (.iconst 0, 1) := by decide +kernel
theorem dX7_behind_12 : decode cX7_behind 12 = .ok (.bipush 8, 2) := by decide +kernel
theorem dX7_behind_14 : decode cX7_behind 14 = .ok (.invokestatic 73, 3) := by decide +kernel
theorem dX7_behind_17 : decode cX7_behind 17 = .ok (.ifCond .eq 12, 3) := by decide +kernel
theorem dX7_behind_20 : decode cX7_behind 20 = .ok (.iload_n 3, 1) := by decide +kernel
theorem dX7_behind_21 : decode cX7_behind 21 = .ok (.iconst 0, 1) := by decide +kernel
theorem dX7_behind_22 : decode cX7_behind 22 = .ok (.iconst 1, 1) := by decide +kernel
theorem dX7_behind_23 : decode cX7_behind 23 = .ok (.invokestatic 73, 3) := by decide +kernel
theorem dX7_behind_26 : decode cX7_behind 26 = .ok (.ifCond .ne 6, 3) := by decide +kernel
theorem dX7_behind_29 : decode cX7_behind 29 = .ok (.ldc 77, 2) := by decide +kernel
theorem dX7_behind_31 : decode cX7_behind 31 = .ok (.ireturn, 1) := by decide +kernel
theorem dX7_behind_32 : decode cX7_behind 32 = .ok (.iload_n 3, 1) := by decide +kernel
theorem dX7_behind_33 : decode cX7_behind 33 = .ok (.ifCond .ne 15, 3) := by decide +kernel
theorem dX7_behind_36 : decode cX7_behind 36 = .ok (.aload_n 0, 1) := by decide +kernel
theorem dX7_behind_37 : decode cX7_behind 37 = .ok (.getfield 30, 3) := by decide +kernel
theorem dX7_behind_40 : decode cX7_behind 40 = .ok (.iload_n 1, 1) := by decide +kernel
theorem dX7_behind_41 : decode cX7_behind 41 = .ok (.iload_n 2, 1) := by decide +kernel
theorem dX7_behind_42 : decode cX7_behind 42 = .ok (.invokevirtual 116, 3) := by decide +kernel
theorem dX7_behind_45 : decode cX7_behind 45 = .ok (.goto 12, 3) := by decide +kernel
theorem dX7_behind_48 : decode cX7_behind 48 = .ok (.aload_n 0, 1) := by decide +kernel
theorem dX7_behind_49 : decode cX7_behind 49 = .ok (.getfield 30, 3) := by decide +kernel
theorem dX7_behind_52 : decode cX7_behind 52 = .ok (.iload_n 1, 1) := by decide +kernel
theorem dX7_behind_53 : decode cX7_behind 53 = .ok (.iload_n 2, 1) := by decide +kernel
theorem dX7_behind_54 : decode cX7_behind 54 = .ok (.invokevirtual 120, 3) := by decide +kernel
theorem dX7_behind_57 : decode cX7_behind 57 = .ok (.ireturn, 1) := by decide +kernel
set_option maxRecDepth 20000 in
theorem ggX7_striker_X7_isChance : GoodIn wsX7_striker wsX7_isChance := goodIn_r _ [10, 11, 12, 9, 13] (by decide +kernel) (by decide +kernel)
set_option maxRecDepth 20000 in
theorem gX7_striker_X7_isChance : GoodIn wsX7_striker (va_wsS RX7 123 yX7_isChance wsX7_isChance) := goodIn_app (goodIn_of _ (by decide +kernel)) ggX7_striker_X7_isChance
set_option maxRecDepth 20000 in
theorem ggX7_striker_X6_giveTheRestToOut : GoodIn wsX7_striker wsX6_giveTheRestToOut := goodIn_r _ [18, 19, 33, 34] (by decide +kernel) (by decide +kernel)
set_option maxRecDepth 20000 in
theorem gX7_striker_X6_giveTheRestToOut : GoodIn wsX7_striker (wsV RX7 130 RX6 yX6_giveTheRestToOut wsX6_giveTheRestToOut) := goodIn_app (goodIn_of _ (by decide +kernel)) ggX7_striker_X6_giveTheRestToOut
set_option maxRecDepth 20000 in
theorem ggX7_striker_X7_admitted : GoodIn wsX7_striker wsX7_admitted := goodIn_r _ [23, 2, 24, 25, 26, 27, 28, 29, 30, 31, 32] (by decide +kernel) (by decide +kernel)
set_option maxRecDepth 20000 in
theorem gX7_striker_X7_admitted : GoodIn wsX7_striker (wsV RX7 136 RX7 yX7_admitted wsX7_admitted) := goodIn_app (goodIn_of _ (by decide +kernel)) ggX7_striker_X7_admitted
theorem dX7_striker_0 : decode cX7_striker 0 = .ok (.iload_n 1, 1) := by decide +kernel
theorem dX7_striker_1 : decode cX7_striker 1 = .ok (.invokestatic 123, 3) := by decide +kernel
theorem dX7_striker_4 : decode cX7_striker 4 = .ok (.ifCond .eq 41, 3) := by decide +kernel
theorem dX7_striker_7 : decode cX7_striker 7 = .ok (.iload_n 2, 1) := by decide +kernel
theorem dX7_striker_8 : decode cX7_striker 8 = .ok (.invokestatic 123, 3) := by decide +kernel
theorem dX7_striker_11 : decode cX7_striker 11 = .ok (.ifCond .eq 34, 3) := by decide +kernel
theorem dX7_striker_14 : decode cX7_striker 14 = .ok (.iload_n 3, 1) := by decide +kernel
theorem dX7_striker_15 : decode cX7_striker 15 = .ok (.invokestatic 123, 3) := by decide +kernel
theorem dX7_striker_18 : decode cX7_striker 18 = .ok (.ifCond .eq 27, 3) := by decide +kernel
theorem dX7_striker_21 : decode cX7_striker 21 = .ok (.iload 4, 2) := by decide +kernel
theorem dX7_striker_23 : decode cX7_striker 23 = .ok (.invokestatic 123, 3) := by decide +kernel
theorem dX7_striker_26 : decode cX7_striker 26 = .ok (.ifCond .eq 19, 3) := by decide +kernel
theorem dX7_striker_29 : decode cX7_striker 29 = .ok (.iload 5, 2) := by decide +kernel
theorem dX7_striker_31 : decode cX7_striker 31 = .ok (.invokestatic 123, 3) := by decide +kernel
theorem dX7_striker_34 : decode cX7_striker 34 = .ok (.ifCond .eq 11, 3) := by decide +kernel
theorem dX7_striker_37 : decode cX7_striker 37 = .ok (.iload 6, 2) := by decide +kernel
theorem dX7_striker_39 : decode cX7_striker 39 = .ok (.invokestatic 123, 3) := by decide +kernel
theorem dX7_striker_42 : decode cX7_striker 42 = .ok (.ifCond .ne 6, 3) := by decide +kernel
theorem dX7_striker_45 : decode cX7_striker 45 = .ok (.ldc 77, 2) := by decide +kernel
theorem dX7_striker_47 : decode cX7_striker 47 = .ok (.ireturn, 1) := by decide +kernel
theorem dX7_striker_48 : decode cX7_striker 48 = .ok (.iload_n 1, 1) := by decide +kernel
theorem dX7_striker_49 : decode cX7_striker 49 = .ok (.iload_n 2, 1) := by decide +kernel
theorem dX7_striker_50 : decode cX7_striker 50 = .ok (.iadd, 1) := by decide +kernel
theorem dX7_striker_51 : decode cX7_striker 51 = .ok (.iload_n 3, 1) := by decide +kernel
theorem dX7_striker_52 : decode cX7_striker 52 = .ok (.iadd, 1) := by decide +kernel
theorem dX7_striker_53 : decode cX7_striker 53 = .ok (.iload 4, 2) := by decide +kernel
theorem dX7_striker_55 : decode cX7_striker 55 = .ok (.iadd, 1) := by decide +kernel
theorem dX7_striker_56 : decode cX7_striker 56 = .ok (.iload 5, 2) := by decide +kernel
theorem dX7_striker_58 : decode cX7_striker 58 = .ok (.iadd, 1) := by decide +kernel
theorem dX7_striker_59 : decode cX7_striker 59 = .ok (.sipush 1000, 3) := by decide +kernel
theorem dX7_striker_62 : decode cX7_striker 62 = .ok (.if_icmp .le 6, 3) := by decide +kernel
theorem dX7_striker_65 : decode cX7_striker 65 = .ok (.ldc 77, 2) := by decide +kernel
theorem dX7_striker_67 : decode cX7_striker 67 = .ok (.ireturn, 1) := by decide +kernel
theorem dX7_striker_68 : decode cX7_striker 68 = .ok (.aload_n 0, 1) := by decide +kernel
theorem dX7_striker_69 : decode cX7_striker 69 = .ok (.getfield 23, 3) := by decide +kernel
theorem dX7_striker_72 : decode cX7_striker 72 = .ok (.bipush 12, 2) := by decide +kernel
theorem dX7_striker_74 : decode cX7_striker 74 = .ok (.if_icmp .lt 6, 3) := by decide +kernel
theorem dX7_striker_77 : decode cX7_striker 77 = .ok (.ldc 126, 2) := by decide +kernel
theorem dX7_striker_79 : decode cX7_striker 79 = .ok (.ireturn, 1) := by decide +kernel
theorem dX7_striker_80 : decode cX7_striker 80 = .ok (.aload_n 0, 1) := by decide +kernel
theorem dX7_striker_81 : decode cX7_striker 81 = .ok (.getfield 18, 3) := by decide +kernel
theorem dX7_striker_84 : decode cX7_striker 84 = .ok (.aload_n 0, 1) := by decide +kernel
theorem dX7_striker_85 : decode cX7_striker 85 = .ok (.getfield 23, 3) := by decide +kernel
theorem dX7_striker_88 : decode cX7_striker 88 = .ok (.aaload, 1) := by decide +kernel
theorem dX7_striker_89 : decode cX7_striker 89 = .ok (.astore 7, 2) := by decide +kernel
theorem dX7_striker_91 : decode cX7_striker 91 = .ok (.aload 7, 2) := by decide +kernel
theorem dX7_striker_93 : decode cX7_striker 93 = .ok (.getfield 127, 3) := by decide +kernel
theorem dX7_striker_96 : decode cX7_striker 96 = .ok (.iconst 1, 1) := by decide +kernel
theorem dX7_striker_97 : decode cX7_striker 97 = .ok (.iload_n 1, 1) := by decide +kernel
theorem dX7_striker_98 : decode cX7_striker 98 = .ok (.iastore, 1) := by decide +kernel
theorem dX7_striker_99 : decode cX7_striker 99 = .ok (.aload 7, 2) := by decide +kernel
theorem dX7_striker_101 : decode cX7_striker 101 = .ok (.getfield 127, 3) := by decide +kernel
theorem dX7_striker_104 : decode cX7_striker 104 = .ok (.iconst 2, 1) := by decide +kernel
theorem dX7_striker_105 : decode cX7_striker 105 = .ok (.iload_n 2, 1) := by decide +kernel
theorem dX7_striker_106 : decode cX7_striker 106 = .ok (.iastore, 1) := by decide +kernel
theorem dX7_striker_107 : decode cX7_striker 107 = .ok (.aload 7, 2) := by decide +kernel
theorem dX7_striker_109 : decode cX7_striker 109 = .ok (.getfield 127, 3) := by decide +kernel
theorem dX7_striker_112 : decode cX7_striker 112 = .ok (.iconst 3, 1) := by decide +kernel
theorem dX7_striker_113 : decode cX7_striker 113 = .ok (.iload_n 3, 1) := by decide +kernel
theorem dX7_striker_114 : decode cX7_striker 114 = .ok (.iastore, 1) := by decide +kernel
theorem dX7_striker_115 : decode cX7_striker 115 = .ok (.aload 7, 2) := by decide +kernel
theorem dX7_striker_117 : decode cX7_striker 117 = .ok (.getfield 127, 3) := by decide +kernel
theorem dX7_striker_120 : decode cX7_striker 120 = .ok (.iconst 4, 1) := by decide +kernel
theorem dX7_striker_121 : decode cX7_striker 121 = .ok (.iload 4, 2) := by decide +kernel
theorem dX7_striker_123 : decode cX7_striker 123 = .ok (.iastore, 1) := by decide +kernel
theorem dX7_striker_124 : decode cX7_striker 124 = .ok (.aload 7, 2) := by decide +kernel
theorem dX7_striker_126 : decode cX7_striker 126 = .ok (.getfield 127, 3) := by decide +kernel
theorem dX7_striker_129 : decode cX7_striker 129 = .ok (.iconst 5, 1) := by decide +kernel
theorem dX7_striker_130 : decode cX7_striker 130 = .ok (.iload 5, 2) := by decide +kernel
theorem dX7_striker_132 : decode cX7_striker 132 = .ok (.iastore, 1) := by decide +kernel
theorem dX7_striker_133 : decode cX7_striker 133 = .ok (.aload 7, 2) := by decide +kernel
theorem dX7_striker_135 : decode cX7_striker 135 = .ok (.invokevirtual 130, 3) := by decide +kernel
theorem dX7_striker_138 : decode cX7_striker 138 = .ok (.aload 7, 2) := by decide +kernel
theorem dX7_striker_140 : decode cX7_striker 140 = .ok (.iload 6, 2) := by decide +kernel
theorem dX7_striker_142 : decode cX7_striker 142 = .ok (.putfield 133, 3) := by decide +kernel
theorem dX7_striker_145 : decode cX7_striker 145 = .ok (.aload_n 0, 1) := by decide +kernel
theorem dX7_striker_146 : decode cX7_striker 146 = .ok (.invokevirtual 136, 3) := by decide +kernel
theorem dX7_striker_149 : decode cX7_striker 149 = .ok (.ireturn, 1) := by decide +kernel
set_option maxRecDepth 20000 in
theorem ggX7_train_X7_isStriker : GoodIn wsX7_train wsX7_isStriker := goodIn_r _ [11, 12, 13, 14, 10, 15, 36, 37, 38, 39, 40, 41, 42, 43, 44] (by decide +kernel) (by decide +kernel)
set_option maxRecDepth 20000 in
theorem gX7_train_X7_isStriker : GoodIn wsX7_train (wsV RX7 140 RX7 yX7_isStriker wsX7_isStriker) := goodIn_app (goodIn_of _ (by decide +kernel)) ggX7_train_X7_isStriker
set_option maxRecDepth 20000 in
theorem ggX7_train_X7_within : GoodIn wsX7_train wsX7_within := goodIn_r _ [15] (by decide +kernel) (by decide +kernel)
set_option maxRecDepth 20000 in
theorem gX7_train_X7_within : GoodIn wsX7_train (va_wsS RX7 73 yX7_within wsX7_within) := goodIn_app (goodIn_of _ (by decide +kernel)) ggX7_train_X7_within
set_option maxRecDepth 20000 in
theorem ggX7_train_X7_isChance : GoodIn wsX7_train wsX7_isChance := goodIn_r _ [18, 13, 14, 10, 15] (by decide +kernel) (by decide +kernel)
set_option maxRecDepth 20000 in
theorem gX7_train_X7_isChance : GoodIn wsX7_train (va_wsS RX7 123 yX7_isChance wsX7_isChance) := goodIn_app (goodIn_of _ (by decide +kernel)) ggX7_train_X7_isChance
set_option maxRecDepth 20000 in
theorem ggX7_train_X6_chanceOrSteals : GoodIn wsX7_train wsX6_chanceOrSteals := goodIn_r _ [23, 24, 25, 45, 46] (by decide +kernel) (by decide +kernel)
set_option maxRecDepth 20000 in
theorem gX7_train_X6_chanceOrSteals : GoodIn wsX7_train (wsV RX7 143 RX6 yX6_chanceOrSteals wsX6_chanceOrSteals) := goodIn_app (goodIn_of _ (by decide +kernel)) ggX7_train_X6_chanceOrSteals
set_option maxRecDepth 20000 in
theorem ggX7_train_X6_giveTheRestToOut : GoodIn wsX7_train wsX6_giveTheRestToOut := goodIn_r _ [29, 25, 45, 46] (by decide +kernel) (by decide +kernel)
set_option maxRecDepth 20000 in
theorem gX7_train_X6_giveTheRestToOut : GoodIn wsX7_train (wsV RX7 130 RX6 yX6_giveTheRestToOut wsX6_giveTheRestToOut) := goodIn_app (goodIn_of _ (by decide +kernel)) ggX7_train_X6_giveTheRestToOut
set_option maxRecDepth 20000 in
theorem ggX7_train_X4_forget : GoodIn wsX7_train wsX4_forget := goodIn_r _ [34, 35, 47, 48, 49, 50, 51, 52, 53, 54] (by decide +kernel) (by decide +kernel)
set_option maxRecDepth 20000 in
theorem gX7_train_X4_forget : GoodIn wsX7_train (wsV RX7 147 RX4 yX4_forget wsX4_forget) := goodIn_app (goodIn_of _ (by decide +kernel)) ggX7_train_X4_forget
theorem dX7_train_0 : decode cX7_train 0 = .ok (.aload_n 0, 1) := by decide +kernel
theorem dX7_train_1 : decode cX7_train 1 = .ok (.iload_n 1, 1) := by decide +kernel
theorem dX7_train_2 : decode cX7_train 2 = .ok (.invokevirtual 140, 3) := by decide +kernel
theorem dX7_train_5 : decode cX7_train 5 = .ok (.ifCond .eq 20, 3) := by decide +kernel
theorem dX7_train_8 : decode cX7_train 8 = .ok (.iload_n 2, 1) := by decide +kernel
theorem dX7_train_9 : decode cX7_train 9 = .ok (.iconst 1, 1) := by decide +kernel
theorem dX7_train_10 : decode cX7_train 10 = .ok (.bipush 6, 2) := by decide +kernel
theorem dX7_train_12 : decode cX7_train 12 = .ok (.invokestatic 73, 3) := by decide +kernel
theorem dX7_train_15 : decode cX7_train 15 = .ok (.ifCond .eq 10, 3) := by decide +kernel
theorem dX7_train_18 : decode cX7_train 18 = .ok (.iload_n 3, 1) := by decide +kernel
theorem dX7_train_19 : decode cX7_train 19 = .ok (.invokestatic 123, 3) := by decide +kernel
theorem dX7_train_22 : decode cX7_train 22 = .ok (.ifCond .ne 6, 3) := by decide +kernel
theorem dX7_train_25 : decode cX7_train 25 = .ok (.ldc 77, 2) := by decide +kernel
theorem dX7_train_27 : decode cX7_train 27 = .ok (.ireturn, 1) := by decide +kernel
theorem dX7_train_28 : decode cX7_train 28 = .ok (.aload_n 0, 1) := by decide +kernel
theorem dX7_train_29 : decode cX7_train 29 = .ok (.getfield 18, 3) := by decide +kernel
theorem dX7_train_32 : decode cX7_train 32 = .ok (.iload_n 1, 1) := by decide +kernel
theorem dX7_train_33 : decode cX7_train 33 = .ok (.aaload, 1) := by decide +kernel
theorem dX7_train_34 : decode cX7_train 34 = .ok (.astore 4, 2) := by decide +kernel
theorem dX7_train_36 : decode cX7_train 36 = .ok (.aload 4, 2) := by decide +kernel
theorem dX7_train_38 : decode cX7_train 38 = .ok (.iload_n 2, 1) := by decide +kernel
theorem dX7_train_39 : decode cX7_train 39 = .ok (.invokevirtual 143, 3) := by decide +kernel
theorem dX7_train_42 : decode cX7_train 42 = .ok (.istore 5, 2) := by decide +kernel
theorem dX7_train_44 : decode cX7_train 44 = .ok (.iload_n 2, 1) := by decide +kernel
theorem dX7_train_45 : decode cX7_train 45 = .ok (.bipush 6, 2) := by decide +kernel
theorem dX7_train_47 : decode cX7_train 47 = .ok (.if_icmp .ne 12, 3) := by decide +kernel
theorem dX7_train_50 : decode cX7_train 50 = .ok (.aload 4, 2) := by decide +kernel
theorem dX7_train_52 : decode cX7_train 52 = .ok (.iload_n 3, 1) := by decide +kernel
theorem dX7_train_53 : decode cX7_train 53 = .ok (.putfield 133, 3) := by decide +kernel
theorem dX7_train_56 : decode cX7_train 56 = .ok (.goto 33, 3) := by decide +kernel
theorem dX7_train_59 : decode cX7_train 59 = .ok (.iload_n 3, 1) := by decide +kernel
theorem dX7_train_60 : decode cX7_train 60 = .ok (.iload 5, 2) := by decide +kernel
theorem dX7_train_62 : decode cX7_train 62 = .ok (.isub, 1) := by decide +kernel
theorem dX7_train_63 : decode cX7_train 63 = .ok (.aload 4, 2) := by decide +kernel
theorem dX7_train_65 : decode cX7_train 65 = .ok (.getfield 127, 3) := by decide +kernel
theorem dX7_train_68 : decode cX7_train 68 = .ok (.iconst 0, 1) := by decide +kernel
theorem dX7_train_69 : decode cX7_train 69 = .ok (.iaload, 1) := by decide +kernel
theorem dX7_train_70 : decode cX7_train 70 = .ok (.if_icmp .le 6, 3) := by decide +kernel
theorem dX7_train_73 : decode cX7_train 73 = .ok (.ldc 146, 2) := by decide +kernel
theorem dX7_train_75 : decode cX7_train 75 = .ok (.ireturn, 1) := by decide +kernel
theorem dX7_train_76 : decode cX7_train 76 = .ok (.aload 4, 2) := by decide +kernel
theorem dX7_train_78 : decode cX7_train 78 = .ok (.getfield 127, 3) := by decide +kernel
theorem dX7_train_81 : decode cX7_train 81 = .ok (.iload_n 2, 1) := by decide +kernel
theorem dX7_train_82 : decode cX7_train 82 = .ok (.iload_n 3, 1) := by decide +kernel
theorem dX7_train_83 : decode cX7_train 83 = .ok (.iastore, 1) := by decide +kernel
theorem dX7_train_84 : decode cX7_train 84 = .ok (.aload 4, 2) := by decide +kernel
theorem dX7_train_86 : decode cX7_train 86 = .ok (.invokevirtual 130, 3) := by decide +kernel
theorem dX7_train_89 : decode cX7_train 89 = .ok (.aload_n 0, 1) := by decide +kernel
theorem dX7_train_90 : decode cX7_train 90 = .ok (.getfield 46, 3) := by decide +kernel
theorem dX7_train_93 : decode cX7_train 93 = .ok (.invokevirtual 147, 3) := by decide +kernel
theorem dX7_train_96 : decode cX7_train 96 = .ok (.iload 5, 2) := by decide +kernel
theorem dX7_train_98 : decode cX7_train 98 = .ok (.ireturn, 1) := by decide +kernel
set_option maxRecDepth 20000 in
theorem ggX7_chance_X7_isStriker : GoodIn wsX7_chance wsX7_isStriker := goodIn_r _ [7, 8, 9, 10, 6, 11, 19, 20, 21, 22, 23, 24, 25, 26, 27] (by decide +kernel) (by decide +kernel)
set_option maxRecDepth 20000 in
theorem gX7_chance_X7_isStriker : GoodIn wsX7_chance (wsV RX7 140 RX7 yX7_isStriker wsX7_isStriker) := goodIn_app (goodIn_of _ (by decide +kernel)) ggX7_chance_X7_isStriker
set_option maxRecDepth 20000 in
theorem ggX7_chance_X7_within : GoodIn wsX7_chance wsX7_within := goodIn_r _ [11] (by decide +kernel) (by decide +kernel)
set_option maxRecDepth 20000 in
theorem gX7_chance_X7_within : GoodIn wsX7_chance (va_wsS RX7 73 yX7_within wsX7_within) := goodIn_app (goodIn_of _ (by decide +kernel)) ggX7_chance_X7_within
set_option maxRecDepth 20000 in
theorem ggX7_chance_X6_chanceOrSteals : GoodIn wsX7_chance wsX6_chanceOrSteals := goodIn_r _ [16, 17, 18, 28, 29] (by decide +kernel) (by decide +kernel)
set_option maxRecDepth 20000 in
theorem gX7_chance_X6_chanceOrSteals : GoodIn wsX7_chance (wsV RX7 143 RX6 yX6_chanceOrSteals wsX6_chanceOrSteals) := goodIn_app (goodIn_of _ (by decide +kernel)) ggX7_chance_X6_chanceOrSteals
theorem dX7_chance_0 : decode cX7_chance 0 = .ok (.aload_n 0, 1) := by decide +kernel
theorem dX7_chance_1 : decode cX7_chance 1 = .ok (.iload_n 1, 1) := by decide +kernel
theorem dX7_chance_2 : decode cX7_chance 2 = .ok (.invokevirtual 140, 3) := by decide +kernel
theorem dX7_chance_5 : decode cX7_chance 5 = .ok (.ifCond .eq 13, 3) := by decide +kernel
theorem dX7_chance_8 : decode cX7_chance 8 = .ok (.iload_n 2, 1) := by decide +kernel
theorem dX7_chance_9 : decode cX7_chance 9 = .ok (.iconst 0, 1) := by decide +kernel
theorem dX7_chance_10 : decode cX7_chance 10 = .ok (.bipush 6, 2) := by decide +kernel
theorem dX7_chance_12 : decode cX7_chance 12 = .ok (.invokestatic 73, 3) := by decide +kernel
theorem dX7_chance_15 : decode cX7_chance 15 = .ok (.ifCond .ne 6, 3) := by decide +kernel
theorem dX7_chance_18 : decode cX7_chance 18 = .ok (.ldc 77, 2) := by decide +kernel
theorem dX7_chance_20 : decode cX7_chance 20 = .ok (.ireturn, 1) := by decide +kernel
theorem dX7_chance_21 : decode cX7_chance 21 = .ok (.aload_n 0, 1) := by decide +kernel
theorem dX7_chance_22 : decode cX7_chance 22 = .ok (.getfield 18, 3) := by decide +kernel
theorem dX7_chance_25 : decode cX7_chance 25 = .ok (.iload_n 1, 1) := by decide +kernel
theorem dX7_chance_26 : decode cX7_chance 26 = .ok (.aaload, 1) := by decide +kernel
theorem dX7_chance_27 : decode cX7_chance 27 = .ok (.iload_n 2, 1) := by decide +kernel
theorem dX7_chance_28 : decode cX7_chance 28 = .ok (.invokevirtual 143, 3) := by decide +kernel
theorem dX7_chance_31 : decode cX7_chance 31 = .ok (.ireturn, 1) := by decide +kernel
set_option maxRecDepth 20000 in
theorem ggX7_order_X7_isSheet : GoodIn wsX7_order wsX7_isSheet := goodIn_r _ [9, 10, 11, 8, 12] (by decide +kernel) (by decide +kernel)
set_option maxRecDepth 20000 in
theorem gX7_order_X7_isSheet : GoodIn wsX7_order (va_wsS RX7 69 yX7_isSheet wsX7_isSheet) := goodIn_app (goodIn_of _ (by decide +kernel)) ggX7_order_X7_isSheet
set_option maxRecDepth 20000 in
theorem ggX7_order_X7_within : GoodIn wsX7_order wsX7_within := goodIn_r _ [12] (by decide +kernel) (by decide +kernel)
set_option maxRecDepth 20000 in
theorem gX7_order_X7_within : GoodIn wsX7_order (va_wsS RX7 73 yX7_within wsX7_within) := goodIn_app (goodIn_of _ (by decide +kernel)) ggX7_order_X7_within
set_option maxRecDepth 20000 in
theorem ggX7_order_X7_found : GoodIn wsX7_order wsX7_found := goodIn_r _ [16, 17, 18, 45, 46, 47, 48, 49, 50, 51, 52, 53] (by decide +kernel) (by decide +kernel)
set_option maxRecDepth 20000 in
theorem gX7_order_X7_found : GoodIn wsX7_order (wsV RX7 78 RX7 yX7_found wsX7_found) := goodIn_app (goodIn_of _ (by decide +kernel)) ggX7_order_X7_found
set_option maxRecDepth 20000 in
theorem ggX7_order_X5_holds : GoodIn wsX7_order wsX5_holds := goodIn_r _ [23, 24, 54, 55, 56, 57] (by decide +kernel) (by decide +kernel)
set_option maxRecDepth 20000 in
theorem gX7_order_X5_holds : GoodIn wsX7_order (wsV RX7 93 RX5 yX5_holds wsX5_holds) := goodIn_app (goodIn_of _ (by decide +kernel)) ggX7_order_X5_holds
set_option maxRecDepth 20000 in
theorem ggX7_order_X7_isStriker : GoodIn wsX7_order wsX7_isStriker := goodIn_r _ [28, 29, 10, 11, 8, 12, 45, 46, 47, 48, 49, 50, 51, 52, 53] (by decide +kernel) (by decide +kernel)
set_option maxRecDepth 20000 in
theorem gX7_order_X7_isStriker : GoodIn wsX7_order (wsV RX7 140 RX7 yX7_isStriker wsX7_isStriker) := goodIn_app (goodIn_of _ (by decide +kernel)) ggX7_order_X7_isStriker
set_option maxRecDepth 20000 in
theorem ggX7_order_X2_take : GoodIn wsX7_order wsX2_take := goodIn_r _ [34, 35, 36, 37, 38, 39, 40, 58, 59, 60, 61, 62, 63, 64, 65, 66] (by decide +kernel) (by decide +kernel)
set_option maxRecDepth 20000 in
theorem gX7_order_X2_take : GoodIn wsX7_order (wsV RX7 150 RX2 yX2_take wsX2_take) := goodIn_app (goodIn_of _ (by decide +kernel)) ggX7_order_X2_take
set_option maxRecDepth 20000 in
theorem ggX7_order_X7_fine : GoodIn wsX7_order wsX7_fine := goodIn_r _ [44, 17, 45, 46, 47, 48, 49, 50, 51, 52, 53] (by decide +kernel) (by decide +kernel)
set_option maxRecDepth 20000 in
theorem gX7_order_X7_fine : GoodIn wsX7_order (wsV RX7 86 RX7 yX7_fine wsX7_fine) := goodIn_app (goodIn_of _ (by decide +kernel)) ggX7_order_X7_fine
end
section
theorem dX7_order_0 : decode cX7_order 0 = .ok (.iload_n 1, 1) := by decide +kernel
theorem dX7_order_1 : decode cX7_order 1 = .ok (.invokestatic 69, 3) := by decide +kernel
theorem dX7_order_4 : decode cX7_order 4 = .ok (.ifCond .eq 13, 3) := by decide +kernel
theorem dX7_order_7 : decode cX7_order 7 = .ok (.iload_n 3, 1) := by decide +kernel
theorem dX7_order_8 : decode cX7_order 8 = .ok (.iconst 1, 1) := by decide +kernel
theorem dX7_order_9 : decode cX7_order 9 = .ok (.bipush 9, 2) := by decide +kernel
theorem dX7_order_11 : decode cX7_order 11 = .ok (.invokestatic 73, 3) := by decide +kernel
theorem dX7_order_14 : decode cX7_order 14 = .ok (.ifCond .ne 6, 3) := by decide +kernel
theorem dX7_order_17 : decode cX7_order 17 = .ok (.ldc 77, 2) := by decide +kernel
theorem dX7_order_19 : decode cX7_order 19 = .ok (.ireturn, 1) := by decide +kernel
theorem dX7_order_20 : decode cX7_order 20 = .ok (.aload_n 0, 1) := by decide +kernel
theorem dX7_order_21 : decode cX7_order 21 = .ok (.getfield 11, 3) := by decide +kernel
theorem dX7_order_24 : decode cX7_order 24 = .ok (.iload_n 1, 1) := by decide +kernel
theorem dX7_order_25 : decode cX7_order 25 = .ok (.aaload, 1) := by decide +kernel
theorem dX7_order_26 : decode cX7_order 26 = .ok (.astore 4, 2) := by decide +kernel
theorem dX7_order_28 : decode cX7_order 28 = .ok (.aload 4, 2) := by decide +kernel
theorem dX7_order_30 : decode cX7_order 30 = .ok (.getfield 89, 3) := by decide +kernel
theorem dX7_order_33 : decode cX7_order 33 = .ok (.ifCond .eq 9, 3) := by decide +kernel
theorem dX7_order_36 : decode cX7_order 36 = .ok (.aload_n 0, 1) := by decide +kernel
theorem dX7_order_37 : decode cX7_order 37 = .ok (.iconst 1, 1) := by decide +kernel
theorem dX7_order_38 : decode cX7_order 38 = .ok (.invokevirtual 78, 3) := by decide +kernel
theorem dX7_order_41 : decode cX7_order 41 = .ok (.ireturn, 1) := by decide +kernel
theorem dX7_order_42 : decode cX7_order 42 = .ok (.aload 4, 2) := by decide +kernel
theorem dX7_order_44 : decode cX7_order 44 = .ok (.iload_n 2, 1) := by decide +kernel
theorem dX7_order_45 : decode cX7_order 45 = .ok (.iload_n 3, 1) := by decide +kernel
theorem dX7_order_46 : decode cX7_order 46 = .ok (.invokevirtual 93, 3) := by decide +kernel
theorem dX7_order_49 : decode cX7_order 49 = .ok (.ifCond .ne 9, 3) := by decide +kernel
theorem dX7_order_52 : decode cX7_order 52 = .ok (.aload_n 0, 1) := by decide +kernel
theorem dX7_order_53 : decode cX7_order 53 = .ok (.iconst 2, 1) := by decide +kernel
theorem dX7_order_54 : decode cX7_order 54 = .ok (.invokevirtual 78, 3) := by decide +kernel
theorem dX7_order_57 : decode cX7_order 57 = .ok (.ireturn, 1) := by decide +kernel
theorem dX7_order_58 : decode cX7_order 58 = .ok (.iconst 0, 1) := by decide +kernel
theorem dX7_order_59 : decode cX7_order 59 = .ok (.istore 5, 2) := by decide +kernel
theorem dX7_order_61 : decode cX7_order 61 = .ok (.iload 5, 2) := by decide +kernel
theorem dX7_order_63 : decode cX7_order 63 = .ok (.iload_n 3, 1) := by decide +kernel
theorem dX7_order_64 : decode cX7_order 64 = .ok (.if_icmp .ge 29, 3) := by decide +kernel
theorem dX7_order_67 : decode cX7_order 67 = .ok (.aload_n 0, 1) := by decide +kernel
theorem dX7_order_68 : decode cX7_order 68 = .ok (.aload 4, 2) := by decide +kernel
theorem dX7_order_70 : decode cX7_order 70 = .ok (.getfield 97, 3) := by decide +kernel
theorem dX7_order_73 : decode cX7_order 73 = .ok (.iload_n 2, 1) := by decide +kernel
theorem dX7_order_74 : decode cX7_order 74 = .ok (.iload 5, 2) := by decide +kernel
theorem dX7_order_76 : decode cX7_order 76 = .ok (.iadd, 1) := by decide +kernel
theorem dX7_order_77 : decode cX7_order 77 = .ok (.iaload, 1) := by decide +kernel
theorem dX7_order_78 : decode cX7_order 78 = .ok (.invokevirtual 140, 3) := by decide +kernel
theorem dX7_order_81 : decode cX7_order 81 = .ok (.ifCond .ne 6, 3) := by decide +kernel
theorem dX7_order_84 : decode cX7_order 84 = .ok (.ldc 77, 2) := by decide +kernel
theorem dX7_order_86 : decode cX7_order 86 = .ok (.ireturn, 1) := by decide +kernel
theorem dX7_order_87 : decode cX7_order 87 = .ok (.iinc 5 1, 3) := by decide +kernel
theorem dX7_order_90 : decode cX7_order 90 = .ok (.goto (-29), 3) := by decide +kernel
theorem dX7_order_93 : decode cX7_order 93 = .ok (.aload_n 0, 1) := by decide +kernel
theorem dX7_order_94 : decode cX7_order 94 = .ok (.getfield 39, 3) := by decide +kernel
theorem dX7_order_97 : decode cX7_order 97 = .ok (.aload 4, 2) := by decide +kernel
theorem dX7_order_99 : decode cX7_order 99 = .ok (.getfield 97, 3) := by decide +kernel
theorem dX7_order_102 : decode cX7_order 102 = .ok (.iload_n 2, 1) := by decide +kernel
theorem dX7_order_103 : decode cX7_order 103 = .ok (.iload_n 3, 1) := by decide +kernel
theorem dX7_order_104 : decode cX7_order 104 = .ok (.invokevirtual 150, 3) := by decide +kernel
theorem dX7_order_107 : decode cX7_order 107 = .ok (.aload_n 0, 1) := by decide +kernel
theorem dX7_order_108 : decode cX7_order 108 = .ok (.iload_n 3, 1) := by decide +kernel
theorem dX7_order_109 : decode cX7_order 109 = .ok (.invokevirtual 86, 3) := by decide +kernel
theorem dX7_order_112 : decode cX7_order 112 = .ok (.ireturn, 1) := by decide +kernel
set_option maxRecDepth 20000 in
theorem ggX7_striking_X7_isPlace : GoodIn wsX7_striking wsX7_isPlace := goodIn_r _ [10, 2, 3, 11, 12, 9, 13, 14, 15, 16, 17, 18, 19, 20, 21, 22, 23, 24, 25, 26, 27, 28, 29, 30, 31] (by decide +kernel) (by decide +kernel)
set_option maxRecDepth 20000 in
theorem gX7_striking_X7_isPlace : GoodIn wsX7_striking (wsV RX7 158 RX7 yX7_isPlace wsX7_isPlace) := goodIn_app (goodIn_of _ (by decide +kernel)) ggX7_striking_X7_isPlace
theorem dX7_striking_0 : decode cX7_striking 0 = .ok (.iload_n 1, 1) := by decide +kernel
theorem dX7_striking_1 : decode cX7_striking 1 = .ok (.ldc 154, 2) := by decide +kernel
theorem dX7_striking_3 : decode cX7_striking 3 = .ok (.if_icmp .ne 11, 3) := by decide +kernel
theorem dX7_striking_6 : decode cX7_striking 6 = .ok (.aload_n 0, 1) := by decide +kernel
theorem dX7_striking_7 : decode cX7_striking 7 = .ok (.getfield 39, 3) := by decide +kernel
theorem dX7_striking_10 : decode cX7_striking 10 = .ok (.getfield 155, 3) := by decide +kernel
theorem dX7_striking_13 : decode cX7_striking 13 = .ok (.ireturn, 1) := by decide +kernel
theorem dX7_striking_14 : decode cX7_striking 14 = .ok (.aload_n 0, 1) := by decide +kernel
theorem dX7_striking_15 : decode cX7_striking 15 = .ok (.iload_n 1, 1) := by decide +kernel
theorem dX7_striking_16 : decode cX7_striking 16 = .ok (.invokevirtual 158, 3) := by decide +kernel
theorem dX7_striking_19 : decode cX7_striking 19 = .ok (.ifCond .eq 15, 3) := by decide +kernel
theorem dX7_striking_22 : decode cX7_striking 22 = .ok (.aload_n 0, 1) := by decide +kernel
theorem dX7_striking_23 : decode cX7_striking 23 = .ok (.getfield 39, 3) := by decide +kernel
theorem dX7_striking_26 : decode cX7_striking 26 = .ok (.getfield 161, 3) := by decide +kernel
theorem dX7_striking_29 : decode cX7_striking 29 = .ok (.iload_n 1, 1) := by decide +kernel
theorem dX7_striking_30 : decode cX7_striking 30 = .ok (.iaload, 1) := by decide +kernel
theorem dX7_striking_31 : decode cX7_striking 31 = .ok (.goto 5, 3) := by decide +kernel
theorem dX7_striking_34 : decode cX7_striking 34 = .ok (.ldc 77, 2) := by decide +kernel
theorem dX7_striking_36 : decode cX7_striking 36 = .ok (.ireturn, 1) := by decide +kernel
set_option maxRecDepth 20000 in
theorem ggX7_mean_X7_within : GoodIn wsX7_mean wsX7_within := goodIn_r _ [6] (by decide +kernel) (by decide +kernel)
set_option maxRecDepth 20000 in
theorem gX7_mean_X7_within : GoodIn wsX7_mean (va_wsS RX7 73 yX7_within wsX7_within) := goodIn_app (goodIn_of _ (by decide +kernel)) ggX7_mean_X7_within
set_option maxRecDepth 20000 in
theorem ggX7_mean_X7_isPlace : GoodIn wsX7_mean wsX7_isPlace := goodIn_r _ [10, 2, 11, 3, 4, 5, 6, 44, 45, 46, 47, 48, 49, 50, 51, 52, 53, 54, 55, 56, 57, 58, 59, 60, 61] (by decide +kernel) (by decide +kernel)
set_option maxRecDepth 20000 in
theorem gX7_mean_X7_isPlace : GoodIn wsX7_mean (wsV RX7 158 RX7 yX7_isPlace wsX7_isPlace) := goodIn_app (goodIn_of _ (by decide +kernel)) ggX7_mean_X7_isPlace
set_option maxRecDepth 20000 in
theorem ggX7_mean_X2_meanFrom : GoodIn wsX7_mean wsX2_meanFrom := goodIn_r _ [16, 17, 18, 19, 20, 15, 21, 22, 23, 24, 25, 26, 27, 28, 29, 30, 31, 32, 33, 34, 35, 36, 37, 38, 39, 40, 41, 42, 43, 53, 54, 55, 56, 57, 58, 59, 60, 61, 62, 63, 64, 65] (by decide +kernel) (by decide +kernel)
set_option maxRecDepth 20000 in
theorem gX7_mean_X2_meanFrom : GoodIn wsX7_mean (wsV RX7 164 RX2 yX2_meanFrom wsX2_meanFrom) := goodIn_app (goodIn_of _ (by decide +kernel)) ggX7_mean_X2_meanFrom
theorem dX7_mean_0 : decode cX7_mean 0 = .ok (.iload_n 1, 1) := by decide +kernel
theorem dX7_mean_1 : decode cX7_mean 1 = .ok (.iconst 0, 1) := by decide +kernel
theorem dX7_mean_2 : decode cX7_mean 2 = .ok (.bipush 24, 2) := by decide +kernel
theorem dX7_mean_4 : decode cX7_mean 4 = .ok (.invokestatic 73, 3) := by decide +kernel
theorem dX7_mean_7 : decode cX7_mean 7 = .ok (.ifCond .eq 21, 3) := by decide +kernel
theorem dX7_mean_10 : decode cX7_mean 10 = .ok (.aload_n 0, 1) := by decide +kernel
theorem dX7_mean_11 : decode cX7_mean 11 = .ok (.iload_n 2, 1) := by decide +kernel
theorem dX7_mean_12 : decode cX7_mean 12 = .ok (.invokevirtual 158, 3) := by decide +kernel
theorem dX7_mean_15 : decode cX7_mean 15 = .ok (.ifCond .eq 13, 3) := by decide +kernel
theorem dX7_mean_18 : decode cX7_mean 18 = .ok (.iload_n 3, 1) := by decide +kernel
theorem dX7_mean_19 : decode cX7_mean 19 = .ok (.iconst 0, 1) := by decide +kernel
theorem dX7_mean_20 : decode cX7_mean 20 = .ok (.bipush 30, 2) := by decide +kernel
theorem dX7_mean_22 : decode cX7_mean 22 = .ok (.invokestatic 73, 3) := by decide +kernel
theorem dX7_mean_25 : decode cX7_mean 25 = .ok (.ifCond .ne 6, 3) := by decide +kernel
theorem dX7_mean_28 : decode cX7_mean 28 = .ok (.ldc 77, 2) := by decide +kernel
theorem dX7_mean_30 : decode cX7_mean 30 = .ok (.ireturn, 1) := by decide +kernel
theorem dX7_mean_31 : decode cX7_mean 31 = .ok (.aload_n 0, 1) := by decide +kernel
theorem dX7_mean_32 : decode cX7_mean 32 = .ok (.getfield 39, 3) := by decide +kernel
theorem dX7_mean_35 : decode cX7_mean 35 = .ok (.iload_n 1, 1) := by decide +kernel
theorem dX7_mean_36 : decode cX7_mean 36 = .ok (.iload_n 2, 1) := by decide +kernel
theorem dX7_mean_37 : decode cX7_mean 37 = .ok (.iload_n 3, 1) := by decide +kernel
theorem dX7_mean_38 : decode cX7_mean 38 = .ok (.invokevirtual 164, 3) := by decide +kernel
theorem dX7_mean_41 : decode cX7_mean 41 = .ok (.ireturn, 1) := by decide +kernel
set_option maxRecDepth 20000 in
theorem ggX7_likely_X7_within : GoodIn wsX7_likely wsX7_within := goodIn_r _ [6] (by decide +kernel) (by decide +kernel)
set_option maxRecDepth 20000 in
theorem gX7_likely_X7_within : GoodIn wsX7_likely (va_wsS RX7 73 yX7_within wsX7_within) := goodIn_app (goodIn_of _ (by decide +kernel)) ggX7_likely_X7_within
set_option maxRecDepth 20000 in
theorem ggX7_likely_X7_isPlace : GoodIn wsX7_likely wsX7_isPlace := goodIn_r _ [10, 2, 11, 3, 4, 5, 6, 52, 53, 54, 55, 56, 57, 58, 59, 60, 61, 62, 63, 64, 65, 66, 67, 68, 69] (by decide +kernel) (by decide +kernel)
set_option maxRecDepth 20000 in
theorem gX7_likely_X7_isPlace : GoodIn wsX7_likely (wsV RX7 158 RX7 yX7_isPlace wsX7_isPlace) := goodIn_app (goodIn_of _ (by decide +kernel)) ggX7_likely_X7_isPlace
set_option maxRecDepth 20000 in
theorem ggX7_likely_X2_likelyFrom : GoodIn wsX7_likely wsX2_likelyFrom := goodIn_r _ [16, 17, 18, 19, 20, 21, 15, 22, 23, 24, 25, 26, 27, 28, 29, 30, 31, 32, 33, 34, 35, 36, 37, 38, 39, 40, 41, 42, 43, 44, 45, 46, 47, 48, 49, 50, 51, 61, 62, 63, 64, 65, 66, 67, 68, 69, 70, 71, 72, 73] (by decide +kernel) (by decide +kernel)
set_option maxRecDepth 20000 in
theorem gX7_likely_X2_likelyFrom : GoodIn wsX7_likely (wsV RX7 168 RX2 yX2_likelyFrom wsX2_likelyFrom) := goodIn_app (goodIn_of _ (by decide +kernel)) ggX7_likely_X2_likelyFrom
theorem dX7_likely_0 : decode cX7_likely 0 = .ok (.iload_n 1, 1) := by decide +kernel
theorem dX7_likely_1 : decode cX7_likely 1 = .ok (.iconst 0, 1) := by decide +kernel
theorem dX7_likely_2 : decode cX7_likely 2 = .ok (.bipush 24, 2) := by decide +kernel
theorem dX7_likely_4 : decode cX7_likely 4 = .ok (.invokestatic 73, 3) := by decide +kernel
theorem dX7_likely_7 : decode cX7_likely 7 = .ok (.ifCond .eq 32, 3) := by decide +kernel
theorem dX7_likely_10 : decode cX7_likely 10 = .ok (.aload_n 0, 1) := by decide +kernel
theorem dX7_likely_11 : decode cX7_likely 11 = .ok (.iload_n 2, 1) := by decide +kernel
theorem dX7_likely_12 : decode cX7_likely 12 = .ok (.invokevirtual 158, 3) := by decide +kernel
theorem dX7_likely_15 : decode cX7_likely 15 = .ok (.ifCond .eq 24, 3) := by decide +kernel
theorem dX7_likely_18 : decode cX7_likely 18 = .ok (.iload_n 3, 1) := by decide +kernel
theorem dX7_likely_19 : decode cX7_likely 19 = .ok (.iconst 0, 1) := by decide +kernel
theorem dX7_likely_20 : decode cX7_likely 20 = .ok (.bipush 30, 2) := by decide +kernel
theorem dX7_likely_22 : decode cX7_likely 22 = .ok (.invokestatic 73, 3) := by decide +kernel
theorem dX7_likely_25 : decode cX7_likely 25 = .ok (.ifCond .eq 14, 3) := by decide +kernel
theorem dX7_likely_28 : decode cX7_likely 28 = .ok (.iload 4, 2) := by decide +kernel
theorem dX7_likely_30 : decode cX7_likely 30 = .ok (.iconst 0, 1) := by decide +kernel
theorem dX7_likely_31 : decode cX7_likely 31 = .ok (.bipush 9, 2) := by decide +kernel
theorem dX7_likely_33 : decode cX7_likely 33 = .ok (.invokestatic 73, 3) := by decide +kernel
theorem dX7_likely_36 : decode cX7_likely 36 = .ok (.ifCond .ne 6, 3) := by decide +kernel
theorem dX7_likely_39 : decode cX7_likely 39 = .ok (.ldc 77, 2) := by decide +kernel
theorem dX7_likely_41 : decode cX7_likely 41 = .ok (.ireturn, 1) := by decide +kernel
theorem dX7_likely_42 : decode cX7_likely 42 = .ok (.aload_n 0, 1) := by decide +kernel
theorem dX7_likely_43 : decode cX7_likely 43 = .ok (.getfield 39, 3) := by decide +kernel
theorem dX7_likely_46 : decode cX7_likely 46 = .ok (.iload_n 1, 1) := by decide +kernel
theorem dX7_likely_47 : decode cX7_likely 47 = .ok (.iload_n 2, 1) := by decide +kernel
theorem dX7_likely_48 : decode cX7_likely 48 = .ok (.iload_n 3, 1) := by decide +kernel
theorem dX7_likely_49 : decode cX7_likely 49 = .ok (.iload 4, 2) := by decide +kernel
theorem dX7_likely_51 : decode cX7_likely 51 = .ok (.invokevirtual 168, 3) := by decide +kernel
theorem dX7_likely_54 : decode cX7_likely 54 = .ok (.ireturn, 1) := by decide +kernel
set_option maxRecDepth 20000 in
theorem ggX7_worth_X7_within : GoodIn wsX7_worth wsX7_within := goodIn_r _ [6] (by decide +kernel) (by decide +kernel)
set_option maxRecDepth 20000 in
theorem gX7_worth_X7_within : GoodIn wsX7_worth (va_wsS RX7 73 yX7_within wsX7_within) := goodIn_app (goodIn_of _ (by decide +kernel)) ggX7_worth_X7_within
set_option maxRecDepth 20000 in
theorem ggX7_worth_X7_isPlace : GoodIn wsX7_worth wsX7_isPlace := goodIn_r _ [10, 2, 11, 3, 4, 5, 6, 55, 56, 57, 58, 59, 60, 61, 62, 63, 64, 65, 66, 67, 68, 69, 70, 71, 72] (by decide +kernel) (by decide +kernel)
set_option maxRecDepth 20000 in
theorem gX7_worth_X7_isPlace : GoodIn wsX7_worth (wsV RX7 158 RX7 yX7_isPlace wsX7_isPlace) := goodIn_app (goodIn_of _ (by decide +kernel)) ggX7_worth_X7_isPlace
set_option maxRecDepth 20000 in
theorem ggX7_worth_X2_worthOf : GoodIn wsX7_worth wsX2_worthOf := goodIn_r _ [16, 17, 18, 19, 20, 21, 22, 23, 15, 24, 25, 26, 27, 28, 29, 30, 31, 32, 33, 34, 35, 36, 37, 38, 39, 40, 41, 42, 43, 44, 45, 46, 47, 48, 49, 50, 51, 52, 53, 54, 64, 65, 66, 67, 68, 69, 70, 71, 72, 73, 74, 75, 76] (by decide +kernel) (by decide +kernel)
set_option maxRecDepth 20000 in
theorem gX7_worth_X2_worthOf : GoodIn wsX7_worth (wsV RX7 172 RX2 yX2_worthOf wsX2_worthOf) := goodIn_app (goodIn_of _ (by decide +kernel)) ggX7_worth_X2_worthOf
theorem dX7_worth_0 : decode cX7_worth 0 = .ok (.iload_n 1, 1) := by decide +kernel
theorem dX7_worth_1 : decode cX7_worth 1 = .ok (.iconst 0, 1) := by decide +kernel
theorem dX7_worth_2 : decode cX7_worth 2 = .ok (.bipush 23, 2) := by decide +kernel
theorem dX7_worth_4 : decode cX7_worth 4 = .ok (.invokestatic 73, 3) := by decide +kernel
theorem dX7_worth_7 : decode cX7_worth 7 = .ok (.ifCond .eq 32, 3) := by decide +kernel
theorem dX7_worth_10 : decode cX7_worth 10 = .ok (.iload_n 2, 1) := by decide +kernel
theorem dX7_worth_11 : decode cX7_worth 11 = .ok (.iconst 0, 1) := by decide +kernel
theorem dX7_worth_12 : decode cX7_worth 12 = .ok (.bipush 6, 2) := by decide +kernel
theorem dX7_worth_14 : decode cX7_worth 14 = .ok (.invokestatic 73, 3) := by decide +kernel
theorem dX7_worth_17 : decode cX7_worth 17 = .ok (.ifCond .eq 22, 3) := by decide +kernel
theorem dX7_worth_20 : decode cX7_worth 20 = .ok (.aload_n 0, 1) := by decide +kernel
theorem dX7_worth_21 : decode cX7_worth 21 = .ok (.iload_n 3, 1) := by decide +kernel
theorem dX7_worth_22 : decode cX7_worth 22 = .ok (.invokevirtual 158, 3) := by decide +kernel
theorem dX7_worth_25 : decode cX7_worth 25 = .ok (.ifCond .eq 14, 3) := by decide +kernel
theorem dX7_worth_28 : decode cX7_worth 28 = .ok (.iload 4, 2) := by decide +kernel
theorem dX7_worth_30 : decode cX7_worth 30 = .ok (.iconst 1, 1) := by decide +kernel
theorem dX7_worth_31 : decode cX7_worth 31 = .ok (.bipush 30, 2) := by decide +kernel
theorem dX7_worth_33 : decode cX7_worth 33 = .ok (.invokestatic 73, 3) := by decide +kernel
theorem dX7_worth_36 : decode cX7_worth 36 = .ok (.ifCond .ne 6, 3) := by decide +kernel
theorem dX7_worth_39 : decode cX7_worth 39 = .ok (.ldc 77, 2) := by decide +kernel
theorem dX7_worth_41 : decode cX7_worth 41 = .ok (.ireturn, 1) := by decide +kernel
theorem dX7_worth_42 : decode cX7_worth 42 = .ok (.aload_n 0, 1) := by decide +kernel
theorem dX7_worth_43 : decode cX7_worth 43 = .ok (.getfield 39, 3) := by decide +kernel
theorem dX7_worth_46 : decode cX7_worth 46 = .ok (.iload_n 1, 1) := by decide +kernel
theorem dX7_worth_47 : decode cX7_worth 47 = .ok (.iload_n 2, 1) := by decide +kernel
theorem dX7_worth_48 : decode cX7_worth 48 = .ok (.iload_n 3, 1) := by decide +kernel
theorem dX7_worth_49 : decode cX7_worth 49 = .ok (.iload 4, 2) := by decide +kernel
theorem dX7_worth_51 : decode cX7_worth 51 = .ok (.invokevirtual 172, 3) := by decide +kernel
theorem dX7_worth_54 : decode cX7_worth 54 = .ok (.ireturn, 1) := by decide +kernel
set_option maxRecDepth 20000 in
theorem ggX7_rate_X2_rateNow : GoodIn wsX7_rate wsX2_rateNow := goodIn_r _ [8, 9, 10, 11, 12, 7, 13, 14, 15, 16, 17, 18, 19, 20, 21, 22, 23, 24, 25, 26, 27, 28, 29, 30, 31, 32, 33, 34, 35, 36, 37, 38, 39, 49, 50, 51, 52, 53, 54, 55, 56, 57, 58, 59, 60, 61] (by decide +kernel) (by decide +kernel)
set_option maxRecDepth 20000 in
theorem gX7_rate_X2_rateNow : GoodIn wsX7_rate (wsV RX7 175 RX2 yX2_rateNow wsX2_rateNow) := goodIn_app (goodIn_of _ (by decide +kernel)) ggX7_rate_X2_rateNow
theorem dX7_rate_0 : decode cX7_rate 0 = .ok (.aload_n 0, 1) := by decide +kernel
theorem dX7_rate_1 : decode cX7_rate 1 = .ok (.getfield 39, 3) := by decide +kernel
theorem dX7_rate_4 : decode cX7_rate 4 = .ok (.getfield 155, 3) := by decide +kernel
theorem dX7_rate_7 : decode cX7_rate 7 = .ok (.ifCond .ne 6, 3) := by decide +kernel
theorem dX7_rate_10 : decode cX7_rate 10 = .ok (.ldc 146, 2) := by decide +kernel
theorem dX7_rate_12 : decode cX7_rate 12 = .ok (.ireturn, 1) := by decide +kernel
theorem dX7_rate_13 : decode cX7_rate 13 = .ok (.aload_n 0, 1) := by decide +kernel
theorem dX7_rate_14 : decode cX7_rate 14 = .ok (.getfield 39, 3) := by decide +kernel
theorem dX7_rate_17 : decode cX7_rate 17 = .ok (.invokevirtual 175, 3) := by decide +kernel
theorem dX7_rate_20 : decode cX7_rate 20 = .ok (.ireturn, 1) := by decide +kernel
set_option maxRecDepth 20000 in
theorem ggX7_swapped_X2_exchangeWhileBetter : GoodIn wsX7_swapped wsX2_exchangeWhileBetter := goodIn_r _ [8, 9, 10, 11, 7, 12, 13, 14, 15, 16, 17, 18, 19, 20, 21, 22, 23, 24, 25, 26, 27, 28, 29, 30, 31, 32, 33, 34, 35, 36, 37, 38, 39, 40, 41, 42, 43, 44, 45, 46, 47, 48, 49, 50, 51, 61, 62, 63, 64, 65, 66, 67, 68, 69, 70, 71, 72, 73] (by decide +kernel) (by decide +kernel)
set_option maxRecDepth 20000 in
theorem gX7_swapped_X2_exchangeWhileBetter : GoodIn wsX7_swapped (wsV RX7 178 RX2 yX2_exchangeWhileBetter wsX2_exchangeWhileBetter) := goodIn_app (goodIn_of _ (by decide +kernel)) ggX7_swapped_X2_exchangeWhileBetter
theorem dX7_swapped_0 : decode cX7_swapped 0 = .ok (.aload_n 0, 1) := by decide +kernel
theorem dX7_swapped_1 : decode cX7_swapped 1 = .ok (.getfield 39, 3) := by decide +kernel
theorem dX7_swapped_4 : decode cX7_swapped 4 = .ok (.getfield 155, 3) := by decide +kernel
theorem dX7_swapped_7 : decode cX7_swapped 7 = .ok (.ifCond .ne 6, 3) := by decide +kernel
theorem dX7_swapped_10 : decode cX7_swapped 10 = .ok (.ldc 146, 2) := by decide +kernel
theorem dX7_swapped_12 : decode cX7_swapped 12 = .ok (.ireturn, 1) := by decide +kernel
theorem dX7_swapped_13 : decode cX7_swapped 13 = .ok (.aload_n 0, 1) := by decide +kernel
theorem dX7_swapped_14 : decode cX7_swapped 14 = .ok (.getfield 39, 3) := by decide +kernel
theorem dX7_swapped_17 : decode cX7_swapped 17 = .ok (.invokevirtual 178, 3) := by decide +kernel
theorem dX7_swapped_20 : decode cX7_swapped 20 = .ok (.ireturn, 1) := by decide +kernel
set_option maxRecDepth 20000 in
theorem ggX7_best_X2_becomeBest : GoodIn wsX7_best wsX2_becomeBest := goodIn_r _ [8, 9, 10, 11, 12, 13, 14, 15, 16, 17, 18, 7, 19, 20, 21, 22, 23, 24, 25, 26, 27, 28, 29, 30, 31, 32, 33, 34, 35, 36, 37, 38, 39, 40, 41, 42, 43, 44, 45, 46, 47, 48, 49, 50, 51, 52, 53, 54, 55, 56, 57, 58, 59, 60, 61, 62, 63, 64, 74, 75, 76, 77, 78, 79, 80, 81, 82, 83, 84, 85, 86] (by decide +kernel) (by decide +kernel)
set_option maxRecDepth 20000 in
theorem gX7_best_X2_becomeBest : GoodIn wsX7_best (wsV RX7 181 RX2 yX2_becomeBest wsX2_becomeBest) := goodIn_app (goodIn_of _ (by decide +kernel)) ggX7_best_X2_becomeBest
theorem dX7_best_0 : decode cX7_best 0 = .ok (.aload_n 0, 1) := by decide +kernel
theorem dX7_best_1 : decode cX7_best 1 = .ok (.getfield 39, 3) := by decide +kernel
theorem dX7_best_4 : decode cX7_best 4 = .ok (.getfield 155, 3) := by decide +kernel
theorem dX7_best_7 : decode cX7_best 7 = .ok (.ifCond .eq 15, 3) := by decide +kernel
theorem dX7_best_10 : decode cX7_best 10 = .ok (.aload_n 0, 1) := by decide +kernel
theorem dX7_best_11 : decode cX7_best 11 = .ok (.getfield 39, 3) := by decide +kernel
theorem dX7_best_14 : decode cX7_best 14 = .ok (.getfield 155, 3) := by decide +kernel
theorem dX7_best_17 : decode cX7_best 17 = .ok (.bipush 6, 2) := by decide +kernel
theorem dX7_best_19 : decode cX7_best 19 = .ok (.if_icmp .le 6, 3) := by decide +kernel
theorem dX7_best_22 : decode cX7_best 22 = .ok (.ldc 146, 2) := by decide +kernel
theorem dX7_best_24 : decode cX7_best 24 = .ok (.ireturn, 1) := by decide +kernel
theorem dX7_best_25 : decode cX7_best 25 = .ok (.aload_n 0, 1) := by decide +kernel
theorem dX7_best_26 : decode cX7_best 26 = .ok (.getfield 39, 3) := by decide +kernel
theorem dX7_best_29 : decode cX7_best 29 = .ok (.invokevirtual 181, 3) := by decide +kernel
theorem dX7_best_32 : decode cX7_best 32 = .ok (.ireturn, 1) := by decide +kernel
set_option maxRecDepth 20000 in
theorem ggX7_team_X7_within : GoodIn wsX7_team wsX7_within := goodIn_r _ [7] (by decide +kernel) (by decide +kernel)
set_option maxRecDepth 20000 in
theorem gX7_team_X7_within : GoodIn wsX7_team (va_wsS RX7 73 yX7_within wsX7_within) := goodIn_app (goodIn_of _ (by decide +kernel)) ggX7_team_X7_within
set_option maxRecDepth 20000 in
theorem ggX7_team_X7_isStriker : GoodIn wsX7_team wsX7_isStriker := goodIn_r _ [11, 12, 4, 5, 6, 7, 19, 20, 21, 22, 23, 24, 25, 26, 27] (by decide +kernel) (by decide +kernel)
set_option maxRecDepth 20000 in
theorem gX7_team_X7_isStriker : GoodIn wsX7_team (wsV RX7 140 RX7 yX7_isStriker wsX7_isStriker) := goodIn_app (goodIn_of _ (by decide +kernel)) ggX7_team_X7_isStriker
set_option maxRecDepth 20000 in
theorem ggX7_team_X4_forget : GoodIn wsX7_team wsX4_forget := goodIn_r _ [17, 18, 28, 29, 30, 31, 32, 33, 34, 35] (by decide +kernel) (by decide +kernel)
set_option maxRecDepth 20000 in
theorem gX7_team_X4_forget : GoodIn wsX7_team (wsV RX7 147 RX4 yX4_forget wsX4_forget) := goodIn_app (goodIn_of _ (by decide +kernel)) ggX7_team_X4_forget
theorem dX7_team_0 : decode cX7_team 0 = .ok (.iload_n 1, 1) := by decide +kernel
theorem dX7_team_1 : decode cX7_team 1 = .ok (.iconst 0, 1) := by decide +kernel
theorem dX7_team_2 : decode cX7_team 2 = .ok (.iconst 1, 1) := by decide +kernel
theorem dX7_team_3 : decode cX7_team 3 = .ok (.invokestatic 73, 3) := by decide +kernel
theorem dX7_team_6 : decode cX7_team 6 = .ok (.ifCond .eq 11, 3) := by decide +kernel
theorem dX7_team_9 : decode cX7_team 9 = .ok (.aload_n 0, 1) := by decide +kernel
theorem dX7_team_10 : decode cX7_team 10 = .ok (.iload_n 2, 1) := by decide +kernel
theorem dX7_team_11 : decode cX7_team 11 = .ok (.invokevirtual 140, 3) := by decide +kernel
theorem dX7_team_14 : decode cX7_team 14 = .ok (.ifCond .ne 6, 3) := by decide +kernel
theorem dX7_team_17 : decode cX7_team 17 = .ok (.ldc 77, 2) := by decide +kernel
theorem dX7_team_19 : decode cX7_team 19 = .ok (.ireturn, 1) := by decide +kernel
theorem dX7_team_20 : decode cX7_team 20 = .ok (.aload_n 0, 1) := by decide +kernel
theorem dX7_team_21 : decode cX7_team 21 = .ok (.getfield 46, 3) := by decide +kernel
theorem dX7_team_24 : decode cX7_team 24 = .ok (.getfield 184, 3) := by decide +kernel
theorem dX7_team_27 : decode cX7_team 27 = .ok (.iload_n 1, 1) := by decide +kernel
theorem dX7_team_28 : decode cX7_team 28 = .ok (.iaload, 1) := by decide +kernel
theorem dX7_team_29 : decode cX7_team 29 = .ok (.istore_n 3, 1) := by decide +kernel
theorem dX7_team_30 : decode cX7_team 30 = .ok (.aload_n 0, 1) := by decide +kernel
theorem dX7_team_31 : decode cX7_team 31 = .ok (.getfield 46, 3) := by decide +kernel
theorem dX7_team_34 : decode cX7_team 34 = .ok (.getfield 184, 3) := by decide +kernel
theorem dX7_team_37 : decode cX7_team 37 = .ok (.iload_n 1, 1) := by decide +kernel
theorem dX7_team_38 : decode cX7_team 38 = .ok (.iload_n 2, 1) := by decide +kernel
theorem dX7_team_39 : decode cX7_team 39 = .ok (.iastore, 1) := by decide +kernel
theorem dX7_team_40 : decode cX7_team 40 = .ok (.aload_n 0, 1) := by decide +kernel
theorem dX7_team_41 : decode cX7_team 41 = .ok (.getfield 46, 3) := by decide +kernel
theorem dX7_team_44 : decode cX7_team 44 = .ok (.invokevirtual 147, 3) := by decide +kernel
theorem dX7_team_47 : decode cX7_team 47 = .ok (.iload_n 3, 1) := by decide +kernel
theorem dX7_team_48 : decode cX7_team 48 = .ok (.ireturn, 1) := by decide +kernel
set_option maxRecDepth 20000 in
theorem ggX7_game_X7_within : GoodIn wsX7_game wsX7_within := goodIn_r _ [7] (by decide +kernel) (by decide +kernel)
set_option maxRecDepth 20000 in
theorem gX7_game_X7_within : GoodIn wsX7_game (va_wsS RX7 73 yX7_within wsX7_within) := goodIn_app (goodIn_of _ (by decide +kernel)) ggX7_game_X7_within
set_option maxRecDepth 20000 in
theorem ggX7_game_X4_howManyTeams : GoodIn wsX7_game wsX4_howManyTeams := goodIn_r _ [12, 13, 14, 93, 94, 95, 96, 97, 98, 99, 100] (by decide +kernel) (by decide +kernel)
set_option maxRecDepth 20000 in
theorem gX7_game_X4_howManyTeams : GoodIn wsX7_game (wsV RX7 187 RX4 yX4_howManyTeams wsX4_howManyTeams) := goodIn_app (goodIn_of _ (by decide +kernel)) ggX7_game_X4_howManyTeams
set_option maxRecDepth 20000 in
theorem ggX7_game_X4_told : GoodIn wsX7_game wsX4_told := goodIn_r _ [18, 14, 19, 20, 21, 22, 23, 24, 25, 26, 27, 11, 28, 29, 30, 31, 32, 33, 34, 35, 36, 37, 38, 39, 40, 41, 42, 43, 44, 45, 46, 47, 48, 13, 49, 50, 51, 52, 53, 54, 55, 56, 57, 58, 59, 60, 61, 62, 63, 64, 65, 66, 67, 68, 69, 70, 71, 72, 73, 74, 75, 76, 77, 78, 79, 80, 81, 82, 83, 93, 94, 95, 96, 97, 98, 99, 100, 101, 102, 103, 104] (by decide +kernel) (by decide +kernel)
set_option maxRecDepth 20000 in
theorem gX7_game_X4_told : GoodIn wsX7_game (wsV RX7 190 RX4 yX4_told wsX4_told) := goodIn_app (goodIn_of _ (by decide +kernel)) ggX7_game_X4_told
theorem dX7_game_0 : decode cX7_game 0 = .ok (.iload_n 1, 1) := by decide +kernel
theorem dX7_game_1 : decode cX7_game 1 = .ok (.iconst 0, 1) := by decide +kernel
theorem dX7_game_2 : decode cX7_game 2 = .ok (.iconst 5, 1) := by decide +kernel
theorem dX7_game_3 : decode cX7_game 3 = .ok (.invokestatic 73, 3) := by decide +kernel
theorem dX7_game_6 : decode cX7_game 6 = .ok (.ifCond .eq 45, 3) := by decide +kernel
theorem dX7_game_9 : decode cX7_game 9 = .ok (.iload_n 2, 1) := by decide +kernel
theorem dX7_game_10 : decode cX7_game 10 = .ok (.bipush (-9), 2) := by decide +kernel
theorem dX7_game_12 : decode cX7_game 12 = .ok (.bipush 9, 2) := by decide +kernel
theorem dX7_game_14 : decode cX7_game 14 = .ok (.invokestatic 73, 3) := by decide +kernel
theorem dX7_game_17 : decode cX7_game 17 = .ok (.ifCond .eq 34, 3) := by decide +kernel
theorem dX7_game_20 : decode cX7_game 20 = .ok (.iload_n 3, 1) := by decide +kernel
theorem dX7_game_21 : decode cX7_game 21 = .ok (.iconst 0, 1) := by decide +kernel
theorem dX7_game_22 : decode cX7_game 22 = .ok (.bipush 24, 2) := by decide +kernel
theorem dX7_game_24 : decode cX7_game 24 = .ok (.invokestatic 73, 3) := by decide +kernel
theorem dX7_game_27 : decode cX7_game 27 = .ok (.ifCond .eq 24, 3) := by decide +kernel
theorem dX7_game_30 : decode cX7_game 30 = .ok (.iload 4, 2) := by decide +kernel
theorem dX7_game_32 : decode cX7_game 32 = .ok (.iconst 0, 1) := by decide +kernel
theorem dX7_game_33 : decode cX7_game 33 = .ok (.bipush 12, 2) := by decide +kernel
theorem dX7_game_35 : decode cX7_game 35 = .ok (.invokestatic 73, 3) := by decide +kernel
theorem dX7_game_38 : decode cX7_game 38 = .ok (.ifCond .eq 13, 3) := by decide +kernel
theorem dX7_game_41 : decode cX7_game 41 = .ok (.iload 5, 2) := by decide +kernel
theorem dX7_game_43 : decode cX7_game 43 = .ok (.iconst 0, 1) := by decide +kernel
theorem dX7_game_44 : decode cX7_game 44 = .ok (.iconst 2, 1) := by decide +kernel
theorem dX7_game_45 : decode cX7_game 45 = .ok (.invokestatic 73, 3) := by decide +kernel
theorem dX7_game_48 : decode cX7_game 48 = .ok (.ifCond .ne 6, 3) := by decide +kernel
theorem dX7_game_51 : decode cX7_game 51 = .ok (.ldc 77, 2) := by decide +kernel
theorem dX7_game_53 : decode cX7_game 53 = .ok (.ireturn, 1) := by decide +kernel
theorem dX7_game_54 : decode cX7_game 54 = .ok (.aload_n 0, 1) := by decide +kernel
theorem dX7_game_55 : decode cX7_game 55 = .ok (.getfield 46, 3) := by decide +kernel
theorem dX7_game_58 : decode cX7_game 58 = .ok (.invokevirtual 187, 3) := by decide +kernel
theorem dX7_game_61 : decode cX7_game 61 = .ok (.iconst 2, 1) := by decide +kernel
theorem dX7_game_62 : decode cX7_game 62 = .ok (.if_icmp .ge 6, 3) := by decide +kernel
theorem dX7_game_65 : decode cX7_game 65 = .ok (.ldc 146, 2) := by decide +kernel
theorem dX7_game_67 : decode cX7_game 67 = .ok (.ireturn, 1) := by decide +kernel
theorem dX7_game_68 : decode cX7_game 68 = .ok (.aload_n 0, 1) := by decide +kernel
theorem dX7_game_69 : decode cX7_game 69 = .ok (.getfield 46, 3) := by decide +kernel
theorem dX7_game_72 : decode cX7_game 72 = .ok (.iload_n 1, 1) := by decide +kernel
theorem dX7_game_73 : decode cX7_game 73 = .ok (.iload_n 2, 1) := by decide +kernel
theorem dX7_game_74 : decode cX7_game 74 = .ok (.iload_n 3, 1) := by decide +kernel
theorem dX7_game_75 : decode cX7_game 75 = .ok (.iload 4, 2) := by decide +kernel
theorem dX7_game_77 : decode cX7_game 77 = .ok (.iload 5, 2) := by decide +kernel
theorem dX7_game_79 : decode cX7_game 79 = .ok (.invokevirtual 190, 3) := by decide +kernel
theorem dX7_game_82 : decode cX7_game 82 = .ok (.ireturn, 1) := by decide +kernel
set_option maxRecDepth 20000 in
theorem ggX7_log_X7_isSheet : GoodIn wsX7_log wsX7_isSheet := goodIn_r _ [8, 9, 10, 7, 11] (by decide +kernel) (by decide +kernel)
set_option maxRecDepth 20000 in
theorem gX7_log_X7_isSheet : GoodIn wsX7_log (va_wsS RX7 69 yX7_isSheet wsX7_isSheet) := goodIn_app (goodIn_of _ (by decide +kernel)) ggX7_log_X7_isSheet
set_option maxRecDepth 20000 in
theorem ggX7_log_X7_within : GoodIn wsX7_log wsX7_within := goodIn_r _ [11] (by decide +kernel) (by decide +kernel)
set_option maxRecDepth 20000 in
theorem gX7_log_X7_within : GoodIn wsX7_log (va_wsS RX7 73 yX7_within wsX7_within) := goodIn_app (goodIn_of _ (by decide +kernel)) ggX7_log_X7_within
set_option maxRecDepth 20000 in
theorem ggX7_log_X7_findingOfLog : GoodIn wsX7_log wsX7_findingOfLog := goodIn_r _ [15, 3, 16, 17, 18, 19, 20, 21, 22, 69, 70, 71, 72, 73, 74, 75, 76, 77, 78, 79, 80, 81] (by decide +kernel) (by decide +kernel)
set_option maxRecDepth 20000 in
theorem gX7_log_X7_findingOfLog : GoodIn wsX7_log (wsV RX7 194 RX7 yX7_findingOfLog wsX7_findingOfLog) := goodIn_app (goodIn_of _ (by decide +kernel)) ggX7_log_X7_findingOfLog
set_option maxRecDepth 20000 in
theorem ggX7_log_X7_found : GoodIn wsX7_log wsX7_found := goodIn_r _ [26, 27, 28, 69, 70, 71, 72, 73, 74, 75, 76, 77] (by decide +kernel) (by decide +kernel)
set_option maxRecDepth 20000 in
theorem gX7_log_X7_found : GoodIn wsX7_log (wsV RX7 78 RX7 yX7_found wsX7_found) := goodIn_app (goodIn_of _ (by decide +kernel)) ggX7_log_X7_found
set_option maxRecDepth 20000 in
theorem ggX7_log_X3_read : GoodIn wsX7_log wsX3_read := goodIn_r _ [33, 34, 35, 36, 37, 38, 39, 40, 41, 42, 43, 44, 45, 46, 32, 47, 48, 10, 7, 11, 49, 50, 51, 52, 53, 54, 55, 56, 57, 58, 59, 82, 83, 84, 85, 86, 87, 88, 89] (by decide +kernel) (by decide +kernel)
set_option maxRecDepth 20000 in
theorem gX7_log_X3_read : GoodIn wsX7_log (wsV RX7 197 RX3 yX3_read wsX3_read) := goodIn_app (goodIn_of _ (by decide +kernel)) ggX7_log_X3_read
set_option maxRecDepth 20000 in
theorem ggX7_log_X3_told : GoodIn wsX7_log wsX3_told := goodIn_r _ [63, 36, 37, 38, 39, 34, 64, 10, 7, 11, 82, 83, 84, 85, 86, 87] (by decide +kernel) (by decide +kernel)
set_option maxRecDepth 20000 in
theorem gX7_log_X3_told : GoodIn wsX7_log (wsV RX7 200 RX3 yX3_told wsX3_told) := goodIn_app (goodIn_of _ (by decide +kernel)) ggX7_log_X3_told
set_option maxRecDepth 20000 in
theorem ggX7_log_X7_fine : GoodIn wsX7_log wsX7_fine := goodIn_r _ [68, 27, 69, 70, 71, 72, 73, 74, 75, 76, 77] (by decide +kernel) (by decide +kernel)
set_option maxRecDepth 20000 in
theorem gX7_log_X7_fine : GoodIn wsX7_log (wsV RX7 86 RX7 yX7_fine wsX7_fine) := goodIn_app (goodIn_of _ (by decide +kernel)) ggX7_log_X7_fine
theorem dX7_log_0 : decode cX7_log 0 = .ok (.iload_n 1, 1) := by decide +kernel
theorem dX7_log_1 : decode cX7_log 1 = .ok (.invokestatic 69, 3) := by decide +kernel
theorem dX7_log_4 : decode cX7_log 4 = .ok (.ifCond .eq 35, 3) := by decide +kernel
theorem dX7_log_7 : decode cX7_log 7 = .ok (.iload_n 3, 1) := by decide +kernel
theorem dX7_log_8 : decode cX7_log 8 = .ok (.iconst 1, 1) := by decide +kernel
theorem dX7_log_9 : decode cX7_log 9 = .ok (.bipush 20, 2) := by decide +kernel
theorem dX7_log_11 : decode cX7_log 11 = .ok (.invokestatic 73, 3) := by decide +kernel
theorem dX7_log_14 : decode cX7_log 14 = .ok (.ifCond .eq 25, 3) := by decide +kernel
theorem dX7_log_17 : decode cX7_log 17 = .ok (.iload 4, 2) := by decide +kernel
theorem dX7_log_19 : decode cX7_log 19 = .ok (.iconst 0, 1) := by decide +kernel
theorem dX7_log_20 : decode cX7_log 20 = .ok (.iconst 3, 1) := by decide +kernel
theorem dX7_log_21 : decode cX7_log 21 = .ok (.invokestatic 73, 3) := by decide +kernel
theorem dX7_log_24 : decode cX7_log 24 = .ok (.ifCond .ne 18, 3) := by decide +kernel
theorem dX7_log_27 : decode cX7_log 27 = .ok (.iload 4, 2) := by decide +kernel
theorem dX7_log_29 : decode cX7_log 29 = .ok (.bipush 10, 2) := by decide +kernel
theorem dX7_log_31 : decode cX7_log 31 = .ok (.bipush 18, 2) := by decide +kernel
theorem dX7_log_33 : decode cX7_log 33 = .ok (.invokestatic 73, 3) := by decide +kernel
theorem dX7_log_36 : decode cX7_log 36 = .ok (.ifCond .ne 6, 3) := by decide +kernel
theorem dX7_log_39 : decode cX7_log 39 = .ok (.ldc 77, 2) := by decide +kernel
theorem dX7_log_41 : decode cX7_log 41 = .ok (.ireturn, 1) := by decide +kernel
theorem dX7_log_42 : decode cX7_log 42 = .ok (.aload_n 0, 1) := by decide +kernel
theorem dX7_log_43 : decode cX7_log 43 = .ok (.iload_n 1, 1) := by decide +kernel
theorem dX7_log_44 : decode cX7_log 44 = .ok (.iload_n 2, 1) := by decide +kernel
theorem dX7_log_45 : decode cX7_log 45 = .ok (.iload_n 3, 1) := by decide +kernel
theorem dX7_log_46 : decode cX7_log 46 = .ok (.invokevirtual 194, 3) := by decide +kernel
theorem dX7_log_49 : decode cX7_log 49 = .ok (.istore 5, 2) := by decide +kernel
theorem dX7_log_51 : decode cX7_log 51 = .ok (.iload 5, 2) := by decide +kernel
theorem dX7_log_53 : decode cX7_log 53 = .ok (.ifCond .eq 10, 3) := by decide +kernel
theorem dX7_log_56 : decode cX7_log 56 = .ok (.aload_n 0, 1) := by decide +kernel
theorem dX7_log_57 : decode cX7_log 57 = .ok (.iload 5, 2) := by decide +kernel
theorem dX7_log_59 : decode cX7_log 59 = .ok (.invokevirtual 78, 3) := by decide +kernel
theorem dX7_log_62 : decode cX7_log 62 = .ok (.ireturn, 1) := by decide +kernel
theorem dX7_log_63 : decode cX7_log 63 = .ok (.aload_n 0, 1) := by decide +kernel
theorem dX7_log_64 : decode cX7_log 64 = .ok (.getfield 55, 3) := by decide +kernel
theorem dX7_log_67 : decode cX7_log 67 = .ok (.aload_n 0, 1) := by decide +kernel
theorem dX7_log_68 : decode cX7_log 68 = .ok (.getfield 11, 3) := by decide +kernel
theorem dX7_log_71 : decode cX7_log 71 = .ok (.iload_n 1, 1) := by decide +kernel
theorem dX7_log_72 : decode cX7_log 72 = .ok (.aaload, 1) := by decide +kernel
theorem dX7_log_73 : decode cX7_log 73 = .ok (.getfield 97, 3) := by decide +kernel
theorem dX7_log_76 : decode cX7_log 76 = .ok (.iload_n 2, 1) := by decide +kernel
theorem dX7_log_77 : decode cX7_log 77 = .ok (.iload_n 3, 1) := by decide +kernel
theorem dX7_log_78 : decode cX7_log 78 = .ok (.invokevirtual 197, 3) := by decide +kernel
theorem dX7_log_81 : decode cX7_log 81 = .ok (.aload_n 0, 1) := by decide +kernel
theorem dX7_log_82 : decode cX7_log 82 = .ok (.aload_n 0, 1) := by decide +kernel
theorem dX7_log_83 : decode cX7_log 83 = .ok (.getfield 55, 3) := by decide +kernel
theorem dX7_log_86 : decode cX7_log 86 = .ok (.iload 4, 2) := by decide +kernel
theorem dX7_log_88 : decode cX7_log 88 = .ok (.invokevirtual 200, 3) := by decide +kernel
theorem dX7_log_91 : decode cX7_log 91 = .ok (.invokevirtual 86, 3) := by decide +kernel
theorem dX7_log_94 : decode cX7_log 94 = .ok (.ireturn, 1) := by decide +kernel
set_option maxRecDepth 20000 in
theorem ggX7_learn_X7_isSheet : GoodIn wsX7_learn wsX7_isSheet := goodIn_r _ [15, 16, 17, 14, 18] (by decide +kernel) (by decide +kernel)
set_option maxRecDepth 20000 in
theorem gX7_learn_X7_isSheet : GoodIn wsX7_learn (va_wsS RX7 69 yX7_isSheet wsX7_isSheet) := goodIn_app (goodIn_of _ (by decide +kernel)) ggX7_learn_X7_isSheet
set_option maxRecDepth 20000 in
theorem ggX7_learn_X7_within : GoodIn wsX7_learn wsX7_within := goodIn_r _ [18] (by decide +kernel) (by decide +kernel)
set_option maxRecDepth 20000 in
theorem gX7_learn_X7_within : GoodIn wsX7_learn (va_wsS RX7 73 yX7_within wsX7_within) := goodIn_app (goodIn_of _ (by decide +kernel)) ggX7_learn_X7_within
set_option maxRecDepth 20000 in
theorem ggX7_learn_X7_isChance : GoodIn wsX7_learn wsX7_isChance := goodIn_r _ [21, 16, 17, 14, 18] (by decide +kernel) (by decide +kernel)
set_option maxRecDepth 20000 in
theorem gX7_learn_X7_isChance : GoodIn wsX7_learn (va_wsS RX7 123 yX7_isChance wsX7_isChance) := goodIn_app (goodIn_of _ (by decide +kernel)) ggX7_learn_X7_isChance
set_option maxRecDepth 20000 in
theorem ggX7_learn_X7_findingOfLog : GoodIn wsX7_learn wsX7_findingOfLog := goodIn_r _ [25, 5, 26, 27, 28, 29, 30, 31, 32, 88, 89, 90, 91, 92, 93, 94, 95, 96, 97, 98, 99, 100] (by decide +kernel) (by decide +kernel)
set_option maxRecDepth 20000 in
theorem gX7_learn_X7_findingOfLog : GoodIn wsX7_learn (wsV RX7 194 RX7 yX7_findingOfLog wsX7_findingOfLog) := goodIn_app (goodIn_of _ (by decide +kernel)) ggX7_learn_X7_findingOfLog
set_option maxRecDepth 20000 in
theorem ggX7_learn_X7_found : GoodIn wsX7_learn wsX7_found := goodIn_r _ [36, 37, 38, 88, 89, 90, 91, 92, 93, 94, 95, 96] (by decide +kernel) (by decide +kernel)
set_option maxRecDepth 20000 in
theorem gX7_learn_X7_found : GoodIn wsX7_learn (wsV RX7 78 RX7 yX7_found wsX7_found) := goodIn_app (goodIn_of _ (by decide +kernel)) ggX7_learn_X7_found
set_option maxRecDepth 20000 in
theorem ggX7_learn_X3_read : GoodIn wsX7_learn wsX3_read := goodIn_r _ [43, 44, 45, 46, 47, 48, 49, 50, 51, 52, 53, 54, 55, 56, 42, 57, 58, 17, 14, 18, 59, 60, 61, 62, 63, 64, 65, 66, 67, 68, 69, 103, 104, 105, 106, 107, 108, 109, 110] (by decide +kernel) (by decide +kernel)
set_option maxRecDepth 20000 in
theorem gX7_learn_X3_read : GoodIn wsX7_learn (wsV RX7 197 RX3 yX3_read wsX3_read) := goodIn_app (goodIn_of _ (by decide +kernel)) ggX7_learn_X3_read
set_option maxRecDepth 20000 in
theorem ggX7_learn_X3_howManyStrikes : GoodIn wsX7_learn wsX3_howManyStrikes := goodIn_r _ [73, 44, 103, 104, 105, 106, 107, 108] (by decide +kernel) (by decide +kernel)
set_option maxRecDepth 20000 in
theorem gX7_learn_X3_howManyStrikes : GoodIn wsX7_learn (wsV RX7 202 RX3 yX3_howManyStrikes wsX3_howManyStrikes) := goodIn_app (goodIn_of _ (by decide +kernel)) ggX7_learn_X3_howManyStrikes
set_option maxRecDepth 20000 in
theorem ggX7_learn_X6_giveTheRestToOut : GoodIn wsX7_learn wsX6_giveTheRestToOut := goodIn_r _ [78, 79, 101, 102] (by decide +kernel) (by decide +kernel)
set_option maxRecDepth 20000 in
theorem gX7_learn_X6_giveTheRestToOut : GoodIn wsX7_learn (wsV RX7 130 RX6 yX6_giveTheRestToOut wsX6_giveTheRestToOut) := goodIn_app (goodIn_of _ (by decide +kernel)) ggX7_learn_X6_giveTheRestToOut
set_option maxRecDepth 20000 in
theorem ggX7_learn_X7_admitted : GoodIn wsX7_learn wsX7_admitted := goodIn_r _ [83, 2, 88, 89, 90, 91, 92, 93, 94, 95, 96] (by decide +kernel) (by decide +kernel)
set_option maxRecDepth 20000 in
theorem gX7_learn_X7_admitted : GoodIn wsX7_learn (wsV RX7 136 RX7 yX7_admitted wsX7_admitted) := goodIn_app (goodIn_of _ (by decide +kernel)) ggX7_learn_X7_admitted
set_option maxRecDepth 20000 in
theorem ggX7_learn_X7_fine : GoodIn wsX7_learn wsX7_fine := goodIn_r _ [87, 37, 88, 89, 90, 91, 92, 93, 94, 95, 96] (by decide +kernel) (by decide +kernel)
set_option maxRecDepth 20000 in
theorem gX7_learn_X7_fine : GoodIn wsX7_learn (wsV RX7 86 RX7 yX7_fine wsX7_fine) := goodIn_app (goodIn_of _ (by decide +kernel)) ggX7_learn_X7_fine
theorem dX7_learn_0 : decode cX7_learn 0 = .ok (.iload_n 1, 1) := by decide +kernel
theorem dX7_learn_1 : decode cX7_learn 1 = .ok (.invokestatic 69, 3) := by decide +kernel
theorem dX7_learn_4 : decode cX7_learn 4 = .ok (.ifCond .eq 21, 3) := by decide +kernel
theorem dX7_learn_7 : decode cX7_learn 7 = .ok (.iload_n 3, 1) := by decide +kernel
theorem dX7_learn_8 : decode cX7_learn 8 = .ok (.iconst 1, 1) := by decide +kernel
theorem dX7_learn_9 : decode cX7_learn 9 = .ok (.bipush 20, 2) := by decide +kernel
theorem dX7_learn_11 : decode cX7_learn 11 = .ok (.invokestatic 73, 3) := by decide +kernel
theorem dX7_learn_14 : decode cX7_learn 14 = .ok (.ifCond .eq 11, 3) := by decide +kernel
theorem dX7_learn_17 : decode cX7_learn 17 = .ok (.iload 4, 2) := by decide +kernel
theorem dX7_learn_19 : decode cX7_learn 19 = .ok (.invokestatic 123, 3) := by decide +kernel
theorem dX7_learn_22 : decode cX7_learn 22 = .ok (.ifCond .ne 6, 3) := by decide +kernel
theorem dX7_learn_25 : decode cX7_learn 25 = .ok (.ldc 77, 2) := by decide +kernel
theorem dX7_learn_27 : decode cX7_learn 27 = .ok (.ireturn, 1) := by decide +kernel
theorem dX7_learn_28 : decode cX7_learn 28 = .ok (.aload_n 0, 1) := by decide +kernel
theorem dX7_learn_29 : decode cX7_learn 29 = .ok (.getfield 23, 3) := by decide +kernel
theorem dX7_learn_32 : decode cX7_learn 32 = .ok (.bipush 12, 2) := by decide +kernel
theorem dX7_learn_34 : decode cX7_learn 34 = .ok (.if_icmp .lt 6, 3) := by decide +kernel
theorem dX7_learn_37 : decode cX7_learn 37 = .ok (.ldc 126, 2) := by decide +kernel
theorem dX7_learn_39 : decode cX7_learn 39 = .ok (.ireturn, 1) := by decide +kernel
theorem dX7_learn_40 : decode cX7_learn 40 = .ok (.aload_n 0, 1) := by decide +kernel
theorem dX7_learn_41 : decode cX7_learn 41 = .ok (.iload_n 1, 1) := by decide +kernel
theorem dX7_learn_42 : decode cX7_learn 42 = .ok (.iload_n 2, 1) := by decide +kernel
theorem dX7_learn_43 : decode cX7_learn 43 = .ok (.iload_n 3, 1) := by decide +kernel
theorem dX7_learn_44 : decode cX7_learn 44 = .ok (.invokevirtual 194, 3) := by decide +kernel
theorem dX7_learn_47 : decode cX7_learn 47 = .ok (.istore 5, 2) := by decide +kernel
theorem dX7_learn_49 : decode cX7_learn 49 = .ok (.iload 5, 2) := by decide +kernel
theorem dX7_learn_51 : decode cX7_learn 51 = .ok (.ifCond .eq 10, 3) := by decide +kernel
theorem dX7_learn_54 : decode cX7_learn 54 = .ok (.aload_n 0, 1) := by decide +kernel
theorem dX7_learn_55 : decode cX7_learn 55 = .ok (.iload 5, 2) := by decide +kernel
theorem dX7_learn_57 : decode cX7_learn 57 = .ok (.invokevirtual 78, 3) := by decide +kernel
theorem dX7_learn_60 : decode cX7_learn 60 = .ok (.ireturn, 1) := by decide +kernel
theorem dX7_learn_61 : decode cX7_learn 61 = .ok (.aload_n 0, 1) := by decide +kernel
theorem dX7_learn_62 : decode cX7_learn 62 = .ok (.getfield 55, 3) := by decide +kernel
theorem dX7_learn_65 : decode cX7_learn 65 = .ok (.aload_n 0, 1) := by decide +kernel
theorem dX7_learn_66 : decode cX7_learn 66 = .ok (.getfield 11, 3) := by decide +kernel
theorem dX7_learn_69 : decode cX7_learn 69 = .ok (.iload_n 1, 1) := by decide +kernel
theorem dX7_learn_70 : decode cX7_learn 70 = .ok (.aaload, 1) := by decide +kernel
theorem dX7_learn_71 : decode cX7_learn 71 = .ok (.getfield 97, 3) := by decide +kernel
theorem dX7_learn_74 : decode cX7_learn 74 = .ok (.iload_n 2, 1) := by decide +kernel
theorem dX7_learn_75 : decode cX7_learn 75 = .ok (.iload_n 3, 1) := by decide +kernel
theorem dX7_learn_76 : decode cX7_learn 76 = .ok (.invokevirtual 197, 3) := by decide +kernel
theorem dX7_learn_79 : decode cX7_learn 79 = .ok (.aload_n 0, 1) := by decide +kernel
theorem dX7_learn_80 : decode cX7_learn 80 = .ok (.getfield 55, 3) := by decide +kernel
theorem dX7_learn_83 : decode cX7_learn 83 = .ok (.invokevirtual 202, 3) := by decide +kernel
theorem dX7_learn_86 : decode cX7_learn 86 = .ok (.istore 6, 2) := by decide +kernel
theorem dX7_learn_88 : decode cX7_learn 88 = .ok (.iload 6, 2) := by decide +kernel
theorem dX7_learn_90 : decode cX7_learn 90 = .ok (.ifCond .ne 6, 3) := by decide +kernel
theorem dX7_learn_93 : decode cX7_learn 93 = .ok (.ldc 146, 2) := by decide +kernel
theorem dX7_learn_95 : decode cX7_learn 95 = .ok (.ireturn, 1) := by decide +kernel
theorem dX7_learn_96 : decode cX7_learn 96 = .ok (.aload_n 0, 1) := by decide +kernel
theorem dX7_learn_97 : decode cX7_learn 97 = .ok (.getfield 18, 3) := by decide +kernel
theorem dX7_learn_100 : decode cX7_learn 100 = .ok (.aload_n 0, 1) := by decide +kernel
theorem dX7_learn_101 : decode cX7_learn 101 = .ok (.getfield 23, 3) := by decide +kernel
theorem dX7_learn_104 : decode cX7_learn 104 = .ok (.aaload, 1) := by decide +kernel
theorem dX7_learn_105 : decode cX7_learn 105 = .ok (.astore 7, 2) := by decide +kernel
theorem dX7_learn_107 : decode cX7_learn 107 = .ok (.iconst 1, 1) := by decide +kernel
theorem dX7_learn_108 : decode cX7_learn 108 = .ok (.istore 8, 2) := by decide +kernel
theorem dX7_learn_110 : decode cX7_learn 110 = .ok (.iload 8, 2) := by decide +kernel
theorem dX7_learn_112 : decode cX7_learn 112 = .ok (.iconst 5, 1) := by decide +kernel
theorem dX7_learn_113 : decode cX7_learn 113 = .ok (.if_icmp .gt 34, 3) := by decide +kernel
theorem dX7_learn_116 : decode cX7_learn 116 = .ok (.aload 7, 2) := by decide +kernel
theorem dX7_learn_118 : decode cX7_learn 118 = .ok (.getfield 127, 3) := by decide +kernel
theorem dX7_learn_121 : decode cX7_learn 121 = .ok (.iload 8, 2) := by decide +kernel
theorem dX7_learn_123 : decode cX7_learn 123 = .ok (.aload_n 0, 1) := by decide +kernel
theorem dX7_learn_124 : decode cX7_learn 124 = .ok (.getfield 55, 3) := by decide +kernel
theorem dX7_learn_127 : decode cX7_learn 127 = .ok (.getfield 205, 3) := by decide +kernel
theorem dX7_learn_130 : decode cX7_learn 130 = .ok (.iload 8, 2) := by decide +kernel
theorem dX7_learn_132 : decode cX7_learn 132 = .ok (.iaload, 1) := by decide +kernel
theorem dX7_learn_133 : decode cX7_learn 133 = .ok (.sipush 1000, 3) := by decide +kernel
theorem dX7_learn_136 : decode cX7_learn 136 = .ok (.imul, 1) := by decide +kernel
theorem dX7_learn_137 : decode cX7_learn 137 = .ok (.iload 6, 2) := by decide +kernel
theorem dX7_learn_139 : decode cX7_learn 139 = .ok (.idiv, 1) := by decide +kernel
theorem dX7_learn_140 : decode cX7_learn 140 = .ok (.iastore, 1) := by decide +kernel
theorem dX7_learn_141 : decode cX7_learn 141 = .ok (.iinc 8 1, 3) := by decide +kernel
theorem dX7_learn_144 : decode cX7_learn 144 = .ok (.goto (-34), 3) := by decide +kernel
theorem dX7_learn_147 : decode cX7_learn 147 = .ok (.aload 7, 2) := by decide +kernel
theorem dX7_learn_149 : decode cX7_learn 149 = .ok (.invokevirtual 130, 3) := by decide +kernel
theorem dX7_learn_152 : decode cX7_learn 152 = .ok (.aload 7, 2) := by decide +kernel
theorem dX7_learn_154 : decode cX7_learn 154 = .ok (.iload 4, 2) := by decide +kernel
theorem dX7_learn_156 : decode cX7_learn 156 = .ok (.putfield 133, 3) := by decide +kernel
theorem dX7_learn_159 : decode cX7_learn 159 = .ok (.aload_n 0, 1) := by decide +kernel
theorem dX7_learn_160 : decode cX7_learn 160 = .ok (.aload_n 0, 1) := by decide +kernel
theorem dX7_learn_161 : decode cX7_learn 161 = .ok (.invokevirtual 136, 3) := by decide +kernel
theorem dX7_learn_164 : decode cX7_learn 164 = .ok (.invokevirtual 86, 3) := by decide +kernel
theorem dX7_learn_167 : decode cX7_learn 167 = .ok (.ireturn, 1) := by decide +kernel
set_option maxRecDepth 20000 in
theorem ggX7_kind_X7_isStriker : GoodIn wsX7_kind wsX7_isStriker := goodIn_r _ [7, 8, 9, 10, 6, 11, 19, 20, 21, 22, 23, 24, 25, 26, 27] (by decide +kernel) (by decide +kernel)
set_option maxRecDepth 20000 in
theorem gX7_kind_X7_isStriker : GoodIn wsX7_kind (wsV RX7 140 RX7 yX7_isStriker wsX7_isStriker) := goodIn_app (goodIn_of _ (by decide +kernel)) ggX7_kind_X7_isStriker
set_option maxRecDepth 20000 in
theorem ggX7_kind_X6_toldKind : GoodIn wsX7_kind wsX6_toldKind := goodIn_r _ [16, 17, 18, 28, 29] (by decide +kernel) (by decide +kernel)
set_option maxRecDepth 20000 in
theorem gX7_kind_X6_toldKind : GoodIn wsX7_kind (wsV RX7 208 RX6 yX6_toldKind wsX6_toldKind) := goodIn_app (goodIn_of _ (by decide +kernel)) ggX7_kind_X6_toldKind
theorem dX7_kind_0 : decode cX7_kind 0 = .ok (.aload_n 0, 1) := by decide +kernel
theorem dX7_kind_1 : decode cX7_kind 1 = .ok (.iload_n 1, 1) := by decide +kernel
theorem dX7_kind_2 : decode cX7_kind 2 = .ok (.invokevirtual 140, 3) := by decide +kernel
theorem dX7_kind_5 : decode cX7_kind 5 = .ok (.ifCond .eq 15, 3) := by decide +kernel
theorem dX7_kind_8 : decode cX7_kind 8 = .ok (.aload_n 0, 1) := by decide +kernel
theorem dX7_kind_9 : decode cX7_kind 9 = .ok (.getfield 18, 3) := by decide +kernel
theorem dX7_kind_12 : decode cX7_kind 12 = .ok (.iload_n 1, 1) := by decide +kernel
theorem dX7_kind_13 : decode cX7_kind 13 = .ok (.aaload, 1) := by decide +kernel
theorem dX7_kind_14 : decode cX7_kind 14 = .ok (.invokevirtual 208, 3) := by decide +kernel
theorem dX7_kind_17 : decode cX7_kind 17 = .ok (.goto 5, 3) := by decide +kernel
theorem dX7_kind_20 : decode cX7_kind 20 = .ok (.ldc 77, 2) := by decide +kernel
theorem dX7_kind_22 : decode cX7_kind 22 = .ok (.ireturn, 1) := by decide +kernel
set_option maxRecDepth 20000 in
theorem ggX7_as_X7_isStriker : GoodIn wsX7_as wsX7_isStriker := goodIn_r _ [8, 9, 10, 11, 7, 12, 34, 35, 36, 37, 38, 39, 40, 41, 42] (by decide +kernel) (by decide +kernel)
set_option maxRecDepth 20000 in
theorem gX7_as_X7_isStriker : GoodIn wsX7_as (wsV RX7 140 RX7 yX7_isStriker wsX7_isStriker) := goodIn_app (goodIn_of _ (by decide +kernel)) ggX7_as_X7_isStriker
set_option maxRecDepth 20000 in
theorem ggX7_as_X7_within : GoodIn wsX7_as wsX7_within := goodIn_r _ [12] (by decide +kernel) (by decide +kernel)
set_option maxRecDepth 20000 in
theorem gX7_as_X7_within : GoodIn wsX7_as (va_wsS RX7 73 yX7_within wsX7_within) := goodIn_app (goodIn_of _ (by decide +kernel)) ggX7_as_X7_within
set_option maxRecDepth 20000 in
theorem ggX7_as_X6_isOne : GoodIn wsX7_as wsX6_isOne := goodIn_r _ [17, 18, 19, 20, 16, 21, 22, 23, 43, 44] (by decide +kernel) (by decide +kernel)
set_option maxRecDepth 20000 in
theorem gX7_as_X6_isOne : GoodIn wsX7_as (wsV RX7 211 RX6 yX6_isOne wsX6_isOne) := goodIn_app (goodIn_of _ (by decide +kernel)) ggX7_as_X6_isOne
set_option maxRecDepth 20000 in
theorem ggX7_as_X7_found : GoodIn wsX7_as wsX7_found := goodIn_r _ [27, 28, 29, 34, 35, 36, 37, 38, 39, 40, 41, 42] (by decide +kernel) (by decide +kernel)
set_option maxRecDepth 20000 in
theorem gX7_as_X7_found : GoodIn wsX7_as (wsV RX7 78 RX7 yX7_found wsX7_found) := goodIn_app (goodIn_of _ (by decide +kernel)) ggX7_as_X7_found
set_option maxRecDepth 20000 in
theorem ggX7_as_X7_fine : GoodIn wsX7_as wsX7_fine := goodIn_r _ [33, 28, 34, 35, 36, 37, 38, 39, 40, 41, 42] (by decide +kernel) (by decide +kernel)
set_option maxRecDepth 20000 in
theorem gX7_as_X7_fine : GoodIn wsX7_as (wsV RX7 86 RX7 yX7_fine wsX7_fine) := goodIn_app (goodIn_of _ (by decide +kernel)) ggX7_as_X7_fine
theorem dX7_as_0 : decode cX7_as 0 = .ok (.aload_n 0, 1) := by decide +kernel
theorem dX7_as_1 : decode cX7_as 1 = .ok (.iload_n 1, 1) := by decide +kernel
theorem dX7_as_2 : decode cX7_as 2 = .ok (.invokevirtual 140, 3) := by decide +kernel
theorem dX7_as_5 : decode cX7_as 5 = .ok (.ifCond .eq 12, 3) := by decide +kernel
theorem dX7_as_8 : decode cX7_as 8 = .ok (.iload_n 2, 1) := by decide +kernel
theorem dX7_as_9 : decode cX7_as 9 = .ok (.iconst 0, 1) := by decide +kernel
theorem dX7_as_10 : decode cX7_as 10 = .ok (.iconst 3, 1) := by decide +kernel
theorem dX7_as_11 : decode cX7_as 11 = .ok (.invokestatic 73, 3) := by decide +kernel
theorem dX7_as_14 : decode cX7_as 14 = .ok (.ifCond .ne 6, 3) := by decide +kernel
theorem dX7_as_17 : decode cX7_as 17 = .ok (.ldc 77, 2) := by decide +kernel
theorem dX7_as_19 : decode cX7_as 19 = .ok (.ireturn, 1) := by decide +kernel
theorem dX7_as_20 : decode cX7_as 20 = .ok (.aload_n 0, 1) := by decide +kernel
theorem dX7_as_21 : decode cX7_as 21 = .ok (.getfield 18, 3) := by decide +kernel
theorem dX7_as_24 : decode cX7_as 24 = .ok (.iload_n 1, 1) := by decide +kernel
theorem dX7_as_25 : decode cX7_as 25 = .ok (.aaload, 1) := by decide +kernel
theorem dX7_as_26 : decode cX7_as 26 = .ok (.iload_n 2, 1) := by decide +kernel
theorem dX7_as_27 : decode cX7_as 27 = .ok (.invokevirtual 211, 3) := by decide +kernel
theorem dX7_as_30 : decode cX7_as 30 = .ok (.ifCond .ne 9, 3) := by decide +kernel
theorem dX7_as_33 : decode cX7_as 33 = .ok (.aload_n 0, 1) := by decide +kernel
theorem dX7_as_34 : decode cX7_as 34 = .ok (.iconst 3, 1) := by decide +kernel
theorem dX7_as_35 : decode cX7_as 35 = .ok (.invokevirtual 78, 3) := by decide +kernel
theorem dX7_as_38 : decode cX7_as 38 = .ok (.ireturn, 1) := by decide +kernel
theorem dX7_as_39 : decode cX7_as 39 = .ok (.aload_n 0, 1) := by decide +kernel
theorem dX7_as_40 : decode cX7_as 40 = .ok (.aload_n 0, 1) := by decide +kernel
theorem dX7_as_41 : decode cX7_as 41 = .ok (.getfield 18, 3) := by decide +kernel
theorem dX7_as_44 : decode cX7_as 44 = .ok (.iload_n 1, 1) := by decide +kernel
theorem dX7_as_45 : decode cX7_as 45 = .ok (.aaload, 1) := by decide +kernel
theorem dX7_as_46 : decode cX7_as 46 = .ok (.getfield 127, 3) := by decide +kernel
theorem dX7_as_49 : decode cX7_as 49 = .ok (.iconst 0, 1) := by decide +kernel
theorem dX7_as_50 : decode cX7_as 50 = .ok (.iaload, 1) := by decide +kernel
theorem dX7_as_51 : decode cX7_as 51 = .ok (.invokevirtual 86, 3) := by decide +kernel
theorem dX7_as_54 : decode cX7_as 54 = .ok (.ireturn, 1) := by decide +kernel
set_option maxRecDepth 20000 in
theorem ggX7_ask_X7_isStriker : GoodIn wsX7_ask wsX7_isStriker := goodIn_r _ [9, 10, 11, 12, 8, 13, 70, 71, 72, 73, 74, 75, 76, 77, 78] (by decide +kernel) (by decide +kernel)
set_option maxRecDepth 20000 in
theorem gX7_ask_X7_isStriker : GoodIn wsX7_ask (wsV RX7 140 RX7 yX7_isStriker wsX7_isStriker) := goodIn_app (goodIn_of _ (by decide +kernel)) ggX7_ask_X7_isStriker
set_option maxRecDepth 20000 in
theorem ggX7_ask_X7_within : GoodIn wsX7_ask wsX7_within := goodIn_r _ [13] (by decide +kernel) (by decide +kernel)
set_option maxRecDepth 20000 in
theorem gX7_ask_X7_within : GoodIn wsX7_ask (va_wsS RX7 73 yX7_within wsX7_within) := goodIn_app (goodIn_of _ (by decide +kernel)) ggX7_ask_X7_within
set_option maxRecDepth 20000 in
theorem ggX7_ask_X0_sizeOf : GoodIn wsX7_ask wsX0_sizeOf := goodIn_r _ [17, 18, 19, 20, 21, 22, 23, 24, 25, 26, 27, 15, 28, 29, 30, 31, 32, 33, 34, 35, 36, 37, 38, 39, 40, 41, 42, 43, 44, 45, 46, 47, 48, 49, 50, 51, 52, 53, 54, 55, 56, 57, 58, 59, 60, 61, 62, 63, 64, 65, 14, 16, 66, 67, 68, 69, 81, 82, 79, 80] (by decide +kernel) (by decide +kernel)
set_option maxRecDepth 20000 in
theorem gX7_ask_X0_sizeOf_n217 : GoodIn wsX7_ask (wsX0_sizeOf) := ggX7_ask_X0_sizeOf
set_option maxRecDepth 20000 in
theorem ggX7_ask_X0_markOf : GoodIn wsX7_ask wsX0_markOf := goodIn_r _ [48, 18, 19, 20, 21, 22, 23, 24, 49, 50, 51, 15, 52, 53, 54, 55, 29, 30, 31, 32, 33, 34, 56, 57, 58, 59, 39, 60, 61, 62, 63, 64, 65, 14, 16, 17, 25, 26, 27, 28, 35, 36, 37, 38, 40, 41, 42, 43, 44, 45, 46, 47, 66, 67, 68, 69, 81, 82, 79, 80] (by decide +kernel) (by decide +kernel)
set_option maxRecDepth 20000 in
theorem gX7_ask_X0_markOf_n221 : GoodIn wsX7_ask (wsX0_markOf) := ggX7_ask_X0_markOf
theorem dX7_ask_0 : decode cX7_ask 0 = .ok (.aload_n 0, 1) := by decide +kernel
theorem dX7_ask_1 : decode cX7_ask 1 = .ok (.iload_n 1, 1) := by decide +kernel
theorem dX7_ask_2 : decode cX7_ask 2 = .ok (.invokevirtual 140, 3) := by decide +kernel
theorem dX7_ask_5 : decode cX7_ask 5 = .ok (.ifCond .eq 12, 3) := by decide +kernel
theorem dX7_ask_8 : decode cX7_ask 8 = .ok (.iload_n 2, 1) := by decide +kernel
theorem dX7_ask_9 : decode cX7_ask 9 = .ok (.iconst 0, 1) := by decide +kernel
theorem dX7_ask_10 : decode cX7_ask 10 = .ok (.iconst 1, 1) := by decide +kernel
theorem dX7_ask_11 : decode cX7_ask 11 = .ok (.invokestatic 73, 3) := by decide +kernel
theorem dX7_ask_14 : decode cX7_ask 14 = .ok (.ifCond .ne 6, 3) := by decide +kernel
theorem dX7_ask_17 : decode cX7_ask 17 = .ok (.ldc 77, 2) := by decide +kernel
theorem dX7_ask_19 : decode cX7_ask 19 = .ok (.ireturn, 1) := by decide +kernel
theorem dX7_ask_20 : decode cX7_ask 20 = .ok (.aload_n 0, 1) := by decide +kernel
theorem dX7_ask_21 : decode cX7_ask 21 = .ok (.getfield 62, 3) := by decide +kernel
theorem dX7_ask_24 : decode cX7_ask 24 = .ok (.iconst 0, 1) := by decide +kernel
theorem dX7_ask_25 : decode cX7_ask 25 = .ok (.putfield 214, 3) := by decide +kernel
theorem dX7_ask_28 : decode cX7_ask 28 = .ok (.iload_n 2, 1) := by decide +kernel
theorem dX7_ask_29 : decode cX7_ask 29 = .ok (.ifCond .ne 20, 3) := by decide +kernel
theorem dX7_ask_32 : decode cX7_ask 32 = .ok (.aload_n 0, 1) := by decide +kernel
theorem dX7_ask_33 : decode cX7_ask 33 = .ok (.getfield 62, 3) := by decide +kernel
theorem dX7_ask_36 : decode cX7_ask 36 = .ok (.aload_n 0, 1) := by decide +kernel
theorem dX7_ask_37 : decode cX7_ask 37 = .ok (.getfield 18, 3) := by decide +kernel
theorem dX7_ask_40 : decode cX7_ask 40 = .ok (.iload_n 1, 1) := by decide +kernel
theorem dX7_ask_41 : decode cX7_ask 41 = .ok (.aaload, 1) := by decide +kernel
theorem dX7_ask_42 : decode cX7_ask 42 = .ok (.iconst 0, 1) := by decide +kernel
theorem dX7_ask_43 : decode cX7_ask 43 = .ok (.invokevirtual 217, 3) := by decide +kernel
theorem dX7_ask_46 : decode cX7_ask 46 = .ok (.goto 17, 3) := by decide +kernel
theorem dX7_ask_49 : decode cX7_ask 49 = .ok (.aload_n 0, 1) := by decide +kernel
theorem dX7_ask_50 : decode cX7_ask 50 = .ok (.getfield 62, 3) := by decide +kernel
theorem dX7_ask_53 : decode cX7_ask 53 = .ok (.aload_n 0, 1) := by decide +kernel
theorem dX7_ask_54 : decode cX7_ask 54 = .ok (.getfield 18, 3) := by decide +kernel
theorem dX7_ask_57 : decode cX7_ask 57 = .ok (.iload_n 1, 1) := by decide +kernel
theorem dX7_ask_58 : decode cX7_ask 58 = .ok (.aaload, 1) := by decide +kernel
theorem dX7_ask_59 : decode cX7_ask 59 = .ok (.iconst 0, 1) := by decide +kernel
theorem dX7_ask_60 : decode cX7_ask 60 = .ok (.invokevirtual 221, 3) := by decide +kernel
theorem dX7_ask_63 : decode cX7_ask 63 = .ok (.ireturn, 1) := by decide +kernel
set_option maxRecDepth 20000 in
theorem ggX7_trace_X7_within : GoodIn wsX7_trace wsX7_within := goodIn_r _ [8] (by decide +kernel) (by decide +kernel)
set_option maxRecDepth 20000 in
theorem gX7_trace_X7_within : GoodIn wsX7_trace (va_wsS RX7 73 yX7_within wsX7_within) := goodIn_app (goodIn_of _ (by decide +kernel)) ggX7_trace_X7_within
theorem dX7_trace_0 : decode cX7_trace 0 = .ok (.iload_n 1, 1) := by decide +kernel
theorem dX7_trace_1 : decode cX7_trace 1 = .ok (.iconst 0, 1) := by decide +kernel
theorem dX7_trace_2 : decode cX7_trace 2 = .ok (.aload_n 0, 1) := by decide +kernel
theorem dX7_trace_3 : decode cX7_trace 3 = .ok (.getfield 62, 3) := by decide +kernel
theorem dX7_trace_6 : decode cX7_trace 6 = .ok (.getfield 214, 3) := by decide +kernel
theorem dX7_trace_9 : decode cX7_trace 9 = .ok (.iconst 1, 1) := by decide +kernel
theorem dX7_trace_10 : decode cX7_trace 10 = .ok (.isub, 1) := by decide +kernel
theorem dX7_trace_11 : decode cX7_trace 11 = .ok (.invokestatic 73, 3) := by decide +kernel
theorem dX7_trace_14 : decode cX7_trace 14 = .ok (.ifCond .eq 15, 3) := by decide +kernel
theorem dX7_trace_17 : decode cX7_trace 17 = .ok (.aload_n 0, 1) := by decide +kernel
theorem dX7_trace_18 : decode cX7_trace 18 = .ok (.getfield 62, 3) := by decide +kernel
theorem dX7_trace_21 : decode cX7_trace 21 = .ok (.getfield 224, 3) := by decide +kernel
theorem dX7_trace_24 : decode cX7_trace 24 = .ok (.iload_n 1, 1) := by decide +kernel
theorem dX7_trace_25 : decode cX7_trace 25 = .ok (.iaload, 1) := by decide +kernel
theorem dX7_trace_26 : decode cX7_trace 26 = .ok (.goto 5, 3) := by decide +kernel
theorem dX7_trace_29 : decode cX7_trace 29 = .ok (.ldc 154, 2) := by decide +kernel
theorem dX7_trace_31 : decode cX7_trace 31 = .ok (.ireturn, 1) := by decide +kernel
set_option maxRecDepth 20000 in
theorem ggX7_count_X7_howManySheets : GoodIn wsX7_count wsX7_howManySheets := goodIn_r _ [10, 11, 12, 36, 37, 38, 39, 40, 41, 42, 43, 44, 54, 55, 56, 57] (by decide +kernel) (by decide +kernel)
set_option maxRecDepth 20000 in
theorem gX7_count_X7_howManySheets : GoodIn wsX7_count (wsV RX7 227 RX7 yX7_howManySheets wsX7_howManySheets) := goodIn_app (goodIn_of _ (by decide +kernel)) ggX7_count_X7_howManySheets
set_option maxRecDepth 20000 in
theorem ggX7_count_X7_howManyStrikers : GoodIn wsX7_count wsX7_howManyStrikers := goodIn_r _ [16, 1, 17, 18, 19, 20, 21, 22, 23, 24, 25, 26, 27, 28, 36, 37, 38, 39, 40, 41, 42, 43, 44, 58, 59] (by decide +kernel) (by decide +kernel)
set_option maxRecDepth 20000 in
theorem gX7_count_X7_howManyStrikers : GoodIn wsX7_count (wsV RX7 230 RX7 yX7_howManyStrikers wsX7_howManyStrikers) := goodIn_app (goodIn_of _ (by decide +kernel)) ggX7_count_X7_howManyStrikers
set_option maxRecDepth 20000 in
theorem ggX7_count_X4_howManyTeams : GoodIn wsX7_count wsX4_howManyTeams := goodIn_r _ [33, 34, 35, 60, 61, 62, 63, 64, 65, 66, 67] (by decide +kernel) (by decide +kernel)
set_option maxRecDepth 20000 in
theorem gX7_count_X4_howManyTeams : GoodIn wsX7_count (wsV RX7 187 RX4 yX4_howManyTeams wsX4_howManyTeams) := goodIn_app (goodIn_of _ (by decide +kernel)) ggX7_count_X4_howManyTeams
theorem dX7_count_0 : decode cX7_count 0 = .ok (.iload_n 1, 1) := by decide +kernel
theorem dX7_count_1 : decode cX7_count 1 = .ok (.tableswitch 87 0 6 #[43, 48, 53, 59, 65, 71, 79], 43) := by decide +kernel
theorem dX7_count_44 : decode cX7_count 44 = .ok (.aload_n 0, 1) := by decide +kernel
theorem dX7_count_45 : decode cX7_count 45 = .ok (.invokevirtual 227, 3) := by decide +kernel
theorem dX7_count_48 : decode cX7_count 48 = .ok (.ireturn, 1) := by decide +kernel
theorem dX7_count_49 : decode cX7_count 49 = .ok (.aload_n 0, 1) := by decide +kernel
theorem dX7_count_50 : decode cX7_count 50 = .ok (.getfield 23, 3) := by decide +kernel
theorem dX7_count_53 : decode cX7_count 53 = .ok (.ireturn, 1) := by decide +kernel
theorem dX7_count_54 : decode cX7_count 54 = .ok (.aload_n 0, 1) := by decide +kernel
theorem dX7_count_55 : decode cX7_count 55 = .ok (.iconst 1, 1) := by decide +kernel
theorem dX7_count_56 : decode cX7_count 56 = .ok (.invokevirtual 230, 3) := by decide +kernel
theorem dX7_count_59 : decode cX7_count 59 = .ok (.ireturn, 1) := by decide +kernel
theorem dX7_count_60 : decode cX7_count 60 = .ok (.aload_n 0, 1) := by decide +kernel
theorem dX7_count_61 : decode cX7_count 61 = .ok (.iconst 2, 1) := by decide +kernel
theorem dX7_count_62 : decode cX7_count 62 = .ok (.invokevirtual 230, 3) := by decide +kernel
theorem dX7_count_65 : decode cX7_count 65 = .ok (.ireturn, 1) := by decide +kernel
theorem dX7_count_66 : decode cX7_count 66 = .ok (.aload_n 0, 1) := by decide +kernel
theorem dX7_count_67 : decode cX7_count 67 = .ok (.iconst 3, 1) := by decide +kernel
theorem dX7_count_68 : decode cX7_count 68 = .ok (.invokevirtual 230, 3) := by decide +kernel
theorem dX7_count_71 : decode cX7_count 71 = .ok (.ireturn, 1) := by decide +kernel
theorem dX7_count_72 : decode cX7_count 72 = .ok (.aload_n 0, 1) := by decide +kernel
theorem dX7_count_73 : decode cX7_count 73 = .ok (.getfield 39, 3) := by decide +kernel
theorem dX7_count_76 : decode cX7_count 76 = .ok (.getfield 155, 3) := by decide +kernel
theorem dX7_count_79 : decode cX7_count 79 = .ok (.ireturn, 1) := by decide +kernel
theorem dX7_count_80 : decode cX7_count 80 = .ok (.aload_n 0, 1) := by decide +kernel
theorem dX7_count_81 : decode cX7_count 81 = .ok (.getfield 46, 3) := by decide +kernel
theorem dX7_count_84 : decode cX7_count 84 = .ok (.invokevirtual 187, 3) := by decide +kernel
theorem dX7_count_87 : decode cX7_count 87 = .ok (.ireturn, 1) := by decide +kernel
theorem dX7_count_88 : decode cX7_count 88 = .ok (.ldc 77, 2) := by decide +kernel
theorem dX7_count_90 : decode cX7_count 90 = .ok (.ireturn, 1) := by decide +kernel
theorem dX7_status_0 : decode cX7_status 0 = .ok (.aload_n 0, 1) := by decide +kernel
theorem dX7_status_1 : decode cX7_status 1 = .ok (.getfield 66, 3) := by decide +kernel
theorem dX7_status_4 : decode cX7_status 4 = .ok (.ireturn, 1) := by decide +kernel
theorem dX7_within_0 : decode cX7_within 0 = .ok (.iload_n 0, 1) := by decide +kernel
theorem dX7_within_1 : decode cX7_within 1 = .ok (.iload_n 1, 1) := by decide +kernel
theorem dX7_within_2 : decode cX7_within 2 = .ok (.if_icmp .lt 12, 3) := by decide +kernel
theorem dX7_within_5 : decode cX7_within 5 = .ok (.iload_n 0, 1) := by decide +kernel
theorem dX7_within_6 : decode cX7_within 6 = .ok (.iload_n 2, 1) := by decide +kernel
theorem dX7_within_7 : decode cX7_within 7 = .ok (.if_icmp .gt 7, 3) := by decide +kernel
theorem dX7_within_10 : decode cX7_within 10 = .ok (.iconst 1, 1) := by decide +kernel
theorem dX7_within_11 : decode cX7_within 11 = .ok (.goto 4, 3) := by decide +kernel
theorem dX7_within_14 : decode cX7_within 14 = .ok (.iconst 0, 1) := by decide +kernel
theorem dX7_within_15 : decode cX7_within 15 = .ok (.ireturn, 1) := by decide +kernel
set_option maxRecDepth 20000 in
theorem ggX7_isSheet_X7_within : GoodIn wsX7_isSheet wsX7_within := goodIn_r _ [4] (by decide +kernel) (by decide +kernel)
set_option maxRecDepth 20000 in
theorem gX7_isSheet_X7_within : GoodIn wsX7_isSheet (va_wsS RX7 73 yX7_within wsX7_within) := goodIn_app (goodIn_of _ (by decide +kernel)) ggX7_isSheet_X7_within
theorem dX7_isSheet_0 : decode cX7_isSheet 0 = .ok (.iload_n 0, 1) := by decide +kernel
theorem dX7_isSheet_1 : decode cX7_isSheet 1 = .ok (.iconst 0, 1) := by decide +kernel
theorem dX7_isSheet_2 : decode cX7_isSheet 2 = .ok (.bipush 7, 2) := by decide +kernel
theorem dX7_isSheet_4 : decode cX7_isSheet 4 = .ok (.invokestatic 73, 3) := by decide +kernel
theorem dX7_isSheet_7 : decode cX7_isSheet 7 = .ok (.ireturn, 1) := by decide +kernel
set_option maxRecDepth 20000 in
theorem ggX7_isChance_X7_within : GoodIn wsX7_isChance wsX7_within := goodIn_r _ [4] (by decide +kernel) (by decide +kernel)
set_option maxRecDepth 20000 in
theorem gX7_isChance_X7_within : GoodIn wsX7_isChance (va_wsS RX7 73 yX7_within wsX7_within) := goodIn_app (goodIn_of _ (by decide +kernel)) ggX7_isChance_X7_within
theorem dX7_isChance_0 : decode cX7_isChance 0 = .ok (.iload_n 0, 1) := by decide +kernel
theorem dX7_isChance_1 : decode cX7_isChance 1 = .ok (.iconst 0, 1) := by decide +kernel
theorem dX7_isChance_2 : decode cX7_isChance 2 = .ok (.sipush 1000, 3) := by decide +kernel
theorem dX7_isChance_5 : decode cX7_isChance 5 = .ok (.invokestatic 73, 3) := by decide +kernel
theorem dX7_isChance_8 : decode cX7_isChance 8 = .ok (.ireturn, 1) := by decide +kernel
set_option maxRecDepth 20000 in
theorem ggX7_isStriker_X7_within : GoodIn wsX7_isStriker wsX7_within := goodIn_r _ [5] (by decide +kernel) (by decide +kernel)
set_option maxRecDepth 20000 in
theorem gX7_isStriker_X7_within : GoodIn wsX7_isStriker (va_wsS RX7 73 yX7_within wsX7_within) := goodIn_app (goodIn_of _ (by decide +kernel)) ggX7_isStriker_X7_within
theorem dX7_isStriker_0 : decode cX7_isStriker 0 = .ok (.iload_n 1, 1) := by decide +kernel
theorem dX7_isStriker_1 : decode cX7_isStriker 1 = .ok (.iconst 0, 1) := by decide +kernel
theorem dX7_isStriker_2 : decode cX7_isStriker 2 = .ok (.aload_n 0, 1) := by decide +kernel
theorem dX7_isStriker_3 : decode cX7_isStriker 3 = .ok (.getfield 23, 3) := by decide +kernel
theorem dX7_isStriker_6 : decode cX7_isStriker 6 = .ok (.iconst 1, 1) := by decide +kernel
theorem dX7_isStriker_7 : decode cX7_isStriker 7 = .ok (.isub, 1) := by decide +kernel
theorem dX7_isStriker_8 : decode cX7_isStriker 8 = .ok (.invokestatic 73, 3) := by decide +kernel
theorem dX7_isStriker_11 : decode cX7_isStriker 11 = .ok (.ireturn, 1) := by decide +kernel
set_option maxRecDepth 20000 in
theorem ggX7_isPlace_X7_within : GoodIn wsX7_isPlace wsX7_within := goodIn_r _ [6] (by decide +kernel) (by decide +kernel)
set_option maxRecDepth 20000 in
theorem gX7_isPlace_X7_within : GoodIn wsX7_isPlace (va_wsS RX7 73 yX7_within wsX7_within) := goodIn_app (goodIn_of _ (by decide +kernel)) ggX7_isPlace_X7_within
theorem dX7_isPlace_0 : decode cX7_isPlace 0 = .ok (.iload_n 1, 1) := by decide +kernel
theorem dX7_isPlace_1 : decode cX7_isPlace 1 = .ok (.iconst 0, 1) := by decide +kernel
theorem dX7_isPlace_2 : decode cX7_isPlace 2 = .ok (.aload_n 0, 1) := by decide +kernel
theorem dX7_isPlace_3 : decode cX7_isPlace 3 = .ok (.getfield 39, 3) := by decide +kernel
theorem dX7_isPlace_6 : decode cX7_isPlace 6 = .ok (.getfield 155, 3) := by decide +kernel
theorem dX7_isPlace_9 : decode cX7_isPlace 9 = .ok (.iconst 1, 1) := by decide +kernel
theorem dX7_isPlace_10 : decode cX7_isPlace 10 = .ok (.isub, 1) := by decide +kernel
theorem dX7_isPlace_11 : decode cX7_isPlace 11 = .ok (.invokestatic 73, 3) := by decide +kernel
theorem dX7_isPlace_14 : decode cX7_isPlace 14 = .ok (.ireturn, 1) := by decide +kernel
theorem dX7_found_0 : decode cX7_found 0 = .ok (.aload_n 0, 1) := by decide +kernel
theorem dX7_found_1 : decode cX7_found 1 = .ok (.iload_n 1, 1) := by decide +kernel
theorem dX7_found_2 : decode cX7_found 2 = .ok (.putfield 66, 3) := by decide +kernel
theorem dX7_found_5 : decode cX7_found 5 = .ok (.ldc 233, 2) := by decide +kernel
theorem dX7_found_7 : decode cX7_found 7 = .ok (.iload_n 1, 1) := by decide +kernel
theorem dX7_found_8 : decode cX7_found 8 = .ok (.isub, 1) := by decide +kernel
theorem dX7_found_9 : decode cX7_found 9 = .ok (.ireturn, 1) := by decide +kernel
theorem dX7_fine_0 : decode cX7_fine 0 = .ok (.aload_n 0, 1) := by decide +kernel
theorem dX7_fine_1 : decode cX7_fine 1 = .ok (.iconst 0, 1) := by decide +kernel
theorem dX7_fine_2 : decode cX7_fine 2 = .ok (.putfield 66, 3) := by decide +kernel
theorem dX7_fine_5 : decode cX7_fine 5 = .ok (.iload_n 1, 1) := by decide +kernel
theorem dX7_fine_6 : decode cX7_fine 6 = .ok (.ireturn, 1) := by decide +kernel
theorem dX7_admitted_0 : decode cX7_admitted 0 = .ok (.aload_n 0, 1) := by decide +kernel
theorem dX7_admitted_1 : decode cX7_admitted 1 = .ok (.getfield 23, 3) := by decide +kernel
theorem dX7_admitted_4 : decode cX7_admitted 4 = .ok (.istore_n 1, 1) := by decide +kernel
theorem dX7_admitted_5 : decode cX7_admitted 5 = .ok (.aload_n 0, 1) := by decide +kernel
theorem dX7_admitted_6 : decode cX7_admitted 6 = .ok (.dup, 1) := by decide +kernel
theorem dX7_admitted_7 : decode cX7_admitted 7 = .ok (.getfield 23, 3) := by decide +kernel
theorem dX7_admitted_10 : decode cX7_admitted 10 = .ok (.iconst 1, 1) := by decide +kernel
theorem dX7_admitted_11 : decode cX7_admitted 11 = .ok (.iadd, 1) := by decide +kernel
theorem dX7_admitted_12 : decode cX7_admitted 12 = .ok (.putfield 23, 3) := by decide +kernel
theorem dX7_admitted_15 : decode cX7_admitted 15 = .ok (.iload_n 1, 1) := by decide +kernel
theorem dX7_admitted_16 : decode cX7_admitted 16 = .ok (.ireturn, 1) := by decide +kernel
set_option maxRecDepth 20000 in
theorem ggX7_findingOfLog_X5_holds : GoodIn wsX7_findingOfLog wsX5_holds := goodIn_r _ [7, 8, 18, 19, 20, 21] (by decide +kernel) (by decide +kernel)
set_option maxRecDepth 20000 in
theorem gX7_findingOfLog_X5_holds : GoodIn wsX7_findingOfLog (wsV RX7 93 RX5 yX5_holds wsX5_holds) := goodIn_app (goodIn_of _ (by decide +kernel)) ggX7_findingOfLog_X5_holds
theorem dX7_findingOfLog_0 : decode cX7_findingOfLog 0 = .ok (.aload_n 0, 1) := by decide +kernel
theorem dX7_findingOfLog_1 : decode cX7_findingOfLog 1 = .ok (.getfield 11, 3) := by decide +kernel
theorem dX7_findingOfLog_4 : decode cX7_findingOfLog 4 = .ok (.iload_n 1, 1) := by decide +kernel
theorem dX7_findingOfLog_5 : decode cX7_findingOfLog 5 = .ok (.aaload, 1) := by decide +kernel
theorem dX7_findingOfLog_6 : decode cX7_findingOfLog 6 = .ok (.astore 4, 2) := by decide +kernel
theorem dX7_findingOfLog_8 : decode cX7_findingOfLog 8 = .ok (.aload 4, 2) := by decide +kernel
theorem dX7_findingOfLog_10 : decode cX7_findingOfLog 10 = .ok (.getfield 89, 3) := by decide +kernel
theorem dX7_findingOfLog_13 : decode cX7_findingOfLog 13 = .ok (.ifCond .eq 5, 3) := by decide +kernel
theorem dX7_findingOfLog_16 : decode cX7_findingOfLog 16 = .ok (.iconst 1, 1) := by decide +kernel
theorem dX7_findingOfLog_17 : decode cX7_findingOfLog 17 = .ok (.ireturn, 1) := by decide +kernel
theorem dX7_findingOfLog_18 : decode cX7_findingOfLog 18 = .ok (.aload 4, 2) := by decide +kernel
theorem dX7_findingOfLog_20 : decode cX7_findingOfLog 20 = .ok (.iload_n 2, 1) := by decide +kernel
theorem dX7_findingOfLog_21 : decode cX7_findingOfLog 21 = .ok (.iload_n 3, 1) := by decide +kernel
theorem dX7_findingOfLog_22 : decode cX7_findingOfLog 22 = .ok (.iconst 3, 1) := by decide +kernel
theorem dX7_findingOfLog_23 : decode cX7_findingOfLog 23 = .ok (.imul, 1) := by decide +kernel
theorem dX7_findingOfLog_24 : decode cX7_findingOfLog 24 = .ok (.invokevirtual 93, 3) := by decide +kernel
theorem dX7_findingOfLog_27 : decode cX7_findingOfLog 27 = .ok (.ifCond .eq 7, 3) := by decide +kernel
theorem dX7_findingOfLog_30 : decode cX7_findingOfLog 30 = .ok (.iconst 0, 1) := by decide +kernel
theorem dX7_findingOfLog_31 : decode cX7_findingOfLog 31 = .ok (.goto 4, 3) := by decide +kernel
theorem dX7_findingOfLog_34 : decode cX7_findingOfLog 34 = .ok (.iconst 2, 1) := by decide +kernel
theorem dX7_findingOfLog_35 : decode cX7_findingOfLog 35 = .ok (.ireturn, 1) := by decide +kernel
theorem dX7_howManySheets_0 : decode cX7_howManySheets 0 = .ok (.iconst 0, 1) := by decide +kernel
theorem dX7_howManySheets_1 : decode cX7_howManySheets 1 = .ok (.istore_n 1, 1) := by decide +kernel
theorem dX7_howManySheets_2 : decode cX7_howManySheets 2 = .ok (.iconst 0, 1) := by decide +kernel
theorem dX7_howManySheets_3 : decode cX7_howManySheets 3 = .ok (.istore_n 2, 1) := by decide +kernel
theorem dX7_howManySheets_4 : decode cX7_howManySheets 4 = .ok (.iload_n 2, 1) := by decide +kernel
theorem dX7_howManySheets_5 : decode cX7_howManySheets 5 = .ok (.bipush 8, 2) := by decide +kernel
theorem dX7_howManySheets_7 : decode cX7_howManySheets 7 = .ok (.if_icmp .ge 24, 3) := by decide +kernel
theorem dX7_howManySheets_10 : decode cX7_howManySheets 10 = .ok (.aload_n 0, 1) := by decide +kernel
theorem dX7_howManySheets_11 : decode cX7_howManySheets 11 = .ok (.getfield 11, 3) := by decide +kernel
theorem dX7_howManySheets_14 : decode cX7_howManySheets 14 = .ok (.iload_n 2, 1) := by decide +kernel
theorem dX7_howManySheets_15 : decode cX7_howManySheets 15 = .ok (.aaload, 1) := by decide +kernel
theorem dX7_howManySheets_16 : decode cX7_howManySheets 16 = .ok (.getfield 89, 3) := by decide +kernel
theorem dX7_howManySheets_19 : decode cX7_howManySheets 19 = .ok (.ifCond .ne 6, 3) := by decide +kernel
theorem dX7_howManySheets_22 : decode cX7_howManySheets 22 = .ok (.iinc 1 1, 3) := by decide +kernel
theorem dX7_howManySheets_25 : decode cX7_howManySheets 25 = .ok (.iinc 2 1, 3) := by decide +kernel
theorem dX7_howManySheets_28 : decode cX7_howManySheets 28 = .ok (.goto (-24), 3) := by decide +kernel
theorem dX7_howManySheets_31 : decode cX7_howManySheets 31 = .ok (.iload_n 1, 1) := by decide +kernel
theorem dX7_howManySheets_32 : decode cX7_howManySheets 32 = .ok (.ireturn, 1) := by decide +kernel
set_option maxRecDepth 20000 in
theorem ggX7_howManyStrikers_X6_isOne : GoodIn wsX7_howManyStrikers wsX6_isOne := goodIn_r _ [7, 8, 9, 10, 6, 11, 12, 13, 23, 24] (by decide +kernel) (by decide +kernel)
set_option maxRecDepth 20000 in
theorem gX7_howManyStrikers_X6_isOne : GoodIn wsX7_howManyStrikers (wsV RX7 211 RX6 yX6_isOne wsX6_isOne) := goodIn_app (goodIn_of _ (by decide +kernel)) ggX7_howManyStrikers_X6_isOne
theorem dX7_howManyStrikers_0 : decode cX7_howManyStrikers 0 = .ok (.iconst 0, 1) := by decide +kernel
theorem dX7_howManyStrikers_1 : decode cX7_howManyStrikers 1 = .ok (.istore_n 2, 1) := by decide +kernel
theorem dX7_howManyStrikers_2 : decode cX7_howManyStrikers 2 = .ok (.iconst 0, 1) := by decide +kernel
theorem dX7_howManyStrikers_3 : decode cX7_howManyStrikers 3 = .ok (.istore_n 3, 1) := by decide +kernel
theorem dX7_howManyStrikers_4 : decode cX7_howManyStrikers 4 = .ok (.iload_n 3, 1) := by decide +kernel
theorem dX7_howManyStrikers_5 : decode cX7_howManyStrikers 5 = .ok (.aload_n 0, 1) := by decide +kernel
theorem dX7_howManyStrikers_6 : decode cX7_howManyStrikers 6 = .ok (.getfield 23, 3) := by decide +kernel
theorem dX7_howManyStrikers_9 : decode cX7_howManyStrikers 9 = .ok (.if_icmp .ge 25, 3) := by decide +kernel
theorem dX7_howManyStrikers_12 : decode cX7_howManyStrikers 12 = .ok (.aload_n 0, 1) := by decide +kernel
theorem dX7_howManyStrikers_13 : decode cX7_howManyStrikers 13 = .ok (.getfield 18, 3) := by decide +kernel
theorem dX7_howManyStrikers_16 : decode cX7_howManyStrikers 16 = .ok (.iload_n 3, 1) := by decide +kernel
theorem dX7_howManyStrikers_17 : decode cX7_howManyStrikers 17 = .ok (.aaload, 1) := by decide +kernel
theorem dX7_howManyStrikers_18 : decode cX7_howManyStrikers 18 = .ok (.iload_n 1, 1) := by decide +kernel
theorem dX7_howManyStrikers_19 : decode cX7_howManyStrikers 19 = .ok (.invokevirtual 211, 3) := by decide +kernel
theorem dX7_howManyStrikers_22 : decode cX7_howManyStrikers 22 = .ok (.ifCond .eq 6, 3) := by decide +kernel
theorem dX7_howManyStrikers_25 : decode cX7_howManyStrikers 25 = .ok (.iinc 2 1, 3) := by decide +kernel
theorem dX7_howManyStrikers_28 : decode cX7_howManyStrikers 28 = .ok (.iinc 3 1, 3) := by decide +kernel
theorem dX7_howManyStrikers_31 : decode cX7_howManyStrikers 31 = .ok (.goto (-27), 3) := by decide +kernel
theorem dX7_howManyStrikers_34 : decode cX7_howManyStrikers 34 = .ok (.iload_n 2, 1) := by decide +kernel
theorem dX7_howManyStrikers_35 : decode cX7_howManyStrikers 35 = .ok (.ireturn, 1) := by decide +kernel
theorem dX8_init_0 : decode cX8_init 0 = .ok (.aload_n 0, 1) := by decide +kernel
theorem dX8_init_1 : decode cX8_init 1 = .ok (.invokespecial 1, 3) := by decide +kernel
theorem dX8_init_4 : decode cX8_init 4 = .ok (.aload_n 0, 1) := by decide +kernel
theorem dX8_init_5 : decode cX8_init 5 = .ok (.bipush 8, 2) := by decide +kernel
theorem dX8_init_7 : decode cX8_init 7 = .ok (.newarray .int, 2) := by decide +kernel
theorem dX8_init_9 : decode cX8_init 9 = .ok (.dup, 1) := by decide +kernel
theorem dX8_init_10 : decode cX8_init 10 = .ok (.iconst 0, 1) := by decide +kernel
theorem dX8_init_11 : decode cX8_init 11 = .ok (.iconst (-1), 1) := by decide +kernel
theorem dX8_init_12 : decode cX8_init 12 = .ok (.iastore, 1) := by decide +kernel
theorem dX8_init_13 : decode cX8_init 13 = .ok (.dup, 1) := by decide +kernel
theorem dX8_init_14 : decode cX8_init 14 = .ok (.iconst 1, 1) := by decide +kernel
theorem dX8_init_15 : decode cX8_init 15 = .ok (.iconst (-1), 1) := by decide +kernel
theorem dX8_init_16 : decode cX8_init 16 = .ok (.iastore, 1) := by decide +kernel
theorem dX8_init_17 : decode cX8_init 17 = .ok (.dup, 1) := by decide +kernel
theorem dX8_init_18 : decode cX8_init 18 = .ok (.iconst 2, 1) := by decide +kernel
theorem dX8_init_19 : decode cX8_init 19 = .ok (.iconst (-1), 1) := by decide +kernel
theorem dX8_init_20 : decode cX8_init 20 = .ok (.iastore, 1) := by decide +kernel
theorem dX8_init_21 : decode cX8_init 21 = .ok (.dup, 1) := by decide +kernel
theorem dX8_init_22 : decode cX8_init 22 = .ok (.iconst 3, 1) := by decide +kernel
theorem dX8_init_23 : decode cX8_init 23 = .ok (.iconst (-1), 1) := by decide +kernel
theorem dX8_init_24 : decode cX8_init 24 = .ok (.iastore, 1) := by decide +kernel
theorem dX8_init_25 : decode cX8_init 25 = .ok (.dup, 1) := by decide +kernel
theorem dX8_init_26 : decode cX8_init 26 = .ok (.iconst 4, 1) := by decide +kernel
theorem dX8_init_27 : decode cX8_init 27 = .ok (.iconst (-1), 1) := by decide +kernel
theorem dX8_init_28 : decode cX8_init 28 = .ok (.iastore, 1) := by decide +kernel
theorem dX8_init_29 : decode cX8_init 29 = .ok (.dup, 1) := by decide +kernel
theorem dX8_init_30 : decode cX8_init 30 = .ok (.iconst 5, 1) := by decide +kernel
theorem dX8_init_31 : decode cX8_init 31 = .ok (.iconst (-1), 1) := by decide +kernel
theorem dX8_init_32 : decode cX8_init 32 = .ok (.iastore, 1) := by decide +kernel
theorem dX8_init_33 : decode cX8_init 33 = .ok (.dup, 1) := by decide +kernel
theorem dX8_init_34 : decode cX8_init 34 = .ok (.bipush 6, 2) := by decide +kernel
theorem dX8_init_36 : decode cX8_init 36 = .ok (.iconst (-1), 1) := by decide +kernel
theorem dX8_init_37 : decode cX8_init 37 = .ok (.iastore, 1) := by decide +kernel
theorem dX8_init_38 : decode cX8_init 38 = .ok (.dup, 1) := by decide +kernel
theorem dX8_init_39 : decode cX8_init 39 = .ok (.bipush 7, 2) := by decide +kernel
theorem dX8_init_41 : decode cX8_init 41 = .ok (.iconst (-1), 1) := by decide +kernel
theorem dX8_init_42 : decode cX8_init 42 = .ok (.iastore, 1) := by decide +kernel
theorem dX8_init_43 : decode cX8_init 43 = .ok (.putfield 7, 3) := by decide +kernel
theorem dX8_init_46 : decode cX8_init 46 = .ok (.aload_n 0, 1) := by decide +kernel
theorem dX8_init_47 : decode cX8_init 47 = .ok (.bipush 8, 2) := by decide +kernel
theorem dX8_init_49 : decode cX8_init 49 = .ok (.newarray .int, 2) := by decide +kernel
theorem dX8_init_51 : decode cX8_init 51 = .ok (.putfield 13, 3) := by decide +kernel
theorem dX8_init_54 : decode cX8_init 54 = .ok (.aload_n 0, 1) := by decide +kernel
theorem dX8_init_55 : decode cX8_init 55 = .ok (.sipush 480, 3) := by decide +kernel
theorem dX8_init_58 : decode cX8_init 58 = .ok (.newarray .int, 2) := by decide +kernel
theorem dX8_init_60 : decode cX8_init 60 = .ok (.putfield 16, 3) := by decide +kernel
theorem dX8_init_63 : decode cX8_init 63 = .ok (.aload_n 0, 1) := by decide +kernel
theorem dX8_init_64 : decode cX8_init 64 = .ok (.bipush 84, 2) := by decide +kernel
theorem dX8_init_66 : decode cX8_init 66 = .ok (.newarray .int, 2) := by decide +kernel
theorem dX8_init_68 : decode cX8_init 68 = .ok (.putfield 19, 3) := by decide +kernel
theorem dX8_init_71 : decode cX8_init 71 = .ok (.aload_n 0, 1) := by decide +kernel
theorem dX8_init_72 : decode cX8_init 72 = .ok (.bipush 9, 2) := by decide +kernel
theorem dX8_init_74 : decode cX8_init 74 = .ok (.newarray .int, 2) := by decide +kernel
theorem dX8_init_76 : decode cX8_init 76 = .ok (.putfield 22, 3) := by decide +kernel
theorem dX8_init_79 : decode cX8_init 79 = .ok (.aload_n 0, 1) := by decide +kernel
theorem dX8_init_80 : decode cX8_init 80 = .ok (.sipush 6975, 3) := by decide +kernel
theorem dX8_init_83 : decode cX8_init 83 = .ok (.newarray .int, 2) := by decide +kernel
theorem dX8_init_85 : decode cX8_init 85 = .ok (.putfield 25, 3) := by decide +kernel
theorem dX8_init_88 : decode cX8_init 88 = .ok (.aload_n 0, 1) := by decide +kernel
theorem dX8_init_89 : decode cX8_init 89 = .ok (.ldc 28, 2) := by decide +kernel
theorem dX8_init_91 : decode cX8_init 91 = .ok (.newarray .int, 2) := by decide +kernel
theorem dX8_init_93 : decode cX8_init 93 = .ok (.putfield 29, 3) := by decide +kernel
theorem dX8_init_96 : decode cX8_init 96 = .ok (.aload_n 0, 1) := by decide +kernel
theorem dX8_init_97 : decode cX8_init 97 = .ok (.bipush 9, 2) := by decide +kernel
theorem dX8_init_99 : decode cX8_init 99 = .ok (.newarray .int, 2) := by decide +kernel
theorem dX8_init_101 : decode cX8_init 101 = .ok (.putfield 32, 3) := by decide +kernel
theorem dX8_init_104 : decode cX8_init 104 = .ok (.aload_n 0, 1) := by decide +kernel
theorem dX8_init_105 : decode cX8_init 105 = .ok (.iconst 2, 1) := by decide +kernel
theorem dX8_init_106 : decode cX8_init 106 = .ok (.newarray .int, 2) := by decide +kernel
theorem dX8_init_108 : decode cX8_init 108 = .ok (.dup, 1) := by decide +kernel
theorem dX8_init_109 : decode cX8_init 109 = .ok (.iconst 0, 1) := by decide +kernel
theorem dX8_init_110 : decode cX8_init 110 = .ok (.ldc 35, 2) := by decide +kernel
theorem dX8_init_112 : decode cX8_init 112 = .ok (.iastore, 1) := by decide +kernel
theorem dX8_init_113 : decode cX8_init 113 = .ok (.dup, 1) := by decide +kernel
theorem dX8_init_114 : decode cX8_init 114 = .ok (.iconst 1, 1) := by decide +kernel
theorem dX8_init_115 : decode cX8_init 115 = .ok (.ldc 35, 2) := by decide +kernel
theorem dX8_init_117 : decode cX8_init 117 = .ok (.iastore, 1) := by decide +kernel
theorem dX8_init_118 : decode cX8_init 118 = .ok (.putfield 36, 3) := by decide +kernel
theorem dX8_init_121 : decode cX8_init 121 = .ok (.aload_n 0, 1) := by decide +kernel
theorem dX8_init_122 : decode cX8_init 122 = .ok (.ldc 39, 2) := by decide +kernel
theorem dX8_init_124 : decode cX8_init 124 = .ok (.newarray .int, 2) := by decide +kernel
theorem dX8_init_126 : decode cX8_init 126 = .ok (.putfield 40, 3) := by decide +kernel
theorem dX8_init_129 : decode cX8_init 129 = .ok (.aload_n 0, 1) := by decide +kernel
theorem dX8_init_130 : decode cX8_init 130 = .ok (.ldc 39, 2) := by decide +kernel
theorem dX8_init_132 : decode cX8_init 132 = .ok (.newarray .int, 2) := by decide +kernel
theorem dX8_init_134 : decode cX8_init 134 = .ok (.putfield 43, 3) := by decide +kernel
theorem dX8_init_137 : decode cX8_init 137 = .ok (.aload_n 0, 1) := by decide +kernel
theorem dX8_init_138 : decode cX8_init 138 = .ok (.bipush 9, 2) := by decide +kernel
theorem dX8_init_140 : decode cX8_init 140 = .ok (.newarray .int, 2) := by decide +kernel
theorem dX8_init_142 : decode cX8_init 142 = .ok (.putfield 46, 3) := by decide +kernel
theorem dX8_init_145 : decode cX8_init 145 = .ok (.aload_n 0, 1) := by decide +kernel
theorem dX8_init_146 : decode cX8_init 146 = .ok (.bipush 16, 2) := by decide +kernel
theorem dX8_init_148 : decode cX8_init 148 = .ok (.newarray .int, 2) := by decide +kernel
theorem dX8_init_150 : decode cX8_init 150 = .ok (.putfield 49, 3) := by decide +kernel
theorem dX8_init_153 : decode cX8_init 153 = .ok (.return_, 1) := by decide +kernel
theorem dX8_in_0 : decode cX8_in 0 = .ok (.lload_n 0, 1) := by decide +kernel
theorem dX8_in_1 : decode cX8_in 1 = .ok (.lload_n 2, 1) := by decide +kernel
theorem dX8_in_2 : decode cX8_in 2 = .ok (.lcmp, 1) := by decide +kernel
theorem dX8_in_3 : decode cX8_in 3 = .ok (.ifCond .lt 14, 3) := by decide +kernel
theorem dX8_in_6 : decode cX8_in 6 = .ok (.lload_n 0, 1) := by decide +kernel
theorem dX8_in_7 : decode cX8_in 7 = .ok (.lload 4, 2) := by decide +kernel
theorem dX8_in_9 : decode cX8_in 9 = .ok (.lcmp, 1) := by decide +kernel
theorem dX8_in_10 : decode cX8_in 10 = .ok (.ifCond .gt 7, 3) := by decide +kernel
theorem dX8_in_13 : decode cX8_in 13 = .ok (.iconst 1, 1) := by decide +kernel
theorem dX8_in_14 : decode cX8_in 14 = .ok (.goto 4, 3) := by decide +kernel
theorem dX8_in_17 : decode cX8_in 17 = .ok (.iconst 0, 1) := by decide +kernel
theorem dX8_in_18 : decode cX8_in 18 = .ok (.ireturn, 1) := by decide +kernel
theorem dX8_found_0 : decode cX8_found 0 = .ok (.aload_n 0, 1) := by decide +kernel
theorem dX8_found_1 : decode cX8_found 1 = .ok (.iload_n 1, 1) := by decide +kernel
theorem dX8_found_2 : decode cX8_found 2 = .ok (.putfield 56, 3) := by decide +kernel
theorem dX8_found_5 : decode cX8_found 5 = .ok (.ldc 59, 2) := by decide +kernel
theorem dX8_found_7 : decode cX8_found 7 = .ok (.iload_n 1, 1) := by decide +kernel
theorem dX8_found_8 : decode cX8_found 8 = .ok (.isub, 1) := by decide +kernel
theorem dX8_found_9 : decode cX8_found 9 = .ok (.ireturn, 1) := by decide +kernel
set_option maxRecDepth 20000 in
theorem ggX8_isSheet_X8_in : GoodIn wsX8_isSheet wsX8_in := goodIn_r _ [5] (by decide +kernel) (by decide +kernel)
set_option maxRecDepth 20000 in
theorem gX8_isSheet_X8_in : GoodIn wsX8_isSheet (va_wsS RX8 62 yX8_in wsX8_in) := goodIn_app (goodIn_of _ (by decide +kernel)) ggX8_isSheet_X8_in
theorem dX8_isSheet_0 : decode cX8_isSheet 0 = .ok (.iload_n 0, 1) := by decide +kernel
theorem dX8_isSheet_1 : decode cX8_isSheet 1 = .ok (.i2l, 1) := by decide +kernel
theorem dX8_isSheet_2 : decode cX8_isSheet 2 = .ok (.lconst 0, 1) := by decide +kernel
theorem dX8_isSheet_3 : decode cX8_isSheet 3 = .ok (.ldc2_w 60, 3) := by decide +kernel
theorem dX8_isSheet_6 : decode cX8_isSheet 6 = .ok (.invokestatic 62, 3) := by decide +kernel
theorem dX8_isSheet_9 : decode cX8_isSheet 9 = .ok (.ireturn, 1) := by decide +kernel
set_option maxRecDepth 20000 in
theorem ggX8_sheet_X8_isSheet : GoodIn wsX8_sheet wsX8_isSheet := goodIn_r _ [11, 12, 13, 14, 10, 15] (by decide +kernel) (by decide +kernel)
set_option maxRecDepth 20000 in
theorem gX8_sheet_X8_isSheet : GoodIn wsX8_sheet (va_wsS RX8 66 yX8_isSheet wsX8_isSheet) := goodIn_app (goodIn_of _ (by decide +kernel)) ggX8_sheet_X8_isSheet
set_option maxRecDepth 20000 in
theorem ggX8_sheet_X8_in : GoodIn wsX8_sheet wsX8_in := goodIn_r _ [15] (by decide +kernel) (by decide +kernel)
set_option maxRecDepth 20000 in
theorem gX8_sheet_X8_in : GoodIn wsX8_sheet (va_wsS RX8 62 yX8_in wsX8_in) := goodIn_app (goodIn_of _ (by decide +kernel)) ggX8_sheet_X8_in
set_option maxRecDepth 20000 in
theorem ggX8_sheet_X8_found : GoodIn wsX8_sheet wsX8_found := goodIn_r _ [19, 4, 20, 21, 22, 23, 24, 25, 26, 27, 28, 29, 30, 31, 32, 33, 34, 35, 36, 37, 38, 39, 40, 41, 42] (by decide +kernel) (by decide +kernel)
set_option maxRecDepth 20000 in
theorem gX8_sheet_X8_found : GoodIn wsX8_sheet (wsV RX8 73 RX8 yX8_found wsX8_found) := goodIn_app (goodIn_of _ (by decide +kernel)) ggX8_sheet_X8_found
theorem dX8_sheet_0 : decode cX8_sheet 0 = .ok (.aload_n 0, 1) := by decide +kernel
theorem dX8_sheet_1 : decode cX8_sheet 1 = .ok (.iconst 0, 1) := by decide +kernel
theorem dX8_sheet_2 : decode cX8_sheet 2 = .ok (.putfield 52, 3) := by decide +kernel
theorem dX8_sheet_5 : decode cX8_sheet 5 = .ok (.iload_n 1, 1) := by decide +kernel
theorem dX8_sheet_6 : decode cX8_sheet 6 = .ok (.invokestatic 66, 3) := by decide +kernel
theorem dX8_sheet_9 : decode cX8_sheet 9 = .ok (.ifCond .eq 21, 3) := by decide +kernel
theorem dX8_sheet_12 : decode cX8_sheet 12 = .ok (.iload_n 2, 1) := by decide +kernel
theorem dX8_sheet_13 : decode cX8_sheet 13 = .ok (.i2l, 1) := by decide +kernel
theorem dX8_sheet_14 : decode cX8_sheet 14 = .ok (.lconst 0, 1) := by decide +kernel
theorem dX8_sheet_15 : decode cX8_sheet 15 = .ok (.ldc2_w 70, 3) := by decide +kernel
theorem dX8_sheet_18 : decode cX8_sheet 18 = .ok (.invokestatic 62, 3) := by decide +kernel
theorem dX8_sheet_21 : decode cX8_sheet 21 = .ok (.ifCond .eq 9, 3) := by decide +kernel
theorem dX8_sheet_24 : decode cX8_sheet 24 = .ok (.iload_n 3, 1) := by decide +kernel
theorem dX8_sheet_25 : decode cX8_sheet 25 = .ok (.bipush 60, 2) := by decide +kernel
theorem dX8_sheet_27 : decode cX8_sheet 27 = .ok (.if_icmp .le 6, 3) := by decide +kernel
theorem dX8_sheet_30 : decode cX8_sheet 30 = .ok (.ldc 72, 2) := by decide +kernel
theorem dX8_sheet_32 : decode cX8_sheet 32 = .ok (.ireturn, 1) := by decide +kernel
theorem dX8_sheet_33 : decode cX8_sheet 33 = .ok (.aload_n 0, 1) := by decide +kernel
theorem dX8_sheet_34 : decode cX8_sheet 34 = .ok (.iconst 0, 1) := by decide +kernel
theorem dX8_sheet_35 : decode cX8_sheet 35 = .ok (.putfield 56, 3) := by decide +kernel
theorem dX8_sheet_38 : decode cX8_sheet 38 = .ok (.iload_n 3, 1) := by decide +kernel
theorem dX8_sheet_39 : decode cX8_sheet 39 = .ok (.ifCond .ge 9, 3) := by decide +kernel
theorem dX8_sheet_42 : decode cX8_sheet 42 = .ok (.aload_n 0, 1) := by decide +kernel
theorem dX8_sheet_43 : decode cX8_sheet 43 = .ok (.iconst 4, 1) := by decide +kernel
theorem dX8_sheet_44 : decode cX8_sheet 44 = .ok (.invokevirtual 73, 3) := by decide +kernel
theorem dX8_sheet_47 : decode cX8_sheet 47 = .ok (.ireturn, 1) := by decide +kernel
theorem dX8_sheet_48 : decode cX8_sheet 48 = .ok (.aload_n 0, 1) := by decide +kernel
theorem dX8_sheet_49 : decode cX8_sheet 49 = .ok (.getfield 7, 3) := by decide +kernel
theorem dX8_sheet_52 : decode cX8_sheet 52 = .ok (.iload_n 1, 1) := by decide +kernel
theorem dX8_sheet_53 : decode cX8_sheet 53 = .ok (.iload_n 2, 1) := by decide +kernel
theorem dX8_sheet_54 : decode cX8_sheet 54 = .ok (.iastore, 1) := by decide +kernel
theorem dX8_sheet_55 : decode cX8_sheet 55 = .ok (.aload_n 0, 1) := by decide +kernel
theorem dX8_sheet_56 : decode cX8_sheet 56 = .ok (.getfield 13, 3) := by decide +kernel
theorem dX8_sheet_59 : decode cX8_sheet 59 = .ok (.iload_n 1, 1) := by decide +kernel
theorem dX8_sheet_60 : decode cX8_sheet 60 = .ok (.iload_n 3, 1) := by decide +kernel
theorem dX8_sheet_61 : decode cX8_sheet 61 = .ok (.iastore, 1) := by decide +kernel
theorem dX8_sheet_62 : decode cX8_sheet 62 = .ok (.iconst 0, 1) := by decide +kernel
theorem dX8_sheet_63 : decode cX8_sheet 63 = .ok (.istore 4, 2) := by decide +kernel
theorem dX8_sheet_65 : decode cX8_sheet 65 = .ok (.iload 4, 2) := by decide +kernel
theorem dX8_sheet_67 : decode cX8_sheet 67 = .ok (.bipush 60, 2) := by decide +kernel
theorem dX8_sheet_69 : decode cX8_sheet 69 = .ok (.if_icmp .ge 22, 3) := by decide +kernel
theorem dX8_sheet_72 : decode cX8_sheet 72 = .ok (.aload_n 0, 1) := by decide +kernel
theorem dX8_sheet_73 : decode cX8_sheet 73 = .ok (.getfield 16, 3) := by decide +kernel
theorem dX8_sheet_76 : decode cX8_sheet 76 = .ok (.bipush 60, 2) := by decide +kernel
theorem dX8_sheet_78 : decode cX8_sheet 78 = .ok (.iload_n 1, 1) := by decide +kernel
theorem dX8_sheet_79 : decode cX8_sheet 79 = .ok (.imul, 1) := by decide +kernel
theorem dX8_sheet_80 : decode cX8_sheet 80 = .ok (.iload 4, 2) := by decide +kernel
theorem dX8_sheet_82 : decode cX8_sheet 82 = .ok (.iadd, 1) := by decide +kernel
theorem dX8_sheet_83 : decode cX8_sheet 83 = .ok (.iconst 0, 1) := by decide +kernel
theorem dX8_sheet_84 : decode cX8_sheet 84 = .ok (.iastore, 1) := by decide +kernel
theorem dX8_sheet_85 : decode cX8_sheet 85 = .ok (.iinc 4 1, 3) := by decide +kernel
theorem dX8_sheet_88 : decode cX8_sheet 88 = .ok (.goto (-23), 3) := by decide +kernel
theorem dX8_sheet_91 : decode cX8_sheet 91 = .ok (.iload_n 3, 1) := by decide +kernel
theorem dX8_sheet_92 : decode cX8_sheet 92 = .ok (.ireturn, 1) := by decide +kernel
set_option maxRecDepth 20000 in
theorem ggX8_set_X8_isSheet : GoodIn wsX8_set wsX8_isSheet := goodIn_r _ [10, 11, 12, 13, 9, 14] (by decide +kernel) (by decide +kernel)
set_option maxRecDepth 20000 in
theorem gX8_set_X8_isSheet : GoodIn wsX8_set (va_wsS RX8 66 yX8_isSheet wsX8_isSheet) := goodIn_app (goodIn_of _ (by decide +kernel)) ggX8_set_X8_isSheet
set_option maxRecDepth 20000 in
theorem ggX8_set_X8_found : GoodIn wsX8_set wsX8_found := goodIn_r _ [18, 3, 19, 20, 21, 22, 23, 24, 25, 26, 27, 28, 29, 30, 31, 32, 33, 34, 35, 36, 37, 38, 39, 40, 41] (by decide +kernel) (by decide +kernel)
set_option maxRecDepth 20000 in
theorem gX8_set_X8_found : GoodIn wsX8_set (wsV RX8 73 RX8 yX8_found wsX8_found) := goodIn_app (goodIn_of _ (by decide +kernel)) ggX8_set_X8_found
set_option maxRecDepth 20000 in
theorem ggX8_set_X8_in : GoodIn wsX8_set wsX8_in := goodIn_r _ [14] (by decide +kernel) (by decide +kernel)
set_option maxRecDepth 20000 in
theorem gX8_set_X8_in : GoodIn wsX8_set (va_wsS RX8 62 yX8_in wsX8_in) := goodIn_app (goodIn_of _ (by decide +kernel)) ggX8_set_X8_in
theorem dX8_set_0 : decode cX8_set 0 = .ok (.aload_n 0, 1) := by decide +kernel
theorem dX8_set_1 : decode cX8_set 1 = .ok (.iconst 0, 1) := by decide +kernel
theorem dX8_set_2 : decode cX8_set 2 = .ok (.putfield 52, 3) := by decide +kernel
theorem dX8_set_5 : decode cX8_set 5 = .ok (.iload_n 1, 1) := by decide +kernel
theorem dX8_set_6 : decode cX8_set 6 = .ok (.invokestatic 66, 3) := by decide +kernel
theorem dX8_set_9 : decode cX8_set 9 = .ok (.ifCond .ne 6, 3) := by decide +kernel
theorem dX8_set_12 : decode cX8_set 12 = .ok (.ldc 72, 2) := by decide +kernel
theorem dX8_set_14 : decode cX8_set 14 = .ok (.ireturn, 1) := by decide +kernel
theorem dX8_set_15 : decode cX8_set 15 = .ok (.aload_n 0, 1) := by decide +kernel
theorem dX8_set_16 : decode cX8_set 16 = .ok (.iconst 0, 1) := by decide +kernel
theorem dX8_set_17 : decode cX8_set 17 = .ok (.putfield 56, 3) := by decide +kernel
theorem dX8_set_20 : decode cX8_set 20 = .ok (.aload_n 0, 1) := by decide +kernel
theorem dX8_set_21 : decode cX8_set 21 = .ok (.getfield 7, 3) := by decide +kernel
theorem dX8_set_24 : decode cX8_set 24 = .ok (.iload_n 1, 1) := by decide +kernel
theorem dX8_set_25 : decode cX8_set 25 = .ok (.iaload, 1) := by decide +kernel
theorem dX8_set_26 : decode cX8_set 26 = .ok (.ifCond .ge 9, 3) := by decide +kernel
theorem dX8_set_29 : decode cX8_set 29 = .ok (.aload_n 0, 1) := by decide +kernel
theorem dX8_set_30 : decode cX8_set 30 = .ok (.iconst 1, 1) := by decide +kernel
theorem dX8_set_31 : decode cX8_set 31 = .ok (.invokevirtual 73, 3) := by decide +kernel
theorem dX8_set_34 : decode cX8_set 34 = .ok (.ireturn, 1) := by decide +kernel
theorem dX8_set_35 : decode cX8_set 35 = .ok (.iload_n 2, 1) := by decide +kernel
theorem dX8_set_36 : decode cX8_set 36 = .ok (.i2l, 1) := by decide +kernel
theorem dX8_set_37 : decode cX8_set 37 = .ok (.lconst 0, 1) := by decide +kernel
theorem dX8_set_38 : decode cX8_set 38 = .ok (.aload_n 0, 1) := by decide +kernel
theorem dX8_set_39 : decode cX8_set 39 = .ok (.getfield 13, 3) := by decide +kernel
theorem dX8_set_42 : decode cX8_set 42 = .ok (.iload_n 1, 1) := by decide +kernel
theorem dX8_set_43 : decode cX8_set 43 = .ok (.iaload, 1) := by decide +kernel
theorem dX8_set_44 : decode cX8_set 44 = .ok (.iconst 1, 1) := by decide +kernel
theorem dX8_set_45 : decode cX8_set 45 = .ok (.isub, 1) := by decide +kernel
theorem dX8_set_46 : decode cX8_set 46 = .ok (.i2l, 1) := by decide +kernel
theorem dX8_set_47 : decode cX8_set 47 = .ok (.invokestatic 62, 3) := by decide +kernel
theorem dX8_set_50 : decode cX8_set 50 = .ok (.ifCond .ne 9, 3) := by decide +kernel
theorem dX8_set_53 : decode cX8_set 53 = .ok (.aload_n 0, 1) := by decide +kernel
theorem dX8_set_54 : decode cX8_set 54 = .ok (.iconst 2, 1) := by decide +kernel
theorem dX8_set_55 : decode cX8_set 55 = .ok (.invokevirtual 73, 3) := by decide +kernel
theorem dX8_set_58 : decode cX8_set 58 = .ok (.ireturn, 1) := by decide +kernel
theorem dX8_set_59 : decode cX8_set 59 = .ok (.aload_n 0, 1) := by decide +kernel
theorem dX8_set_60 : decode cX8_set 60 = .ok (.getfield 16, 3) := by decide +kernel
theorem dX8_set_63 : decode cX8_set 63 = .ok (.bipush 60, 2) := by decide +kernel
theorem dX8_set_65 : decode cX8_set 65 = .ok (.iload_n 1, 1) := by decide +kernel
theorem dX8_set_66 : decode cX8_set 66 = .ok (.imul, 1) := by decide +kernel
theorem dX8_set_67 : decode cX8_set 67 = .ok (.iload_n 2, 1) := by decide +kernel
theorem dX8_set_68 : decode cX8_set 68 = .ok (.iadd, 1) := by decide +kernel
theorem dX8_set_69 : decode cX8_set 69 = .ok (.aload_n 0, 1) := by decide +kernel
theorem dX8_set_70 : decode cX8_set 70 = .ok (.getfield 7, 3) := by decide +kernel
theorem dX8_set_73 : decode cX8_set 73 = .ok (.iload_n 1, 1) := by decide +kernel
theorem dX8_set_74 : decode cX8_set 74 = .ok (.iaload, 1) := by decide +kernel
theorem dX8_set_75 : decode cX8_set 75 = .ok (.ifCond .ne 8, 3) := by decide +kernel
theorem dX8_set_78 : decode cX8_set 78 = .ok (.iload_n 3, 1) := by decide +kernel
theorem dX8_set_79 : decode cX8_set 79 = .ok (.i2b, 1) := by decide +kernel
theorem dX8_set_80 : decode cX8_set 80 = .ok (.goto 19, 3) := by decide +kernel
theorem dX8_set_83 : decode cX8_set 83 = .ok (.aload_n 0, 1) := by decide +kernel
theorem dX8_set_84 : decode cX8_set 84 = .ok (.getfield 7, 3) := by decide +kernel
theorem dX8_set_87 : decode cX8_set 87 = .ok (.iload_n 1, 1) := by decide +kernel
theorem dX8_set_88 : decode cX8_set 88 = .ok (.iaload, 1) := by decide +kernel
theorem dX8_set_89 : decode cX8_set 89 = .ok (.iconst 1, 1) := by decide +kernel
theorem dX8_set_90 : decode cX8_set 90 = .ok (.if_icmp .ne 8, 3) := by decide +kernel
theorem dX8_set_93 : decode cX8_set 93 = .ok (.iload_n 3, 1) := by decide +kernel
theorem dX8_set_94 : decode cX8_set 94 = .ok (.i2s, 1) := by decide +kernel
theorem dX8_set_95 : decode cX8_set 95 = .ok (.goto 4, 3) := by decide +kernel
theorem dX8_set_98 : decode cX8_set 98 = .ok (.iload_n 3, 1) := by decide +kernel
theorem dX8_set_99 : decode cX8_set 99 = .ok (.iastore, 1) := by decide +kernel
theorem dX8_set_100 : decode cX8_set 100 = .ok (.aload_n 0, 1) := by decide +kernel
theorem dX8_set_101 : decode cX8_set 101 = .ok (.getfield 16, 3) := by decide +kernel
theorem dX8_set_104 : decode cX8_set 104 = .ok (.bipush 60, 2) := by decide +kernel
theorem dX8_set_106 : decode cX8_set 106 = .ok (.iload_n 1, 1) := by decide +kernel
theorem dX8_set_107 : decode cX8_set 107 = .ok (.imul, 1) := by decide +kernel
theorem dX8_set_108 : decode cX8_set 108 = .ok (.iload_n 2, 1) := by decide +kernel
theorem dX8_set_109 : decode cX8_set 109 = .ok (.iadd, 1) := by decide +kernel
theorem dX8_set_110 : decode cX8_set 110 = .ok (.iaload, 1) := by decide +kernel
theorem dX8_set_111 : decode cX8_set 111 = .ok (.ireturn, 1) := by decide +kernel
set_option maxRecDepth 20000 in
theorem ggX8_copy_X8_isSheet : GoodIn wsX8_copy wsX8_isSheet := goodIn_r _ [10, 11, 12, 13, 9, 14] (by decide +kernel) (by decide +kernel)
set_option maxRecDepth 20000 in
theorem gX8_copy_X8_isSheet : GoodIn wsX8_copy (va_wsS RX8 66 yX8_isSheet wsX8_isSheet) := goodIn_app (goodIn_of _ (by decide +kernel)) ggX8_copy_X8_isSheet
set_option maxRecDepth 20000 in
theorem ggX8_copy_X8_found : GoodIn wsX8_copy wsX8_found := goodIn_r _ [18, 3, 19, 20, 21, 22, 23, 24, 25, 26, 27, 28, 29, 30, 31, 32, 33, 34, 35, 36, 37, 38, 39, 40, 41] (by decide +kernel) (by decide +kernel)
set_option maxRecDepth 20000 in
theorem gX8_copy_X8_found : GoodIn wsX8_copy (wsV RX8 73 RX8 yX8_found wsX8_found) := goodIn_app (goodIn_of _ (by decide +kernel)) ggX8_copy_X8_found
theorem dX8_copy_0 : decode cX8_copy 0 = .ok (.aload_n 0, 1) := by decide +kernel
theorem dX8_copy_1 : decode cX8_copy 1 = .ok (.iconst 0, 1) := by decide +kernel
theorem dX8_copy_2 : decode cX8_copy 2 = .ok (.putfield 52, 3) := by decide +kernel
theorem dX8_copy_5 : decode cX8_copy 5 = .ok (.iload_n 1, 1) := by decide +kernel
theorem dX8_copy_6 : decode cX8_copy 6 = .ok (.invokestatic 66, 3) := by decide +kernel
theorem dX8_copy_9 : decode cX8_copy 9 = .ok (.ifCond .eq 10, 3) := by decide +kernel
theorem dX8_copy_12 : decode cX8_copy 12 = .ok (.iload_n 3, 1) := by decide +kernel
theorem dX8_copy_13 : decode cX8_copy 13 = .ok (.invokestatic 66, 3) := by decide +kernel
theorem dX8_copy_16 : decode cX8_copy 16 = .ok (.ifCond .ne 6, 3) := by decide +kernel
theorem dX8_copy_19 : decode cX8_copy 19 = .ok (.ldc 72, 2) := by decide +kernel
theorem dX8_copy_21 : decode cX8_copy 21 = .ok (.ireturn, 1) := by decide +kernel
theorem dX8_copy_22 : decode cX8_copy 22 = .ok (.aload_n 0, 1) := by decide +kernel
theorem dX8_copy_23 : decode cX8_copy 23 = .ok (.iconst 0, 1) := by decide +kernel
theorem dX8_copy_24 : decode cX8_copy 24 = .ok (.putfield 56, 3) := by decide +kernel
theorem dX8_copy_27 : decode cX8_copy 27 = .ok (.aload_n 0, 1) := by decide +kernel
theorem dX8_copy_28 : decode cX8_copy 28 = .ok (.getfield 7, 3) := by decide +kernel
theorem dX8_copy_31 : decode cX8_copy 31 = .ok (.iload_n 1, 1) := by decide +kernel
theorem dX8_copy_32 : decode cX8_copy 32 = .ok (.iaload, 1) := by decide +kernel
theorem dX8_copy_33 : decode cX8_copy 33 = .ok (.ifCond .lt 12, 3) := by decide +kernel
theorem dX8_copy_36 : decode cX8_copy 36 = .ok (.aload_n 0, 1) := by decide +kernel
theorem dX8_copy_37 : decode cX8_copy 37 = .ok (.getfield 7, 3) := by decide +kernel
theorem dX8_copy_40 : decode cX8_copy 40 = .ok (.iload_n 3, 1) := by decide +kernel
theorem dX8_copy_41 : decode cX8_copy 41 = .ok (.iaload, 1) := by decide +kernel
theorem dX8_copy_42 : decode cX8_copy 42 = .ok (.ifCond .ge 9, 3) := by decide +kernel
theorem dX8_copy_45 : decode cX8_copy 45 = .ok (.aload_n 0, 1) := by decide +kernel
theorem dX8_copy_46 : decode cX8_copy 46 = .ok (.iconst 1, 1) := by decide +kernel
theorem dX8_copy_47 : decode cX8_copy 47 = .ok (.invokevirtual 73, 3) := by decide +kernel
theorem dX8_copy_50 : decode cX8_copy 50 = .ok (.ireturn, 1) := by decide +kernel
theorem dX8_copy_51 : decode cX8_copy 51 = .ok (.aload_n 0, 1) := by decide +kernel
theorem dX8_copy_52 : decode cX8_copy 52 = .ok (.getfield 7, 3) := by decide +kernel
theorem dX8_copy_55 : decode cX8_copy 55 = .ok (.iload_n 1, 1) := by decide +kernel
theorem dX8_copy_56 : decode cX8_copy 56 = .ok (.iaload, 1) := by decide +kernel
theorem dX8_copy_57 : decode cX8_copy 57 = .ok (.aload_n 0, 1) := by decide +kernel
theorem dX8_copy_58 : decode cX8_copy 58 = .ok (.getfield 7, 3) := by decide +kernel
theorem dX8_copy_61 : decode cX8_copy 61 = .ok (.iload_n 3, 1) := by decide +kernel
theorem dX8_copy_62 : decode cX8_copy 62 = .ok (.iaload, 1) := by decide +kernel
theorem dX8_copy_63 : decode cX8_copy 63 = .ok (.if_icmp .eq 9, 3) := by decide +kernel
theorem dX8_copy_66 : decode cX8_copy 66 = .ok (.aload_n 0, 1) := by decide +kernel
theorem dX8_copy_67 : decode cX8_copy 67 = .ok (.iconst 5, 1) := by decide +kernel
theorem dX8_copy_68 : decode cX8_copy 68 = .ok (.invokevirtual 73, 3) := by decide +kernel
theorem dX8_copy_71 : decode cX8_copy 71 = .ok (.ireturn, 1) := by decide +kernel
theorem dX8_copy_72 : decode cX8_copy 72 = .ok (.iload_n 2, 1) := by decide +kernel
theorem dX8_copy_73 : decode cX8_copy 73 = .ok (.ifCond .lt 48, 3) := by decide +kernel
theorem dX8_copy_76 : decode cX8_copy 76 = .ok (.iload 4, 2) := by decide +kernel
theorem dX8_copy_78 : decode cX8_copy 78 = .ok (.ifCond .lt 43, 3) := by decide +kernel
theorem dX8_copy_81 : decode cX8_copy 81 = .ok (.iload 5, 2) := by decide +kernel
theorem dX8_copy_83 : decode cX8_copy 83 = .ok (.ifCond .lt 38, 3) := by decide +kernel
theorem dX8_copy_86 : decode cX8_copy 86 = .ok (.iload_n 2, 1) := by decide +kernel
theorem dX8_copy_87 : decode cX8_copy 87 = .ok (.i2l, 1) := by decide +kernel
theorem dX8_copy_88 : decode cX8_copy 88 = .ok (.iload 5, 2) := by decide +kernel
theorem dX8_copy_90 : decode cX8_copy 90 = .ok (.i2l, 1) := by decide +kernel
theorem dX8_copy_91 : decode cX8_copy 91 = .ok (.ladd, 1) := by decide +kernel
theorem dX8_copy_92 : decode cX8_copy 92 = .ok (.aload_n 0, 1) := by decide +kernel
theorem dX8_copy_93 : decode cX8_copy 93 = .ok (.getfield 13, 3) := by decide +kernel
theorem dX8_copy_96 : decode cX8_copy 96 = .ok (.iload_n 1, 1) := by decide +kernel
theorem dX8_copy_97 : decode cX8_copy 97 = .ok (.iaload, 1) := by decide +kernel
theorem dX8_copy_98 : decode cX8_copy 98 = .ok (.i2l, 1) := by decide +kernel
theorem dX8_copy_99 : decode cX8_copy 99 = .ok (.lcmp, 1) := by decide +kernel
theorem dX8_copy_100 : decode cX8_copy 100 = .ok (.ifCond .gt 21, 3) := by decide +kernel
theorem dX8_copy_103 : decode cX8_copy 103 = .ok (.iload 4, 2) := by decide +kernel
theorem dX8_copy_105 : decode cX8_copy 105 = .ok (.i2l, 1) := by decide +kernel
theorem dX8_copy_106 : decode cX8_copy 106 = .ok (.iload 5, 2) := by decide +kernel
theorem dX8_copy_108 : decode cX8_copy 108 = .ok (.i2l, 1) := by decide +kernel
theorem dX8_copy_109 : decode cX8_copy 109 = .ok (.ladd, 1) := by decide +kernel
theorem dX8_copy_110 : decode cX8_copy 110 = .ok (.aload_n 0, 1) := by decide +kernel
theorem dX8_copy_111 : decode cX8_copy 111 = .ok (.getfield 13, 3) := by decide +kernel
theorem dX8_copy_114 : decode cX8_copy 114 = .ok (.iload_n 3, 1) := by decide +kernel
theorem dX8_copy_115 : decode cX8_copy 115 = .ok (.iaload, 1) := by decide +kernel
theorem dX8_copy_116 : decode cX8_copy 116 = .ok (.i2l, 1) := by decide +kernel
theorem dX8_copy_117 : decode cX8_copy 117 = .ok (.lcmp, 1) := by decide +kernel
theorem dX8_copy_118 : decode cX8_copy 118 = .ok (.ifCond .le 9, 3) := by decide +kernel
theorem dX8_copy_121 : decode cX8_copy 121 = .ok (.aload_n 0, 1) := by decide +kernel
theorem dX8_copy_122 : decode cX8_copy 122 = .ok (.iconst 2, 1) := by decide +kernel
theorem dX8_copy_123 : decode cX8_copy 123 = .ok (.invokevirtual 73, 3) := by decide +kernel
theorem dX8_copy_126 : decode cX8_copy 126 = .ok (.ireturn, 1) := by decide +kernel
theorem dX8_copy_127 : decode cX8_copy 127 = .ok (.iload_n 2, 1) := by decide +kernel
theorem dX8_copy_128 : decode cX8_copy 128 = .ok (.iload 4, 2) := by decide +kernel
theorem dX8_copy_130 : decode cX8_copy 130 = .ok (.if_icmp .lt 7, 3) := by decide +kernel
theorem dX8_copy_133 : decode cX8_copy 133 = .ok (.iconst 1, 1) := by decide +kernel
theorem dX8_copy_134 : decode cX8_copy 134 = .ok (.goto 4, 3) := by decide +kernel
theorem dX8_copy_137 : decode cX8_copy 137 = .ok (.iconst 0, 1) := by decide +kernel
theorem dX8_copy_138 : decode cX8_copy 138 = .ok (.istore 6, 2) := by decide +kernel
theorem dX8_copy_140 : decode cX8_copy 140 = .ok (.iconst 0, 1) := by decide +kernel
theorem dX8_copy_141 : decode cX8_copy 141 = .ok (.istore 7, 2) := by decide +kernel
theorem dX8_copy_143 : decode cX8_copy 143 = .ok (.iload 7, 2) := by decide +kernel
theorem dX8_copy_145 : decode cX8_copy 145 = .ok (.iload 5, 2) := by decide +kernel
theorem dX8_copy_147 : decode cX8_copy 147 = .ok (.if_icmp .ge 57, 3) := by decide +kernel
theorem dX8_copy_150 : decode cX8_copy 150 = .ok (.iload 6, 2) := by decide +kernel
theorem dX8_copy_152 : decode cX8_copy 152 = .ok (.ifCond .eq 8, 3) := by decide +kernel
theorem dX8_copy_155 : decode cX8_copy 155 = .ok (.iload 7, 2) := by decide +kernel
theorem dX8_copy_157 : decode cX8_copy 157 = .ok (.goto 10, 3) := by decide +kernel
theorem dX8_copy_160 : decode cX8_copy 160 = .ok (.iload 5, 2) := by decide +kernel
theorem dX8_copy_162 : decode cX8_copy 162 = .ok (.iconst 1, 1) := by decide +kernel
theorem dX8_copy_163 : decode cX8_copy 163 = .ok (.isub, 1) := by decide +kernel
theorem dX8_copy_164 : decode cX8_copy 164 = .ok (.iload 7, 2) := by decide +kernel
theorem dX8_copy_166 : decode cX8_copy 166 = .ok (.isub, 1) := by decide +kernel
theorem dX8_copy_167 : decode cX8_copy 167 = .ok (.istore 8, 2) := by decide +kernel
theorem dX8_copy_169 : decode cX8_copy 169 = .ok (.aload_n 0, 1) := by decide +kernel
theorem dX8_copy_170 : decode cX8_copy 170 = .ok (.getfield 16, 3) := by decide +kernel
theorem dX8_copy_173 : decode cX8_copy 173 = .ok (.bipush 60, 2) := by decide +kernel
theorem dX8_copy_175 : decode cX8_copy 175 = .ok (.iload_n 3, 1) := by decide +kernel
theorem dX8_copy_176 : decode cX8_copy 176 = .ok (.imul, 1) := by decide +kernel
theorem dX8_copy_177 : decode cX8_copy 177 = .ok (.iload 4, 2) := by decide +kernel
theorem dX8_copy_179 : decode cX8_copy 179 = .ok (.iadd, 1) := by decide +kernel
theorem dX8_copy_180 : decode cX8_copy 180 = .ok (.iload 8, 2) := by decide +kernel
theorem dX8_copy_182 : decode cX8_copy 182 = .ok (.iadd, 1) := by decide +kernel
theorem dX8_copy_183 : decode cX8_copy 183 = .ok (.aload_n 0, 1) := by decide +kernel
theorem dX8_copy_184 : decode cX8_copy 184 = .ok (.getfield 16, 3) := by decide +kernel
theorem dX8_copy_187 : decode cX8_copy 187 = .ok (.bipush 60, 2) := by decide +kernel
theorem dX8_copy_189 : decode cX8_copy 189 = .ok (.iload_n 1, 1) := by decide +kernel
theorem dX8_copy_190 : decode cX8_copy 190 = .ok (.imul, 1) := by decide +kernel
theorem dX8_copy_191 : decode cX8_copy 191 = .ok (.iload_n 2, 1) := by decide +kernel
theorem dX8_copy_192 : decode cX8_copy 192 = .ok (.iadd, 1) := by decide +kernel
theorem dX8_copy_193 : decode cX8_copy 193 = .ok (.iload 8, 2) := by decide +kernel
theorem dX8_copy_195 : decode cX8_copy 195 = .ok (.iadd, 1) := by decide +kernel
theorem dX8_copy_196 : decode cX8_copy 196 = .ok (.iaload, 1) := by decide +kernel
theorem dX8_copy_197 : decode cX8_copy 197 = .ok (.iastore, 1) := by decide +kernel
theorem dX8_copy_198 : decode cX8_copy 198 = .ok (.iinc 7 1, 3) := by decide +kernel
theorem dX8_copy_201 : decode cX8_copy 201 = .ok (.goto (-58), 3) := by decide +kernel
theorem dX8_copy_204 : decode cX8_copy 204 = .ok (.iload 5, 2) := by decide +kernel
theorem dX8_copy_206 : decode cX8_copy 206 = .ok (.ireturn, 1) := by decide +kernel
set_option maxRecDepth 20000 in
theorem ggX8_drop_X8_isSheet : GoodIn wsX8_drop wsX8_isSheet := goodIn_r _ [9, 10, 11, 12, 8, 13] (by decide +kernel) (by decide +kernel)
set_option maxRecDepth 20000 in
theorem gX8_drop_X8_isSheet : GoodIn wsX8_drop (va_wsS RX8 66 yX8_isSheet wsX8_isSheet) := goodIn_app (goodIn_of _ (by decide +kernel)) ggX8_drop_X8_isSheet
set_option maxRecDepth 20000 in
theorem ggX8_drop_X8_found : GoodIn wsX8_drop wsX8_found := goodIn_r _ [17, 3, 18, 19, 20, 21, 22, 23, 24, 25, 26, 27, 28, 29, 30, 31, 32, 33, 34, 35, 36, 37, 38, 39, 40] (by decide +kernel) (by decide +kernel)
set_option maxRecDepth 20000 in
theorem gX8_drop_X8_found : GoodIn wsX8_drop (wsV RX8 73 RX8 yX8_found wsX8_found) := goodIn_app (goodIn_of _ (by decide +kernel)) ggX8_drop_X8_found
theorem dX8_drop_0 : decode cX8_drop 0 = .ok (.aload_n 0, 1) := by decide +kernel
theorem dX8_drop_1 : decode cX8_drop 1 = .ok (.iconst 0, 1) := by decide +kernel
theorem dX8_drop_2 : decode cX8_drop 2 = .ok (.putfield 52, 3) := by decide +kernel
theorem dX8_drop_5 : decode cX8_drop 5 = .ok (.iload_n 1, 1) := by decide +kernel
theorem dX8_drop_6 : decode cX8_drop 6 = .ok (.invokestatic 66, 3) := by decide +kernel
theorem dX8_drop_9 : decode cX8_drop 9 = .ok (.ifCond .ne 6, 3) := by decide +kernel
theorem dX8_drop_12 : decode cX8_drop 12 = .ok (.ldc 72, 2) := by decide +kernel
theorem dX8_drop_14 : decode cX8_drop 14 = .ok (.ireturn, 1) := by decide +kernel
theorem dX8_drop_15 : decode cX8_drop 15 = .ok (.aload_n 0, 1) := by decide +kernel
theorem dX8_drop_16 : decode cX8_drop 16 = .ok (.iconst 0, 1) := by decide +kernel
theorem dX8_drop_17 : decode cX8_drop 17 = .ok (.putfield 56, 3) := by decide +kernel
theorem dX8_drop_20 : decode cX8_drop 20 = .ok (.aload_n 0, 1) := by decide +kernel
theorem dX8_drop_21 : decode cX8_drop 21 = .ok (.getfield 7, 3) := by decide +kernel
theorem dX8_drop_24 : decode cX8_drop 24 = .ok (.iload_n 1, 1) := by decide +kernel
theorem dX8_drop_25 : decode cX8_drop 25 = .ok (.iaload, 1) := by decide +kernel
theorem dX8_drop_26 : decode cX8_drop 26 = .ok (.ifCond .ge 9, 3) := by decide +kernel
theorem dX8_drop_29 : decode cX8_drop 29 = .ok (.aload_n 0, 1) := by decide +kernel
theorem dX8_drop_30 : decode cX8_drop 30 = .ok (.iconst 1, 1) := by decide +kernel
theorem dX8_drop_31 : decode cX8_drop 31 = .ok (.invokevirtual 73, 3) := by decide +kernel
theorem dX8_drop_34 : decode cX8_drop 34 = .ok (.ireturn, 1) := by decide +kernel
theorem dX8_drop_35 : decode cX8_drop 35 = .ok (.aload_n 0, 1) := by decide +kernel
theorem dX8_drop_36 : decode cX8_drop 36 = .ok (.getfield 7, 3) := by decide +kernel
theorem dX8_drop_39 : decode cX8_drop 39 = .ok (.iload_n 1, 1) := by decide +kernel
theorem dX8_drop_40 : decode cX8_drop 40 = .ok (.iconst (-1), 1) := by decide +kernel
theorem dX8_drop_41 : decode cX8_drop 41 = .ok (.iastore, 1) := by decide +kernel
theorem dX8_drop_42 : decode cX8_drop 42 = .ok (.aload_n 0, 1) := by decide +kernel
theorem dX8_drop_43 : decode cX8_drop 43 = .ok (.getfield 13, 3) := by decide +kernel
theorem dX8_drop_46 : decode cX8_drop 46 = .ok (.iload_n 1, 1) := by decide +kernel
theorem dX8_drop_47 : decode cX8_drop 47 = .ok (.iaload, 1) := by decide +kernel
theorem dX8_drop_48 : decode cX8_drop 48 = .ok (.ireturn, 1) := by decide +kernel
theorem dX8_mayBe_0 : decode cX8_mayBe 0 = .ok (.iload_n 1, 1) := by decide +kernel
theorem dX8_mayBe_1 : decode cX8_mayBe 1 = .ok (.bipush 7, 2) := by decide +kernel
theorem dX8_mayBe_3 : decode cX8_mayBe 3 = .ok (.if_icmp .lt 10, 3) := by decide +kernel
theorem dX8_mayBe_6 : decode cX8_mayBe 6 = .ok (.iload_n 0, 1) := by decide +kernel
theorem dX8_mayBe_7 : decode cX8_mayBe 7 = .ok (.iconst 3, 1) := by decide +kernel
theorem dX8_mayBe_8 : decode cX8_mayBe 8 = .ok (.iand, 1) := by decide +kernel
theorem dX8_mayBe_9 : decode cX8_mayBe 9 = .ok (.iconst 1, 1) := by decide +kernel
theorem dX8_mayBe_10 : decode cX8_mayBe 10 = .ok (.if_icmp .ne 7, 3) := by decide +kernel
theorem dX8_mayBe_13 : decode cX8_mayBe 13 = .ok (.iconst 1, 1) := by decide +kernel
theorem dX8_mayBe_14 : decode cX8_mayBe 14 = .ok (.goto 4, 3) := by decide +kernel
theorem dX8_mayBe_17 : decode cX8_mayBe 17 = .ok (.iconst 0, 1) := by decide +kernel
theorem dX8_mayBe_18 : decode cX8_mayBe 18 = .ok (.ireturn, 1) := by decide +kernel
theorem dX8_men_0 : decode cX8_men 0 = .ok (.iload_n 0, 1) := by decide +kernel
theorem dX8_men_1 : decode cX8_men 1 = .ok (.iconst 1, 1) := by decide +kernel
theorem dX8_men_2 : decode cX8_men 2 = .ok (.iand, 1) := by decide +kernel
theorem dX8_men_3 : decode cX8_men 3 = .ok (.iload_n 0, 1) := by decide +kernel
theorem dX8_men_4 : decode cX8_men 4 = .ok (.iconst 1, 1) := by decide +kernel
theorem dX8_men_5 : decode cX8_men 5 = .ok (.ishr, 1) := by decide +kernel
theorem dX8_men_6 : decode cX8_men 6 = .ok (.iconst 1, 1) := by decide +kernel
theorem dX8_men_7 : decode cX8_men 7 = .ok (.iand, 1) := by decide +kernel
theorem dX8_men_8 : decode cX8_men 8 = .ok (.iadd, 1) := by decide +kernel
theorem dX8_men_9 : decode cX8_men 9 = .ok (.iload_n 0, 1) := by decide +kernel
theorem dX8_men_10 : decode cX8_men 10 = .ok (.iconst 2, 1) := by decide +kernel
theorem dX8_men_11 : decode cX8_men 11 = .ok (.ishr, 1) := by decide +kernel
theorem dX8_men_12 : decode cX8_men 12 = .ok (.iconst 1, 1) := by decide +kernel
theorem dX8_men_13 : decode cX8_men 13 = .ok (.iand, 1) := by decide +kernel
theorem dX8_men_14 : decode cX8_men 14 = .ok (.iadd, 1) := by decide +kernel
theorem dX8_men_15 : decode cX8_men 15 = .ok (.ireturn, 1) := by decide +kernel
theorem dX8_next_0 : decode cX8_next 0 = .ok (.iload_n 0, 1) := by decide +kernel
theorem dX8_next_1 : decode cX8_next 1 = .ok (.bipush 7, 2) := by decide +kernel
theorem dX8_next_3 : decode cX8_next 3 = .ok (.iand, 1) := by decide +kernel
theorem dX8_next_4 : decode cX8_next 4 = .ok (.istore_n 2, 1) := by decide +kernel
theorem dX8_next_5 : decode cX8_next 5 = .ok (.iload_n 0, 1) := by decide +kernel
theorem dX8_next_6 : decode cX8_next 6 = .ok (.bipush 8, 2) := by decide +kernel
theorem dX8_next_8 : decode cX8_next 8 = .ok (.idiv, 1) := by decide +kernel
theorem dX8_next_9 : decode cX8_next 9 = .ok (.istore_n 3, 1) := by decide +kernel
theorem dX8_next_10 : decode cX8_next 10 = .ok (.iload_n 1, 1) := by decide +kernel
theorem dX8_next_11 : decode cX8_next 11 = .ok (.tableswitch 133 0 7 #[45, 51, 78, 90, 101, 106, 111, 124], 45) := by decide +kernel
theorem dX8_next_56 : decode cX8_next 56 = .ok (.iinc 3 1, 3) := by decide +kernel
theorem dX8_next_59 : decode cX8_next 59 = .ok (.goto 92, 3) := by decide +kernel
theorem dX8_next_62 : decode cX8_next 62 = .ok (.iload_n 2, 1) := by decide +kernel
theorem dX8_next_63 : decode cX8_next 63 = .ok (.iload_n 2, 1) := by decide +kernel
theorem dX8_next_64 : decode cX8_next 64 = .ok (.iconst 1, 1) := by decide +kernel
theorem dX8_next_65 : decode cX8_next 65 = .ok (.iand, 1) := by decide +kernel
theorem dX8_next_66 : decode cX8_next 66 = .ok (.ifCond .ne 7, 3) := by decide +kernel
theorem dX8_next_69 : decode cX8_next 69 = .ok (.iconst 1, 1) := by decide +kernel
theorem dX8_next_70 : decode cX8_next 70 = .ok (.goto 14, 3) := by decide +kernel
theorem dX8_next_73 : decode cX8_next 73 = .ok (.iload_n 2, 1) := by decide +kernel
theorem dX8_next_74 : decode cX8_next 74 = .ok (.iconst 2, 1) := by decide +kernel
theorem dX8_next_75 : decode cX8_next 75 = .ok (.iand, 1) := by decide +kernel
theorem dX8_next_76 : decode cX8_next 76 = .ok (.ifCond .ne 7, 3) := by decide +kernel
theorem dX8_next_79 : decode cX8_next 79 = .ok (.iconst 2, 1) := by decide +kernel
theorem dX8_next_80 : decode cX8_next 80 = .ok (.goto 4, 3) := by decide +kernel
theorem dX8_next_83 : decode cX8_next 83 = .ok (.iconst 4, 1) := by decide +kernel
theorem dX8_next_84 : decode cX8_next 84 = .ok (.ior, 1) := by decide +kernel
theorem dX8_next_85 : decode cX8_next 85 = .ok (.istore_n 2, 1) := by decide +kernel
theorem dX8_next_86 : decode cX8_next 86 = .ok (.goto 65, 3) := by decide +kernel
theorem dX8_next_89 : decode cX8_next 89 = .ok (.iload_n 2, 1) := by decide +kernel
theorem dX8_next_90 : decode cX8_next 90 = .ok (.iconst 1, 1) := by decide +kernel
theorem dX8_next_91 : decode cX8_next 91 = .ok (.ishl, 1) := by decide +kernel
theorem dX8_next_92 : decode cX8_next 92 = .ok (.bipush 7, 2) := by decide +kernel
theorem dX8_next_94 : decode cX8_next 94 = .ok (.iand, 1) := by decide +kernel
theorem dX8_next_95 : decode cX8_next 95 = .ok (.iconst 1, 1) := by decide +kernel
theorem dX8_next_96 : decode cX8_next 96 = .ok (.ior, 1) := by decide +kernel
theorem dX8_next_97 : decode cX8_next 97 = .ok (.istore_n 2, 1) := by decide +kernel
theorem dX8_next_98 : decode cX8_next 98 = .ok (.goto 53, 3) := by decide +kernel
theorem dX8_next_101 : decode cX8_next 101 = .ok (.iconst 2, 1) := by decide +kernel
theorem dX8_next_102 : decode cX8_next 102 = .ok (.iload_n 2, 1) := by decide +kernel
theorem dX8_next_103 : decode cX8_next 103 = .ok (.iconst 1, 1) := by decide +kernel
theorem dX8_next_104 : decode cX8_next 104 = .ok (.iand, 1) := by decide +kernel
theorem dX8_next_105 : decode cX8_next 105 = .ok (.iconst 2, 1) := by decide +kernel
theorem dX8_next_106 : decode cX8_next 106 = .ok (.ishl, 1) := by decide +kernel
theorem dX8_next_107 : decode cX8_next 107 = .ok (.ior, 1) := by decide +kernel
theorem dX8_next_108 : decode cX8_next 108 = .ok (.istore_n 2, 1) := by decide +kernel
theorem dX8_next_109 : decode cX8_next 109 = .ok (.goto 42, 3) := by decide +kernel
theorem dX8_next_112 : decode cX8_next 112 = .ok (.iconst 4, 1) := by decide +kernel
theorem dX8_next_113 : decode cX8_next 113 = .ok (.istore_n 2, 1) := by decide +kernel
theorem dX8_next_114 : decode cX8_next 114 = .ok (.goto 37, 3) := by decide +kernel
theorem dX8_next_117 : decode cX8_next 117 = .ok (.iconst 0, 1) := by decide +kernel
end
section
theorem dX8_next_118 : decode cX8_next 118 = .ok (.istore_n 2, 1) := by decide +kernel
theorem dX8_next_119 : decode cX8_next 119 = .ok (.goto 32, 3) := by decide +kernel
theorem dX8_next_122 : decode cX8_next 122 = .ok (.iinc 3 1, 3) := by decide +kernel
theorem dX8_next_125 : decode cX8_next 125 = .ok (.iload_n 2, 1) := by decide +kernel
theorem dX8_next_126 : decode cX8_next 126 = .ok (.iconst 1, 1) := by decide +kernel
theorem dX8_next_127 : decode cX8_next 127 = .ok (.ishl, 1) := by decide +kernel
theorem dX8_next_128 : decode cX8_next 128 = .ok (.bipush 7, 2) := by decide +kernel
theorem dX8_next_130 : decode cX8_next 130 = .ok (.iand, 1) := by decide +kernel
theorem dX8_next_131 : decode cX8_next 131 = .ok (.istore_n 2, 1) := by decide +kernel
theorem dX8_next_132 : decode cX8_next 132 = .ok (.goto 19, 3) := by decide +kernel
theorem dX8_next_135 : decode cX8_next 135 = .ok (.iload_n 2, 1) := by decide +kernel
theorem dX8_next_136 : decode cX8_next 136 = .ok (.iconst 4, 1) := by decide +kernel
theorem dX8_next_137 : decode cX8_next 137 = .ok (.iand, 1) := by decide +kernel
theorem dX8_next_138 : decode cX8_next 138 = .ok (.iconst 2, 1) := by decide +kernel
theorem dX8_next_139 : decode cX8_next 139 = .ok (.ior, 1) := by decide +kernel
theorem dX8_next_140 : decode cX8_next 140 = .ok (.istore_n 2, 1) := by decide +kernel
theorem dX8_next_141 : decode cX8_next 141 = .ok (.goto 10, 3) := by decide +kernel
theorem dX8_next_144 : decode cX8_next 144 = .ok (.iinc 3 1, 3) := by decide +kernel
theorem dX8_next_147 : decode cX8_next 147 = .ok (.iload_n 2, 1) := by decide +kernel
theorem dX8_next_148 : decode cX8_next 148 = .ok (.iconst 4, 1) := by decide +kernel
theorem dX8_next_149 : decode cX8_next 149 = .ok (.iand, 1) := by decide +kernel
theorem dX8_next_150 : decode cX8_next 150 = .ok (.istore_n 2, 1) := by decide +kernel
theorem dX8_next_151 : decode cX8_next 151 = .ok (.iload_n 3, 1) := by decide +kernel
theorem dX8_next_152 : decode cX8_next 152 = .ok (.iconst 3, 1) := by decide +kernel
theorem dX8_next_153 : decode cX8_next 153 = .ok (.if_icmp .ne 8, 3) := by decide +kernel
theorem dX8_next_156 : decode cX8_next 156 = .ok (.bipush 24, 2) := by decide +kernel
theorem dX8_next_158 : decode cX8_next 158 = .ok (.goto 9, 3) := by decide +kernel
theorem dX8_next_161 : decode cX8_next 161 = .ok (.bipush 8, 2) := by decide +kernel
theorem dX8_next_163 : decode cX8_next 163 = .ok (.iload_n 3, 1) := by decide +kernel
theorem dX8_next_164 : decode cX8_next 164 = .ok (.imul, 1) := by decide +kernel
theorem dX8_next_165 : decode cX8_next 165 = .ok (.iload_n 2, 1) := by decide +kernel
theorem dX8_next_166 : decode cX8_next 166 = .ok (.iadd, 1) := by decide +kernel
theorem dX8_next_167 : decode cX8_next 167 = .ok (.ireturn, 1) := by decide +kernel
set_option maxRecDepth 20000 in
theorem ggX8_runs_X8_men : GoodIn wsX8_runs wsX8_men := goodIn_r _ [4] (by decide +kernel) (by decide +kernel)
set_option maxRecDepth 20000 in
theorem gX8_runs_X8_men : GoodIn wsX8_runs (va_wsS RX8 77 yX8_men wsX8_men) := goodIn_app (goodIn_of _ (by decide +kernel)) ggX8_runs_X8_men
theorem dX8_runs_0 : decode cX8_runs 0 = .ok (.iload_n 0, 1) := by decide +kernel
theorem dX8_runs_1 : decode cX8_runs 1 = .ok (.bipush 7, 2) := by decide +kernel
theorem dX8_runs_3 : decode cX8_runs 3 = .ok (.iand, 1) := by decide +kernel
theorem dX8_runs_4 : decode cX8_runs 4 = .ok (.istore_n 2, 1) := by decide +kernel
theorem dX8_runs_5 : decode cX8_runs 5 = .ok (.iload_n 1, 1) := by decide +kernel
theorem dX8_runs_6 : decode cX8_runs 6 = .ok (.tableswitch 89 1 6 #[38, 50, 54, 61, 66, 73], 38) := by decide +kernel
theorem dX8_runs_44 : decode cX8_runs 44 = .ok (.iload_n 2, 1) := by decide +kernel
theorem dX8_runs_45 : decode cX8_runs 45 = .ok (.bipush 7, 2) := by decide +kernel
theorem dX8_runs_47 : decode cX8_runs 47 = .ok (.if_icmp .ne 7, 3) := by decide +kernel
theorem dX8_runs_50 : decode cX8_runs 50 = .ok (.iconst 1, 1) := by decide +kernel
theorem dX8_runs_51 : decode cX8_runs 51 = .ok (.goto 4, 3) := by decide +kernel
theorem dX8_runs_54 : decode cX8_runs 54 = .ok (.iconst 0, 1) := by decide +kernel
theorem dX8_runs_55 : decode cX8_runs 55 = .ok (.ireturn, 1) := by decide +kernel
theorem dX8_runs_56 : decode cX8_runs 56 = .ok (.iload_n 2, 1) := by decide +kernel
theorem dX8_runs_57 : decode cX8_runs 57 = .ok (.iconst 2, 1) := by decide +kernel
theorem dX8_runs_58 : decode cX8_runs 58 = .ok (.ishr, 1) := by decide +kernel
theorem dX8_runs_59 : decode cX8_runs 59 = .ok (.ireturn, 1) := by decide +kernel
theorem dX8_runs_60 : decode cX8_runs 60 = .ok (.iload_n 2, 1) := by decide +kernel
theorem dX8_runs_61 : decode cX8_runs 61 = .ok (.iconst 1, 1) := by decide +kernel
theorem dX8_runs_62 : decode cX8_runs 62 = .ok (.ishr, 1) := by decide +kernel
theorem dX8_runs_63 : decode cX8_runs 63 = .ok (.invokestatic 77, 3) := by decide +kernel
theorem dX8_runs_66 : decode cX8_runs 66 = .ok (.ireturn, 1) := by decide +kernel
theorem dX8_runs_67 : decode cX8_runs 67 = .ok (.iload_n 2, 1) := by decide +kernel
theorem dX8_runs_68 : decode cX8_runs 68 = .ok (.invokestatic 77, 3) := by decide +kernel
theorem dX8_runs_71 : decode cX8_runs 71 = .ok (.ireturn, 1) := by decide +kernel
theorem dX8_runs_72 : decode cX8_runs 72 = .ok (.iload_n 2, 1) := by decide +kernel
theorem dX8_runs_73 : decode cX8_runs 73 = .ok (.invokestatic 77, 3) := by decide +kernel
theorem dX8_runs_76 : decode cX8_runs 76 = .ok (.iconst 1, 1) := by decide +kernel
theorem dX8_runs_77 : decode cX8_runs 77 = .ok (.iadd, 1) := by decide +kernel
theorem dX8_runs_78 : decode cX8_runs 78 = .ok (.ireturn, 1) := by decide +kernel
theorem dX8_runs_79 : decode cX8_runs 79 = .ok (.iload_n 0, 1) := by decide +kernel
theorem dX8_runs_80 : decode cX8_runs 80 = .ok (.bipush 8, 2) := by decide +kernel
theorem dX8_runs_82 : decode cX8_runs 82 = .ok (.idiv, 1) := by decide +kernel
theorem dX8_runs_83 : decode cX8_runs 83 = .ok (.iconst 2, 1) := by decide +kernel
theorem dX8_runs_84 : decode cX8_runs 84 = .ok (.if_icmp .ne 7, 3) := by decide +kernel
theorem dX8_runs_87 : decode cX8_runs 87 = .ok (.iconst 0, 1) := by decide +kernel
theorem dX8_runs_88 : decode cX8_runs 88 = .ok (.goto 6, 3) := by decide +kernel
theorem dX8_runs_91 : decode cX8_runs 91 = .ok (.iload_n 2, 1) := by decide +kernel
theorem dX8_runs_92 : decode cX8_runs 92 = .ok (.iconst 2, 1) := by decide +kernel
theorem dX8_runs_93 : decode cX8_runs 93 = .ok (.ishr, 1) := by decide +kernel
theorem dX8_runs_94 : decode cX8_runs 94 = .ok (.ireturn, 1) := by decide +kernel
theorem dX8_runs_95 : decode cX8_runs 95 = .ok (.iconst 0, 1) := by decide +kernel
theorem dX8_runs_96 : decode cX8_runs 96 = .ok (.ireturn, 1) := by decide +kernel
set_option maxRecDepth 20000 in
theorem ggX8_behind_X8_in : GoodIn wsX8_behind wsX8_in := goodIn_r _ [9] (by decide +kernel) (by decide +kernel)
set_option maxRecDepth 20000 in
theorem gX8_behind_X8_in : GoodIn wsX8_behind (va_wsS RX8 62 yX8_in wsX8_in) := goodIn_app (goodIn_of _ (by decide +kernel)) ggX8_behind_X8_in
set_option maxRecDepth 20000 in
theorem ggX8_behind_X8_mayBe : GoodIn wsX8_behind wsX8_mayBe := goodIn_r _ [12] (by decide +kernel) (by decide +kernel)
set_option maxRecDepth 20000 in
theorem gX8_behind_X8_mayBe : GoodIn wsX8_behind (va_wsS RX8 84 yX8_mayBe wsX8_mayBe) := goodIn_app (goodIn_of _ (by decide +kernel)) ggX8_behind_X8_mayBe
set_option maxRecDepth 20000 in
theorem ggX8_behind_X8_next : GoodIn wsX8_behind wsX8_next := goodIn_r _ [15] (by decide +kernel) (by decide +kernel)
set_option maxRecDepth 20000 in
theorem gX8_behind_X8_next : GoodIn wsX8_behind (va_wsS RX8 88 yX8_next wsX8_next) := goodIn_app (goodIn_of _ (by decide +kernel)) ggX8_behind_X8_next
set_option maxRecDepth 20000 in
theorem ggX8_behind_X8_runs : GoodIn wsX8_behind wsX8_runs := goodIn_r _ [18, 19, 20, 8, 21] (by decide +kernel) (by decide +kernel)
set_option maxRecDepth 20000 in
theorem gX8_behind_X8_runs : GoodIn wsX8_behind (va_wsS RX8 92 yX8_runs wsX8_runs) := goodIn_app (goodIn_of _ (by decide +kernel)) ggX8_behind_X8_runs
theorem dX8_behind_0 : decode cX8_behind 0 = .ok (.aload_n 0, 1) := by decide +kernel
theorem dX8_behind_1 : decode cX8_behind 1 = .ok (.iconst 0, 1) := by decide +kernel
theorem dX8_behind_2 : decode cX8_behind 2 = .ok (.putfield 52, 3) := by decide +kernel
theorem dX8_behind_5 : decode cX8_behind 5 = .ok (.iload_n 1, 1) := by decide +kernel
theorem dX8_behind_6 : decode cX8_behind 6 = .ok (.i2l, 1) := by decide +kernel
theorem dX8_behind_7 : decode cX8_behind 7 = .ok (.lconst 0, 1) := by decide +kernel
theorem dX8_behind_8 : decode cX8_behind 8 = .ok (.ldc2_w 80, 3) := by decide +kernel
theorem dX8_behind_11 : decode cX8_behind 11 = .ok (.invokestatic 62, 3) := by decide +kernel
theorem dX8_behind_14 : decode cX8_behind 14 = .ok (.ifCond .eq 25, 3) := by decide +kernel
theorem dX8_behind_17 : decode cX8_behind 17 = .ok (.iload_n 2, 1) := by decide +kernel
theorem dX8_behind_18 : decode cX8_behind 18 = .ok (.i2l, 1) := by decide +kernel
theorem dX8_behind_19 : decode cX8_behind 19 = .ok (.lconst 0, 1) := by decide +kernel
theorem dX8_behind_20 : decode cX8_behind 20 = .ok (.ldc2_w 82, 3) := by decide +kernel
theorem dX8_behind_23 : decode cX8_behind 23 = .ok (.invokestatic 62, 3) := by decide +kernel
theorem dX8_behind_26 : decode cX8_behind 26 = .ok (.ifCond .eq 13, 3) := by decide +kernel
theorem dX8_behind_29 : decode cX8_behind 29 = .ok (.iload_n 3, 1) := by decide +kernel
theorem dX8_behind_30 : decode cX8_behind 30 = .ok (.i2l, 1) := by decide +kernel
theorem dX8_behind_31 : decode cX8_behind 31 = .ok (.lconst 0, 1) := by decide +kernel
theorem dX8_behind_32 : decode cX8_behind 32 = .ok (.lconst 1, 1) := by decide +kernel
theorem dX8_behind_33 : decode cX8_behind 33 = .ok (.invokestatic 62, 3) := by decide +kernel
theorem dX8_behind_36 : decode cX8_behind 36 = .ok (.ifCond .ne 6, 3) := by decide +kernel
theorem dX8_behind_39 : decode cX8_behind 39 = .ok (.ldc 72, 2) := by decide +kernel
theorem dX8_behind_41 : decode cX8_behind 41 = .ok (.ireturn, 1) := by decide +kernel
theorem dX8_behind_42 : decode cX8_behind 42 = .ok (.iload_n 1, 1) := by decide +kernel
theorem dX8_behind_43 : decode cX8_behind 43 = .ok (.iload_n 2, 1) := by decide +kernel
theorem dX8_behind_44 : decode cX8_behind 44 = .ok (.invokestatic 84, 3) := by decide +kernel
theorem dX8_behind_47 : decode cX8_behind 47 = .ok (.ifCond .ne 8, 3) := by decide +kernel
theorem dX8_behind_50 : decode cX8_behind 50 = .ok (.ldc 35, 2) := by decide +kernel
theorem dX8_behind_52 : decode cX8_behind 52 = .ok (.goto 20, 3) := by decide +kernel
theorem dX8_behind_55 : decode cX8_behind 55 = .ok (.iload_n 3, 1) := by decide +kernel
theorem dX8_behind_56 : decode cX8_behind 56 = .ok (.ifCond .ne 11, 3) := by decide +kernel
theorem dX8_behind_59 : decode cX8_behind 59 = .ok (.iload_n 1, 1) := by decide +kernel
theorem dX8_behind_60 : decode cX8_behind 60 = .ok (.iload_n 2, 1) := by decide +kernel
theorem dX8_behind_61 : decode cX8_behind 61 = .ok (.invokestatic 88, 3) := by decide +kernel
theorem dX8_behind_64 : decode cX8_behind 64 = .ok (.goto 8, 3) := by decide +kernel
theorem dX8_behind_67 : decode cX8_behind 67 = .ok (.iload_n 1, 1) := by decide +kernel
theorem dX8_behind_68 : decode cX8_behind 68 = .ok (.iload_n 2, 1) := by decide +kernel
theorem dX8_behind_69 : decode cX8_behind 69 = .ok (.invokestatic 92, 3) := by decide +kernel
theorem dX8_behind_72 : decode cX8_behind 72 = .ok (.ireturn, 1) := by decide +kernel
set_option maxRecDepth 20000 in
theorem ggX8_isStriker_X8_in : GoodIn wsX8_isStriker wsX8_in := goodIn_r _ [5] (by decide +kernel) (by decide +kernel)
set_option maxRecDepth 20000 in
theorem gX8_isStriker_X8_in : GoodIn wsX8_isStriker (va_wsS RX8 62 yX8_in wsX8_in) := goodIn_app (goodIn_of _ (by decide +kernel)) ggX8_isStriker_X8_in
theorem dX8_isStriker_0 : decode cX8_isStriker 0 = .ok (.iload_n 1, 1) := by decide +kernel
theorem dX8_isStriker_1 : decode cX8_isStriker 1 = .ok (.i2l, 1) := by decide +kernel
theorem dX8_isStriker_2 : decode cX8_isStriker 2 = .ok (.lconst 0, 1) := by decide +kernel
theorem dX8_isStriker_3 : decode cX8_isStriker 3 = .ok (.aload_n 0, 1) := by decide +kernel
theorem dX8_isStriker_4 : decode cX8_isStriker 4 = .ok (.getfield 95, 3) := by decide +kernel
theorem dX8_isStriker_7 : decode cX8_isStriker 7 = .ok (.iconst 1, 1) := by decide +kernel
theorem dX8_isStriker_8 : decode cX8_isStriker 8 = .ok (.isub, 1) := by decide +kernel
theorem dX8_isStriker_9 : decode cX8_isStriker 9 = .ok (.i2l, 1) := by decide +kernel
theorem dX8_isStriker_10 : decode cX8_isStriker 10 = .ok (.invokestatic 62, 3) := by decide +kernel
theorem dX8_isStriker_13 : decode cX8_isStriker 13 = .ok (.ireturn, 1) := by decide +kernel
set_option maxRecDepth 20000 in
theorem ggX8_isChance_X8_in : GoodIn wsX8_isChance wsX8_in := goodIn_r _ [5] (by decide +kernel) (by decide +kernel)
set_option maxRecDepth 20000 in
theorem gX8_isChance_X8_in : GoodIn wsX8_isChance (va_wsS RX8 62 yX8_in wsX8_in) := goodIn_app (goodIn_of _ (by decide +kernel)) ggX8_isChance_X8_in
theorem dX8_isChance_0 : decode cX8_isChance 0 = .ok (.iload_n 0, 1) := by decide +kernel
theorem dX8_isChance_1 : decode cX8_isChance 1 = .ok (.i2l, 1) := by decide +kernel
theorem dX8_isChance_2 : decode cX8_isChance 2 = .ok (.lconst 0, 1) := by decide +kernel
theorem dX8_isChance_3 : decode cX8_isChance 3 = .ok (.ldc2_w 98, 3) := by decide +kernel
theorem dX8_isChance_6 : decode cX8_isChance 6 = .ok (.invokestatic 62, 3) := by decide +kernel
theorem dX8_isChance_9 : decode cX8_isChance 9 = .ok (.ireturn, 1) := by decide +kernel
theorem dX8_settle_0 : decode cX8_settle 0 = .ok (.aload_n 0, 1) := by decide +kernel
theorem dX8_settle_1 : decode cX8_settle 1 = .ok (.getfield 19, 3) := by decide +kernel
theorem dX8_settle_4 : decode cX8_settle 4 = .ok (.bipush 7, 2) := by decide +kernel
theorem dX8_settle_6 : decode cX8_settle 6 = .ok (.iload_n 1, 1) := by decide +kernel
theorem dX8_settle_7 : decode cX8_settle 7 = .ok (.imul, 1) := by decide +kernel
theorem dX8_settle_8 : decode cX8_settle 8 = .ok (.sipush 1000, 3) := by decide +kernel
theorem dX8_settle_11 : decode cX8_settle 11 = .ok (.aload_n 0, 1) := by decide +kernel
theorem dX8_settle_12 : decode cX8_settle 12 = .ok (.getfield 19, 3) := by decide +kernel
theorem dX8_settle_15 : decode cX8_settle 15 = .ok (.bipush 7, 2) := by decide +kernel
theorem dX8_settle_17 : decode cX8_settle 17 = .ok (.iload_n 1, 1) := by decide +kernel
theorem dX8_settle_18 : decode cX8_settle 18 = .ok (.imul, 1) := by decide +kernel
theorem dX8_settle_19 : decode cX8_settle 19 = .ok (.iconst 1, 1) := by decide +kernel
theorem dX8_settle_20 : decode cX8_settle 20 = .ok (.iadd, 1) := by decide +kernel
theorem dX8_settle_21 : decode cX8_settle 21 = .ok (.iaload, 1) := by decide +kernel
theorem dX8_settle_22 : decode cX8_settle 22 = .ok (.isub, 1) := by decide +kernel
theorem dX8_settle_23 : decode cX8_settle 23 = .ok (.aload_n 0, 1) := by decide +kernel
theorem dX8_settle_24 : decode cX8_settle 24 = .ok (.getfield 19, 3) := by decide +kernel
theorem dX8_settle_27 : decode cX8_settle 27 = .ok (.bipush 7, 2) := by decide +kernel
theorem dX8_settle_29 : decode cX8_settle 29 = .ok (.iload_n 1, 1) := by decide +kernel
theorem dX8_settle_30 : decode cX8_settle 30 = .ok (.imul, 1) := by decide +kernel
theorem dX8_settle_31 : decode cX8_settle 31 = .ok (.iconst 2, 1) := by decide +kernel
theorem dX8_settle_32 : decode cX8_settle 32 = .ok (.iadd, 1) := by decide +kernel
theorem dX8_settle_33 : decode cX8_settle 33 = .ok (.iaload, 1) := by decide +kernel
theorem dX8_settle_34 : decode cX8_settle 34 = .ok (.isub, 1) := by decide +kernel
theorem dX8_settle_35 : decode cX8_settle 35 = .ok (.aload_n 0, 1) := by decide +kernel
theorem dX8_settle_36 : decode cX8_settle 36 = .ok (.getfield 19, 3) := by decide +kernel
theorem dX8_settle_39 : decode cX8_settle 39 = .ok (.bipush 7, 2) := by decide +kernel
theorem dX8_settle_41 : decode cX8_settle 41 = .ok (.iload_n 1, 1) := by decide +kernel
theorem dX8_settle_42 : decode cX8_settle 42 = .ok (.imul, 1) := by decide +kernel
theorem dX8_settle_43 : decode cX8_settle 43 = .ok (.iconst 3, 1) := by decide +kernel
theorem dX8_settle_44 : decode cX8_settle 44 = .ok (.iadd, 1) := by decide +kernel
theorem dX8_settle_45 : decode cX8_settle 45 = .ok (.iaload, 1) := by decide +kernel
theorem dX8_settle_46 : decode cX8_settle 46 = .ok (.isub, 1) := by decide +kernel
theorem dX8_settle_47 : decode cX8_settle 47 = .ok (.aload_n 0, 1) := by decide +kernel
theorem dX8_settle_48 : decode cX8_settle 48 = .ok (.getfield 19, 3) := by decide +kernel
theorem dX8_settle_51 : decode cX8_settle 51 = .ok (.bipush 7, 2) := by decide +kernel
theorem dX8_settle_53 : decode cX8_settle 53 = .ok (.iload_n 1, 1) := by decide +kernel
theorem dX8_settle_54 : decode cX8_settle 54 = .ok (.imul, 1) := by decide +kernel
theorem dX8_settle_55 : decode cX8_settle 55 = .ok (.iconst 4, 1) := by decide +kernel
theorem dX8_settle_56 : decode cX8_settle 56 = .ok (.iadd, 1) := by decide +kernel
theorem dX8_settle_57 : decode cX8_settle 57 = .ok (.iaload, 1) := by decide +kernel
theorem dX8_settle_58 : decode cX8_settle 58 = .ok (.isub, 1) := by decide +kernel
theorem dX8_settle_59 : decode cX8_settle 59 = .ok (.aload_n 0, 1) := by decide +kernel
theorem dX8_settle_60 : decode cX8_settle 60 = .ok (.getfield 19, 3) := by decide +kernel
theorem dX8_settle_63 : decode cX8_settle 63 = .ok (.bipush 7, 2) := by decide +kernel
theorem dX8_settle_65 : decode cX8_settle 65 = .ok (.iload_n 1, 1) := by decide +kernel
theorem dX8_settle_66 : decode cX8_settle 66 = .ok (.imul, 1) := by decide +kernel
theorem dX8_settle_67 : decode cX8_settle 67 = .ok (.iconst 5, 1) := by decide +kernel
theorem dX8_settle_68 : decode cX8_settle 68 = .ok (.iadd, 1) := by decide +kernel
theorem dX8_settle_69 : decode cX8_settle 69 = .ok (.iaload, 1) := by decide +kernel
theorem dX8_settle_70 : decode cX8_settle 70 = .ok (.isub, 1) := by decide +kernel
theorem dX8_settle_71 : decode cX8_settle 71 = .ok (.iastore, 1) := by decide +kernel
theorem dX8_settle_72 : decode cX8_settle 72 = .ok (.return_, 1) := by decide +kernel
set_option maxRecDepth 20000 in
theorem ggX8_striker_X8_isChance : GoodIn wsX8_striker wsX8_isChance := goodIn_r _ [9, 10, 11, 12, 8, 13] (by decide +kernel) (by decide +kernel)
set_option maxRecDepth 20000 in
theorem gX8_striker_X8_isChance : GoodIn wsX8_striker (va_wsS RX8 100 yX8_isChance wsX8_isChance) := goodIn_app (goodIn_of _ (by decide +kernel)) ggX8_striker_X8_isChance
set_option maxRecDepth 20000 in
theorem ggX8_striker_X8_settle : GoodIn wsX8_striker wsX8_settle := goodIn_r _ [17, 5, 18, 19, 20, 21, 22, 23, 24, 25, 26, 27, 28, 29, 30, 31, 32, 33, 34, 35, 36, 37, 38, 39] (by decide +kernel) (by decide +kernel)
set_option maxRecDepth 20000 in
theorem gX8_striker_X8_settle : GoodIn wsX8_striker (wsV RX8 104 RX8 yX8_settle wsX8_settle) := goodIn_app (goodIn_of _ (by decide +kernel)) ggX8_striker_X8_settle
theorem dX8_striker_0 : decode cX8_striker 0 = .ok (.aload_n 0, 1) := by decide +kernel
theorem dX8_striker_1 : decode cX8_striker 1 = .ok (.iconst 0, 1) := by decide +kernel
theorem dX8_striker_2 : decode cX8_striker 2 = .ok (.putfield 52, 3) := by decide +kernel
theorem dX8_striker_5 : decode cX8_striker 5 = .ok (.iload_n 1, 1) := by decide +kernel
theorem dX8_striker_6 : decode cX8_striker 6 = .ok (.invokestatic 100, 3) := by decide +kernel
theorem dX8_striker_9 : decode cX8_striker 9 = .ok (.ifCond .eq 58, 3) := by decide +kernel
theorem dX8_striker_12 : decode cX8_striker 12 = .ok (.iload_n 2, 1) := by decide +kernel
theorem dX8_striker_13 : decode cX8_striker 13 = .ok (.invokestatic 100, 3) := by decide +kernel
theorem dX8_striker_16 : decode cX8_striker 16 = .ok (.ifCond .eq 51, 3) := by decide +kernel
theorem dX8_striker_19 : decode cX8_striker 19 = .ok (.iload_n 3, 1) := by decide +kernel
theorem dX8_striker_20 : decode cX8_striker 20 = .ok (.invokestatic 100, 3) := by decide +kernel
theorem dX8_striker_23 : decode cX8_striker 23 = .ok (.ifCond .eq 44, 3) := by decide +kernel
theorem dX8_striker_26 : decode cX8_striker 26 = .ok (.iload 4, 2) := by decide +kernel
theorem dX8_striker_28 : decode cX8_striker 28 = .ok (.invokestatic 100, 3) := by decide +kernel
theorem dX8_striker_31 : decode cX8_striker 31 = .ok (.ifCond .eq 36, 3) := by decide +kernel
theorem dX8_striker_34 : decode cX8_striker 34 = .ok (.iload 5, 2) := by decide +kernel
theorem dX8_striker_36 : decode cX8_striker 36 = .ok (.invokestatic 100, 3) := by decide +kernel
theorem dX8_striker_39 : decode cX8_striker 39 = .ok (.ifCond .eq 28, 3) := by decide +kernel
theorem dX8_striker_42 : decode cX8_striker 42 = .ok (.iload 6, 2) := by decide +kernel
theorem dX8_striker_44 : decode cX8_striker 44 = .ok (.invokestatic 100, 3) := by decide +kernel
theorem dX8_striker_47 : decode cX8_striker 47 = .ok (.ifCond .eq 20, 3) := by decide +kernel
theorem dX8_striker_50 : decode cX8_striker 50 = .ok (.iload_n 1, 1) := by decide +kernel
theorem dX8_striker_51 : decode cX8_striker 51 = .ok (.iload_n 2, 1) := by decide +kernel
theorem dX8_striker_52 : decode cX8_striker 52 = .ok (.iadd, 1) := by decide +kernel
theorem dX8_striker_53 : decode cX8_striker 53 = .ok (.iload_n 3, 1) := by decide +kernel
theorem dX8_striker_54 : decode cX8_striker 54 = .ok (.iadd, 1) := by decide +kernel
theorem dX8_striker_55 : decode cX8_striker 55 = .ok (.iload 4, 2) := by decide +kernel
theorem dX8_striker_57 : decode cX8_striker 57 = .ok (.iadd, 1) := by decide +kernel
theorem dX8_striker_58 : decode cX8_striker 58 = .ok (.iload 5, 2) := by decide +kernel
theorem dX8_striker_60 : decode cX8_striker 60 = .ok (.iadd, 1) := by decide +kernel
theorem dX8_striker_61 : decode cX8_striker 61 = .ok (.sipush 1000, 3) := by decide +kernel
theorem dX8_striker_64 : decode cX8_striker 64 = .ok (.if_icmp .le 6, 3) := by decide +kernel
theorem dX8_striker_67 : decode cX8_striker 67 = .ok (.ldc 72, 2) := by decide +kernel
theorem dX8_striker_69 : decode cX8_striker 69 = .ok (.ireturn, 1) := by decide +kernel
theorem dX8_striker_70 : decode cX8_striker 70 = .ok (.aload_n 0, 1) := by decide +kernel
theorem dX8_striker_71 : decode cX8_striker 71 = .ok (.getfield 95, 3) := by decide +kernel
theorem dX8_striker_74 : decode cX8_striker 74 = .ok (.bipush 12, 2) := by decide +kernel
theorem dX8_striker_76 : decode cX8_striker 76 = .ok (.if_icmp .ne 6, 3) := by decide +kernel
theorem dX8_striker_79 : decode cX8_striker 79 = .ok (.ldc 103, 2) := by decide +kernel
theorem dX8_striker_81 : decode cX8_striker 81 = .ok (.ireturn, 1) := by decide +kernel
theorem dX8_striker_82 : decode cX8_striker 82 = .ok (.bipush 7, 2) := by decide +kernel
theorem dX8_striker_84 : decode cX8_striker 84 = .ok (.aload_n 0, 1) := by decide +kernel
theorem dX8_striker_85 : decode cX8_striker 85 = .ok (.getfield 95, 3) := by decide +kernel
theorem dX8_striker_88 : decode cX8_striker 88 = .ok (.imul, 1) := by decide +kernel
theorem dX8_striker_89 : decode cX8_striker 89 = .ok (.istore 7, 2) := by decide +kernel
theorem dX8_striker_91 : decode cX8_striker 91 = .ok (.aload_n 0, 1) := by decide +kernel
theorem dX8_striker_92 : decode cX8_striker 92 = .ok (.getfield 19, 3) := by decide +kernel
theorem dX8_striker_95 : decode cX8_striker 95 = .ok (.iload 7, 2) := by decide +kernel
theorem dX8_striker_97 : decode cX8_striker 97 = .ok (.iconst 1, 1) := by decide +kernel
theorem dX8_striker_98 : decode cX8_striker 98 = .ok (.iadd, 1) := by decide +kernel
theorem dX8_striker_99 : decode cX8_striker 99 = .ok (.iload_n 1, 1) := by decide +kernel
theorem dX8_striker_100 : decode cX8_striker 100 = .ok (.iastore, 1) := by decide +kernel
theorem dX8_striker_101 : decode cX8_striker 101 = .ok (.aload_n 0, 1) := by decide +kernel
theorem dX8_striker_102 : decode cX8_striker 102 = .ok (.getfield 19, 3) := by decide +kernel
theorem dX8_striker_105 : decode cX8_striker 105 = .ok (.iload 7, 2) := by decide +kernel
theorem dX8_striker_107 : decode cX8_striker 107 = .ok (.iconst 2, 1) := by decide +kernel
theorem dX8_striker_108 : decode cX8_striker 108 = .ok (.iadd, 1) := by decide +kernel
theorem dX8_striker_109 : decode cX8_striker 109 = .ok (.iload_n 2, 1) := by decide +kernel
theorem dX8_striker_110 : decode cX8_striker 110 = .ok (.iastore, 1) := by decide +kernel
theorem dX8_striker_111 : decode cX8_striker 111 = .ok (.aload_n 0, 1) := by decide +kernel
theorem dX8_striker_112 : decode cX8_striker 112 = .ok (.getfield 19, 3) := by decide +kernel
theorem dX8_striker_115 : decode cX8_striker 115 = .ok (.iload 7, 2) := by decide +kernel
theorem dX8_striker_117 : decode cX8_striker 117 = .ok (.iconst 3, 1) := by decide +kernel
theorem dX8_striker_118 : decode cX8_striker 118 = .ok (.iadd, 1) := by decide +kernel
theorem dX8_striker_119 : decode cX8_striker 119 = .ok (.iload_n 3, 1) := by decide +kernel
theorem dX8_striker_120 : decode cX8_striker 120 = .ok (.iastore, 1) := by decide +kernel
theorem dX8_striker_121 : decode cX8_striker 121 = .ok (.aload_n 0, 1) := by decide +kernel
theorem dX8_striker_122 : decode cX8_striker 122 = .ok (.getfield 19, 3) := by decide +kernel
theorem dX8_striker_125 : decode cX8_striker 125 = .ok (.iload 7, 2) := by decide +kernel
theorem dX8_striker_127 : decode cX8_striker 127 = .ok (.iconst 4, 1) := by decide +kernel
theorem dX8_striker_128 : decode cX8_striker 128 = .ok (.iadd, 1) := by decide +kernel
theorem dX8_striker_129 : decode cX8_striker 129 = .ok (.iload 4, 2) := by decide +kernel
theorem dX8_striker_131 : decode cX8_striker 131 = .ok (.iastore, 1) := by decide +kernel
theorem dX8_striker_132 : decode cX8_striker 132 = .ok (.aload_n 0, 1) := by decide +kernel
theorem dX8_striker_133 : decode cX8_striker 133 = .ok (.getfield 19, 3) := by decide +kernel
theorem dX8_striker_136 : decode cX8_striker 136 = .ok (.iload 7, 2) := by decide +kernel
theorem dX8_striker_138 : decode cX8_striker 138 = .ok (.iconst 5, 1) := by decide +kernel
theorem dX8_striker_139 : decode cX8_striker 139 = .ok (.iadd, 1) := by decide +kernel
theorem dX8_striker_140 : decode cX8_striker 140 = .ok (.iload 5, 2) := by decide +kernel
theorem dX8_striker_142 : decode cX8_striker 142 = .ok (.iastore, 1) := by decide +kernel
theorem dX8_striker_143 : decode cX8_striker 143 = .ok (.aload_n 0, 1) := by decide +kernel
theorem dX8_striker_144 : decode cX8_striker 144 = .ok (.getfield 19, 3) := by decide +kernel
theorem dX8_striker_147 : decode cX8_striker 147 = .ok (.iload 7, 2) := by decide +kernel
theorem dX8_striker_149 : decode cX8_striker 149 = .ok (.bipush 6, 2) := by decide +kernel
theorem dX8_striker_151 : decode cX8_striker 151 = .ok (.iadd, 1) := by decide +kernel
theorem dX8_striker_152 : decode cX8_striker 152 = .ok (.iload 6, 2) := by decide +kernel
theorem dX8_striker_154 : decode cX8_striker 154 = .ok (.iastore, 1) := by decide +kernel
theorem dX8_striker_155 : decode cX8_striker 155 = .ok (.aload_n 0, 1) := by decide +kernel
theorem dX8_striker_156 : decode cX8_striker 156 = .ok (.aload_n 0, 1) := by decide +kernel
theorem dX8_striker_157 : decode cX8_striker 157 = .ok (.getfield 95, 3) := by decide +kernel
theorem dX8_striker_160 : decode cX8_striker 160 = .ok (.invokevirtual 104, 3) := by decide +kernel
theorem dX8_striker_163 : decode cX8_striker 163 = .ok (.aload_n 0, 1) := by decide +kernel
theorem dX8_striker_164 : decode cX8_striker 164 = .ok (.dup, 1) := by decide +kernel
theorem dX8_striker_165 : decode cX8_striker 165 = .ok (.getfield 95, 3) := by decide +kernel
theorem dX8_striker_168 : decode cX8_striker 168 = .ok (.iconst 1, 1) := by decide +kernel
theorem dX8_striker_169 : decode cX8_striker 169 = .ok (.iadd, 1) := by decide +kernel
theorem dX8_striker_170 : decode cX8_striker 170 = .ok (.putfield 95, 3) := by decide +kernel
theorem dX8_striker_173 : decode cX8_striker 173 = .ok (.aload_n 0, 1) := by decide +kernel
theorem dX8_striker_174 : decode cX8_striker 174 = .ok (.getfield 95, 3) := by decide +kernel
theorem dX8_striker_177 : decode cX8_striker 177 = .ok (.iconst 1, 1) := by decide +kernel
theorem dX8_striker_178 : decode cX8_striker 178 = .ok (.isub, 1) := by decide +kernel
theorem dX8_striker_179 : decode cX8_striker 179 = .ok (.ireturn, 1) := by decide +kernel
set_option maxRecDepth 20000 in
theorem ggX8_train_X8_isStriker : GoodIn wsX8_train wsX8_isStriker := goodIn_r _ [10, 11, 12, 13, 9, 14, 23, 24, 25, 26, 27, 28, 29, 30, 31, 32, 33, 34, 35, 36, 37, 38, 39, 40, 41, 42, 43, 44] (by decide +kernel) (by decide +kernel)
set_option maxRecDepth 20000 in
theorem gX8_train_X8_isStriker : GoodIn wsX8_train (wsV RX8 108 RX8 yX8_isStriker wsX8_isStriker) := goodIn_app (goodIn_of _ (by decide +kernel)) ggX8_train_X8_isStriker
set_option maxRecDepth 20000 in
theorem ggX8_train_X8_in : GoodIn wsX8_train wsX8_in := goodIn_r _ [14] (by decide +kernel) (by decide +kernel)
set_option maxRecDepth 20000 in
theorem gX8_train_X8_in : GoodIn wsX8_train (va_wsS RX8 62 yX8_in wsX8_in) := goodIn_app (goodIn_of _ (by decide +kernel)) ggX8_train_X8_in
set_option maxRecDepth 20000 in
theorem ggX8_train_X8_isChance : GoodIn wsX8_train wsX8_isChance := goodIn_r _ [17, 18, 12, 13, 9, 14] (by decide +kernel) (by decide +kernel)
set_option maxRecDepth 20000 in
theorem gX8_train_X8_isChance : GoodIn wsX8_train (va_wsS RX8 100 yX8_isChance wsX8_isChance) := goodIn_app (goodIn_of _ (by decide +kernel)) ggX8_train_X8_isChance
set_option maxRecDepth 20000 in
theorem ggX8_train_X8_settle : GoodIn wsX8_train wsX8_settle := goodIn_r _ [22, 4, 23, 24, 25, 26, 27, 28, 29, 30, 31, 32, 33, 34, 35, 36, 37, 38, 39, 40, 41, 42, 43, 44] (by decide +kernel) (by decide +kernel)
set_option maxRecDepth 20000 in
theorem gX8_train_X8_settle : GoodIn wsX8_train (wsV RX8 104 RX8 yX8_settle wsX8_settle) := goodIn_app (goodIn_of _ (by decide +kernel)) ggX8_train_X8_settle
theorem dX8_train_0 : decode cX8_train 0 = .ok (.aload_n 0, 1) := by decide +kernel
theorem dX8_train_1 : decode cX8_train 1 = .ok (.iconst 0, 1) := by decide +kernel
theorem dX8_train_2 : decode cX8_train 2 = .ok (.putfield 52, 3) := by decide +kernel
theorem dX8_train_5 : decode cX8_train 5 = .ok (.aload_n 0, 1) := by decide +kernel
theorem dX8_train_6 : decode cX8_train 6 = .ok (.iload_n 1, 1) := by decide +kernel
theorem dX8_train_7 : decode cX8_train 7 = .ok (.invokevirtual 108, 3) := by decide +kernel
theorem dX8_train_10 : decode cX8_train 10 = .ok (.ifCond .eq 22, 3) := by decide +kernel
theorem dX8_train_13 : decode cX8_train 13 = .ok (.iload_n 2, 1) := by decide +kernel
theorem dX8_train_14 : decode cX8_train 14 = .ok (.i2l, 1) := by decide +kernel
theorem dX8_train_15 : decode cX8_train 15 = .ok (.lconst 1, 1) := by decide +kernel
theorem dX8_train_16 : decode cX8_train 16 = .ok (.ldc2_w 111, 3) := by decide +kernel
theorem dX8_train_19 : decode cX8_train 19 = .ok (.invokestatic 62, 3) := by decide +kernel
theorem dX8_train_22 : decode cX8_train 22 = .ok (.ifCond .eq 10, 3) := by decide +kernel
theorem dX8_train_25 : decode cX8_train 25 = .ok (.iload_n 3, 1) := by decide +kernel
theorem dX8_train_26 : decode cX8_train 26 = .ok (.invokestatic 100, 3) := by decide +kernel
theorem dX8_train_29 : decode cX8_train 29 = .ok (.ifCond .ne 6, 3) := by decide +kernel
theorem dX8_train_32 : decode cX8_train 32 = .ok (.ldc 72, 2) := by decide +kernel
theorem dX8_train_34 : decode cX8_train 34 = .ok (.ireturn, 1) := by decide +kernel
theorem dX8_train_35 : decode cX8_train 35 = .ok (.aload_n 0, 1) := by decide +kernel
theorem dX8_train_36 : decode cX8_train 36 = .ok (.getfield 19, 3) := by decide +kernel
theorem dX8_train_39 : decode cX8_train 39 = .ok (.bipush 7, 2) := by decide +kernel
theorem dX8_train_41 : decode cX8_train 41 = .ok (.iload_n 1, 1) := by decide +kernel
theorem dX8_train_42 : decode cX8_train 42 = .ok (.imul, 1) := by decide +kernel
theorem dX8_train_43 : decode cX8_train 43 = .ok (.iload_n 2, 1) := by decide +kernel
theorem dX8_train_44 : decode cX8_train 44 = .ok (.iadd, 1) := by decide +kernel
theorem dX8_train_45 : decode cX8_train 45 = .ok (.iaload, 1) := by decide +kernel
theorem dX8_train_46 : decode cX8_train 46 = .ok (.istore 4, 2) := by decide +kernel
theorem dX8_train_48 : decode cX8_train 48 = .ok (.iload_n 2, 1) := by decide +kernel
theorem dX8_train_49 : decode cX8_train 49 = .ok (.bipush 6, 2) := by decide +kernel
theorem dX8_train_51 : decode cX8_train 51 = .ok (.if_icmp .ge 22, 3) := by decide +kernel
theorem dX8_train_54 : decode cX8_train 54 = .ok (.aload_n 0, 1) := by decide +kernel
theorem dX8_train_55 : decode cX8_train 55 = .ok (.getfield 19, 3) := by decide +kernel
theorem dX8_train_58 : decode cX8_train 58 = .ok (.bipush 7, 2) := by decide +kernel
theorem dX8_train_60 : decode cX8_train 60 = .ok (.iload_n 1, 1) := by decide +kernel
theorem dX8_train_61 : decode cX8_train 61 = .ok (.imul, 1) := by decide +kernel
theorem dX8_train_62 : decode cX8_train 62 = .ok (.iaload, 1) := by decide +kernel
theorem dX8_train_63 : decode cX8_train 63 = .ok (.iload 4, 2) := by decide +kernel
theorem dX8_train_65 : decode cX8_train 65 = .ok (.iadd, 1) := by decide +kernel
theorem dX8_train_66 : decode cX8_train 66 = .ok (.iload_n 3, 1) := by decide +kernel
theorem dX8_train_67 : decode cX8_train 67 = .ok (.if_icmp .ge 6, 3) := by decide +kernel
theorem dX8_train_70 : decode cX8_train 70 = .ok (.ldc 113, 2) := by decide +kernel
theorem dX8_train_72 : decode cX8_train 72 = .ok (.ireturn, 1) := by decide +kernel
theorem dX8_train_73 : decode cX8_train 73 = .ok (.aload_n 0, 1) := by decide +kernel
theorem dX8_train_74 : decode cX8_train 74 = .ok (.getfield 19, 3) := by decide +kernel
theorem dX8_train_77 : decode cX8_train 77 = .ok (.bipush 7, 2) := by decide +kernel
theorem dX8_train_79 : decode cX8_train 79 = .ok (.iload_n 1, 1) := by decide +kernel
theorem dX8_train_80 : decode cX8_train 80 = .ok (.imul, 1) := by decide +kernel
theorem dX8_train_81 : decode cX8_train 81 = .ok (.iload_n 2, 1) := by decide +kernel
theorem dX8_train_82 : decode cX8_train 82 = .ok (.iadd, 1) := by decide +kernel
theorem dX8_train_83 : decode cX8_train 83 = .ok (.iload_n 3, 1) := by decide +kernel
theorem dX8_train_84 : decode cX8_train 84 = .ok (.iastore, 1) := by decide +kernel
theorem dX8_train_85 : decode cX8_train 85 = .ok (.aload_n 0, 1) := by decide +kernel
theorem dX8_train_86 : decode cX8_train 86 = .ok (.iload_n 1, 1) := by decide +kernel
theorem dX8_train_87 : decode cX8_train 87 = .ok (.invokevirtual 104, 3) := by decide +kernel
theorem dX8_train_90 : decode cX8_train 90 = .ok (.iload 4, 2) := by decide +kernel
theorem dX8_train_92 : decode cX8_train 92 = .ok (.ireturn, 1) := by decide +kernel
set_option maxRecDepth 20000 in
theorem ggX8_chance_X8_isStriker : GoodIn wsX8_chance wsX8_isStriker := goodIn_r _ [9, 10, 11, 12, 8, 13, 14, 15, 16, 17, 18, 19, 20, 21, 22, 23, 24, 25, 26, 27, 28, 29, 30, 31, 32, 33, 34, 35] (by decide +kernel) (by decide +kernel)
set_option maxRecDepth 20000 in
theorem gX8_chance_X8_isStriker : GoodIn wsX8_chance (wsV RX8 108 RX8 yX8_isStriker wsX8_isStriker) := goodIn_app (goodIn_of _ (by decide +kernel)) ggX8_chance_X8_isStriker
set_option maxRecDepth 20000 in
theorem ggX8_chance_X8_in : GoodIn wsX8_chance wsX8_in := goodIn_r _ [13] (by decide +kernel) (by decide +kernel)
set_option maxRecDepth 20000 in
theorem gX8_chance_X8_in : GoodIn wsX8_chance (va_wsS RX8 62 yX8_in wsX8_in) := goodIn_app (goodIn_of _ (by decide +kernel)) ggX8_chance_X8_in
theorem dX8_chance_0 : decode cX8_chance 0 = .ok (.aload_n 0, 1) := by decide +kernel
theorem dX8_chance_1 : decode cX8_chance 1 = .ok (.iconst 0, 1) := by decide +kernel
theorem dX8_chance_2 : decode cX8_chance 2 = .ok (.putfield 52, 3) := by decide +kernel
theorem dX8_chance_5 : decode cX8_chance 5 = .ok (.aload_n 0, 1) := by decide +kernel
theorem dX8_chance_6 : decode cX8_chance 6 = .ok (.iload_n 1, 1) := by decide +kernel
theorem dX8_chance_7 : decode cX8_chance 7 = .ok (.invokevirtual 108, 3) := by decide +kernel
theorem dX8_chance_10 : decode cX8_chance 10 = .ok (.ifCond .eq 15, 3) := by decide +kernel
theorem dX8_chance_13 : decode cX8_chance 13 = .ok (.iload_n 2, 1) := by decide +kernel
theorem dX8_chance_14 : decode cX8_chance 14 = .ok (.i2l, 1) := by decide +kernel
theorem dX8_chance_15 : decode cX8_chance 15 = .ok (.lconst 0, 1) := by decide +kernel
theorem dX8_chance_16 : decode cX8_chance 16 = .ok (.ldc2_w 111, 3) := by decide +kernel
theorem dX8_chance_19 : decode cX8_chance 19 = .ok (.invokestatic 62, 3) := by decide +kernel
theorem dX8_chance_22 : decode cX8_chance 22 = .ok (.ifCond .ne 8, 3) := by decide +kernel
theorem dX8_chance_25 : decode cX8_chance 25 = .ok (.ldc 72, 2) := by decide +kernel
theorem dX8_chance_27 : decode cX8_chance 27 = .ok (.goto 14, 3) := by decide +kernel
theorem dX8_chance_30 : decode cX8_chance 30 = .ok (.aload_n 0, 1) := by decide +kernel
theorem dX8_chance_31 : decode cX8_chance 31 = .ok (.getfield 19, 3) := by decide +kernel
theorem dX8_chance_34 : decode cX8_chance 34 = .ok (.bipush 7, 2) := by decide +kernel
theorem dX8_chance_36 : decode cX8_chance 36 = .ok (.iload_n 1, 1) := by decide +kernel
theorem dX8_chance_37 : decode cX8_chance 37 = .ok (.imul, 1) := by decide +kernel
theorem dX8_chance_38 : decode cX8_chance 38 = .ok (.iload_n 2, 1) := by decide +kernel
theorem dX8_chance_39 : decode cX8_chance 39 = .ok (.iadd, 1) := by decide +kernel
theorem dX8_chance_40 : decode cX8_chance 40 = .ok (.iaload, 1) := by decide +kernel
theorem dX8_chance_41 : decode cX8_chance 41 = .ok (.ireturn, 1) := by decide +kernel
set_option maxRecDepth 20000 in
theorem ggX8_order_X8_isSheet : GoodIn wsX8_order wsX8_isSheet := goodIn_r _ [13, 14, 15, 16, 12, 17] (by decide +kernel) (by decide +kernel)
set_option maxRecDepth 20000 in
theorem gX8_order_X8_isSheet : GoodIn wsX8_order (va_wsS RX8 66 yX8_isSheet wsX8_isSheet) := goodIn_app (goodIn_of _ (by decide +kernel)) ggX8_order_X8_isSheet
set_option maxRecDepth 20000 in
theorem ggX8_order_X8_in : GoodIn wsX8_order wsX8_in := goodIn_r _ [17] (by decide +kernel) (by decide +kernel)
set_option maxRecDepth 20000 in
theorem gX8_order_X8_in : GoodIn wsX8_order (va_wsS RX8 62 yX8_in wsX8_in) := goodIn_app (goodIn_of _ (by decide +kernel)) ggX8_order_X8_in
set_option maxRecDepth 20000 in
theorem ggX8_order_X8_found : GoodIn wsX8_order wsX8_found := goodIn_r _ [21, 7, 22, 28, 29, 30, 31, 32, 33, 34, 35, 36, 37, 38, 39, 40, 41, 42, 43, 44, 45, 46, 47, 48, 49] (by decide +kernel) (by decide +kernel)
set_option maxRecDepth 20000 in
theorem gX8_order_X8_found : GoodIn wsX8_order (wsV RX8 73 RX8 yX8_found wsX8_found) := goodIn_app (goodIn_of _ (by decide +kernel)) ggX8_order_X8_found
set_option maxRecDepth 20000 in
theorem ggX8_order_X8_isStriker : GoodIn wsX8_order wsX8_isStriker := goodIn_r _ [26, 27, 15, 16, 12, 17, 28, 29, 30, 31, 32, 33, 34, 35, 36, 37, 38, 39, 40, 41, 42, 43, 44, 45, 46, 47, 48, 49] (by decide +kernel) (by decide +kernel)
set_option maxRecDepth 20000 in
theorem gX8_order_X8_isStriker : GoodIn wsX8_order (wsV RX8 108 RX8 yX8_isStriker wsX8_isStriker) := goodIn_app (goodIn_of _ (by decide +kernel)) ggX8_order_X8_isStriker
theorem dX8_order_0 : decode cX8_order 0 = .ok (.aload_n 0, 1) := by decide +kernel
theorem dX8_order_1 : decode cX8_order 1 = .ok (.iconst 0, 1) := by decide +kernel
theorem dX8_order_2 : decode cX8_order 2 = .ok (.putfield 52, 3) := by decide +kernel
theorem dX8_order_5 : decode cX8_order 5 = .ok (.iload_n 1, 1) := by decide +kernel
theorem dX8_order_6 : decode cX8_order 6 = .ok (.invokestatic 66, 3) := by decide +kernel
theorem dX8_order_9 : decode cX8_order 9 = .ok (.ifCond .eq 15, 3) := by decide +kernel
theorem dX8_order_12 : decode cX8_order 12 = .ok (.iload_n 3, 1) := by decide +kernel
theorem dX8_order_13 : decode cX8_order 13 = .ok (.i2l, 1) := by decide +kernel
theorem dX8_order_14 : decode cX8_order 14 = .ok (.lconst 1, 1) := by decide +kernel
theorem dX8_order_15 : decode cX8_order 15 = .ok (.ldc2_w 114, 3) := by decide +kernel
theorem dX8_order_18 : decode cX8_order 18 = .ok (.invokestatic 62, 3) := by decide +kernel
theorem dX8_order_21 : decode cX8_order 21 = .ok (.ifCond .ne 6, 3) := by decide +kernel
theorem dX8_order_24 : decode cX8_order 24 = .ok (.ldc 72, 2) := by decide +kernel
theorem dX8_order_26 : decode cX8_order 26 = .ok (.ireturn, 1) := by decide +kernel
theorem dX8_order_27 : decode cX8_order 27 = .ok (.aload_n 0, 1) := by decide +kernel
theorem dX8_order_28 : decode cX8_order 28 = .ok (.getfield 7, 3) := by decide +kernel
theorem dX8_order_31 : decode cX8_order 31 = .ok (.iload_n 1, 1) := by decide +kernel
theorem dX8_order_32 : decode cX8_order 32 = .ok (.iaload, 1) := by decide +kernel
theorem dX8_order_33 : decode cX8_order 33 = .ok (.ifCond .ge 9, 3) := by decide +kernel
theorem dX8_order_36 : decode cX8_order 36 = .ok (.aload_n 0, 1) := by decide +kernel
theorem dX8_order_37 : decode cX8_order 37 = .ok (.iconst 1, 1) := by decide +kernel
theorem dX8_order_38 : decode cX8_order 38 = .ok (.invokevirtual 73, 3) := by decide +kernel
theorem dX8_order_41 : decode cX8_order 41 = .ok (.ireturn, 1) := by decide +kernel
theorem dX8_order_42 : decode cX8_order 42 = .ok (.iload_n 2, 1) := by decide +kernel
theorem dX8_order_43 : decode cX8_order 43 = .ok (.ifCond .lt 19, 3) := by decide +kernel
theorem dX8_order_46 : decode cX8_order 46 = .ok (.iload_n 2, 1) := by decide +kernel
theorem dX8_order_47 : decode cX8_order 47 = .ok (.i2l, 1) := by decide +kernel
theorem dX8_order_48 : decode cX8_order 48 = .ok (.iload_n 3, 1) := by decide +kernel
theorem dX8_order_49 : decode cX8_order 49 = .ok (.i2l, 1) := by decide +kernel
theorem dX8_order_50 : decode cX8_order 50 = .ok (.ladd, 1) := by decide +kernel
theorem dX8_order_51 : decode cX8_order 51 = .ok (.aload_n 0, 1) := by decide +kernel
theorem dX8_order_52 : decode cX8_order 52 = .ok (.getfield 13, 3) := by decide +kernel
theorem dX8_order_55 : decode cX8_order 55 = .ok (.iload_n 1, 1) := by decide +kernel
theorem dX8_order_56 : decode cX8_order 56 = .ok (.iaload, 1) := by decide +kernel
theorem dX8_order_57 : decode cX8_order 57 = .ok (.i2l, 1) := by decide +kernel
theorem dX8_order_58 : decode cX8_order 58 = .ok (.lcmp, 1) := by decide +kernel
theorem dX8_order_59 : decode cX8_order 59 = .ok (.ifCond .le 9, 3) := by decide +kernel
theorem dX8_order_62 : decode cX8_order 62 = .ok (.aload_n 0, 1) := by decide +kernel
theorem dX8_order_63 : decode cX8_order 63 = .ok (.iconst 2, 1) := by decide +kernel
theorem dX8_order_64 : decode cX8_order 64 = .ok (.invokevirtual 73, 3) := by decide +kernel
theorem dX8_order_67 : decode cX8_order 67 = .ok (.ireturn, 1) := by decide +kernel
theorem dX8_order_68 : decode cX8_order 68 = .ok (.iconst 0, 1) := by decide +kernel
theorem dX8_order_69 : decode cX8_order 69 = .ok (.istore 4, 2) := by decide +kernel
theorem dX8_order_71 : decode cX8_order 71 = .ok (.iload 4, 2) := by decide +kernel
theorem dX8_order_73 : decode cX8_order 73 = .ok (.iload_n 3, 1) := by decide +kernel
theorem dX8_order_74 : decode cX8_order 74 = .ok (.if_icmp .ge 33, 3) := by decide +kernel
theorem dX8_order_77 : decode cX8_order 77 = .ok (.aload_n 0, 1) := by decide +kernel
theorem dX8_order_78 : decode cX8_order 78 = .ok (.aload_n 0, 1) := by decide +kernel
theorem dX8_order_79 : decode cX8_order 79 = .ok (.getfield 16, 3) := by decide +kernel
theorem dX8_order_82 : decode cX8_order 82 = .ok (.bipush 60, 2) := by decide +kernel
theorem dX8_order_84 : decode cX8_order 84 = .ok (.iload_n 1, 1) := by decide +kernel
theorem dX8_order_85 : decode cX8_order 85 = .ok (.imul, 1) := by decide +kernel
theorem dX8_order_86 : decode cX8_order 86 = .ok (.iload_n 2, 1) := by decide +kernel
theorem dX8_order_87 : decode cX8_order 87 = .ok (.iadd, 1) := by decide +kernel
theorem dX8_order_88 : decode cX8_order 88 = .ok (.iload 4, 2) := by decide +kernel
theorem dX8_order_90 : decode cX8_order 90 = .ok (.iadd, 1) := by decide +kernel
theorem dX8_order_91 : decode cX8_order 91 = .ok (.iaload, 1) := by decide +kernel
theorem dX8_order_92 : decode cX8_order 92 = .ok (.invokevirtual 108, 3) := by decide +kernel
theorem dX8_order_95 : decode cX8_order 95 = .ok (.ifCond .ne 6, 3) := by decide +kernel
theorem dX8_order_98 : decode cX8_order 98 = .ok (.ldc 72, 2) := by decide +kernel
theorem dX8_order_100 : decode cX8_order 100 = .ok (.ireturn, 1) := by decide +kernel
theorem dX8_order_101 : decode cX8_order 101 = .ok (.iinc 4 1, 3) := by decide +kernel
theorem dX8_order_104 : decode cX8_order 104 = .ok (.goto (-33), 3) := by decide +kernel
theorem dX8_order_107 : decode cX8_order 107 = .ok (.aload_n 0, 1) := by decide +kernel
theorem dX8_order_108 : decode cX8_order 108 = .ok (.iconst 0, 1) := by decide +kernel
theorem dX8_order_109 : decode cX8_order 109 = .ok (.putfield 56, 3) := by decide +kernel
theorem dX8_order_112 : decode cX8_order 112 = .ok (.aload_n 0, 1) := by decide +kernel
theorem dX8_order_113 : decode cX8_order 113 = .ok (.iload_n 3, 1) := by decide +kernel
theorem dX8_order_114 : decode cX8_order 114 = .ok (.putfield 116, 3) := by decide +kernel
theorem dX8_order_117 : decode cX8_order 117 = .ok (.iconst 0, 1) := by decide +kernel
theorem dX8_order_118 : decode cX8_order 118 = .ok (.istore 4, 2) := by decide +kernel
theorem dX8_order_120 : decode cX8_order 120 = .ok (.iload 4, 2) := by decide +kernel
theorem dX8_order_122 : decode cX8_order 122 = .ok (.iload_n 3, 1) := by decide +kernel
theorem dX8_order_123 : decode cX8_order 123 = .ok (.if_icmp .ge 30, 3) := by decide +kernel
theorem dX8_order_126 : decode cX8_order 126 = .ok (.aload_n 0, 1) := by decide +kernel
theorem dX8_order_127 : decode cX8_order 127 = .ok (.getfield 22, 3) := by decide +kernel
theorem dX8_order_130 : decode cX8_order 130 = .ok (.iload 4, 2) := by decide +kernel
theorem dX8_order_132 : decode cX8_order 132 = .ok (.aload_n 0, 1) := by decide +kernel
theorem dX8_order_133 : decode cX8_order 133 = .ok (.getfield 16, 3) := by decide +kernel
theorem dX8_order_136 : decode cX8_order 136 = .ok (.bipush 60, 2) := by decide +kernel
theorem dX8_order_138 : decode cX8_order 138 = .ok (.iload_n 1, 1) := by decide +kernel
theorem dX8_order_139 : decode cX8_order 139 = .ok (.imul, 1) := by decide +kernel
theorem dX8_order_140 : decode cX8_order 140 = .ok (.iload_n 2, 1) := by decide +kernel
theorem dX8_order_141 : decode cX8_order 141 = .ok (.iadd, 1) := by decide +kernel
theorem dX8_order_142 : decode cX8_order 142 = .ok (.iload 4, 2) := by decide +kernel
theorem dX8_order_144 : decode cX8_order 144 = .ok (.iadd, 1) := by decide +kernel
theorem dX8_order_145 : decode cX8_order 145 = .ok (.iaload, 1) := by decide +kernel
theorem dX8_order_146 : decode cX8_order 146 = .ok (.iastore, 1) := by decide +kernel
theorem dX8_order_147 : decode cX8_order 147 = .ok (.iinc 4 1, 3) := by decide +kernel
theorem dX8_order_150 : decode cX8_order 150 = .ok (.goto (-30), 3) := by decide +kernel
theorem dX8_order_153 : decode cX8_order 153 = .ok (.iload_n 3, 1) := by decide +kernel
theorem dX8_order_154 : decode cX8_order 154 = .ok (.ireturn, 1) := by decide +kernel
set_option maxRecDepth 20000 in
theorem ggX8_striking_X8_in : GoodIn wsX8_striking wsX8_in := goodIn_r _ [9] (by decide +kernel) (by decide +kernel)
set_option maxRecDepth 20000 in
theorem gX8_striking_X8_in : GoodIn wsX8_striking (va_wsS RX8 62 yX8_in wsX8_in) := goodIn_app (goodIn_of _ (by decide +kernel)) ggX8_striking_X8_in
theorem dX8_striking_0 : decode cX8_striking 0 = .ok (.aload_n 0, 1) := by decide +kernel
theorem dX8_striking_1 : decode cX8_striking 1 = .ok (.iconst 0, 1) := by decide +kernel
theorem dX8_striking_2 : decode cX8_striking 2 = .ok (.putfield 52, 3) := by decide +kernel
theorem dX8_striking_5 : decode cX8_striking 5 = .ok (.iload_n 1, 1) := by decide +kernel
theorem dX8_striking_6 : decode cX8_striking 6 = .ok (.ldc 35, 2) := by decide +kernel
theorem dX8_striking_8 : decode cX8_striking 8 = .ok (.if_icmp .ne 10, 3) := by decide +kernel
theorem dX8_striking_11 : decode cX8_striking 11 = .ok (.aload_n 0, 1) := by decide +kernel
theorem dX8_striking_12 : decode cX8_striking 12 = .ok (.getfield 116, 3) := by decide +kernel
theorem dX8_striking_15 : decode cX8_striking 15 = .ok (.goto 30, 3) := by decide +kernel
theorem dX8_striking_18 : decode cX8_striking 18 = .ok (.iload_n 1, 1) := by decide +kernel
theorem dX8_striking_19 : decode cX8_striking 19 = .ok (.i2l, 1) := by decide +kernel
theorem dX8_striking_20 : decode cX8_striking 20 = .ok (.lconst 0, 1) := by decide +kernel
theorem dX8_striking_21 : decode cX8_striking 21 = .ok (.aload_n 0, 1) := by decide +kernel
theorem dX8_striking_22 : decode cX8_striking 22 = .ok (.getfield 116, 3) := by decide +kernel
theorem dX8_striking_25 : decode cX8_striking 25 = .ok (.iconst 1, 1) := by decide +kernel
theorem dX8_striking_26 : decode cX8_striking 26 = .ok (.isub, 1) := by decide +kernel
theorem dX8_striking_27 : decode cX8_striking 27 = .ok (.i2l, 1) := by decide +kernel
theorem dX8_striking_28 : decode cX8_striking 28 = .ok (.invokestatic 62, 3) := by decide +kernel
theorem dX8_striking_31 : decode cX8_striking 31 = .ok (.ifCond .eq 12, 3) := by decide +kernel
theorem dX8_striking_34 : decode cX8_striking 34 = .ok (.aload_n 0, 1) := by decide +kernel
theorem dX8_striking_35 : decode cX8_striking 35 = .ok (.getfield 22, 3) := by decide +kernel
theorem dX8_striking_38 : decode cX8_striking 38 = .ok (.iload_n 1, 1) := by decide +kernel
theorem dX8_striking_39 : decode cX8_striking 39 = .ok (.iaload, 1) := by decide +kernel
theorem dX8_striking_40 : decode cX8_striking 40 = .ok (.goto 5, 3) := by decide +kernel
theorem dX8_striking_43 : decode cX8_striking 43 = .ok (.ldc 72, 2) := by decide +kernel
theorem dX8_striking_45 : decode cX8_striking 45 = .ok (.ireturn, 1) := by decide +kernel
set_option maxRecDepth 20000 in
theorem ggX8_findMeans_X8_runs : GoodIn wsX8_findMeans wsX8_runs := goodIn_r _ [10, 11, 12, 9, 13] (by decide +kernel) (by decide +kernel)
set_option maxRecDepth 20000 in
theorem gX8_findMeans_X8_runs : GoodIn wsX8_findMeans (va_wsS RX8 92 yX8_runs wsX8_runs) := goodIn_app (goodIn_of _ (by decide +kernel)) ggX8_findMeans_X8_runs
set_option maxRecDepth 20000 in
theorem ggX8_findMeans_X8_next : GoodIn wsX8_findMeans wsX8_next := goodIn_r _ [16] (by decide +kernel) (by decide +kernel)
set_option maxRecDepth 20000 in
theorem gX8_findMeans_X8_next : GoodIn wsX8_findMeans (va_wsS RX8 88 yX8_next wsX8_next) := goodIn_app (goodIn_of _ (by decide +kernel)) ggX8_findMeans_X8_next
theorem dX8_findMeans_0 : decode cX8_findMeans 0 = .ok (.iconst 0, 1) := by decide +kernel
theorem dX8_findMeans_1 : decode cX8_findMeans 1 = .ok (.istore_n 2, 1) := by decide +kernel
theorem dX8_findMeans_2 : decode cX8_findMeans 2 = .ok (.iload_n 2, 1) := by decide +kernel
theorem dX8_findMeans_3 : decode cX8_findMeans 3 = .ok (.iload_n 1, 1) := by decide +kernel
theorem dX8_findMeans_4 : decode cX8_findMeans 4 = .ok (.if_icmp .gt 185, 3) := by decide +kernel
theorem dX8_findMeans_7 : decode cX8_findMeans 7 = .ok (.iconst 0, 1) := by decide +kernel
theorem dX8_findMeans_8 : decode cX8_findMeans 8 = .ok (.istore_n 3, 1) := by decide +kernel
theorem dX8_findMeans_9 : decode cX8_findMeans 9 = .ok (.iload_n 3, 1) := by decide +kernel
theorem dX8_findMeans_10 : decode cX8_findMeans 10 = .ok (.aload_n 0, 1) := by decide +kernel
theorem dX8_findMeans_11 : decode cX8_findMeans 11 = .ok (.getfield 116, 3) := by decide +kernel
theorem dX8_findMeans_14 : decode cX8_findMeans 14 = .ok (.if_icmp .ge 169, 3) := by decide +kernel
theorem dX8_findMeans_17 : decode cX8_findMeans 17 = .ok (.iload_n 3, 1) := by decide +kernel
theorem dX8_findMeans_18 : decode cX8_findMeans 18 = .ok (.iconst 1, 1) := by decide +kernel
theorem dX8_findMeans_19 : decode cX8_findMeans 19 = .ok (.iadd, 1) := by decide +kernel
theorem dX8_findMeans_20 : decode cX8_findMeans 20 = .ok (.aload_n 0, 1) := by decide +kernel
theorem dX8_findMeans_21 : decode cX8_findMeans 21 = .ok (.getfield 116, 3) := by decide +kernel
theorem dX8_findMeans_24 : decode cX8_findMeans 24 = .ok (.irem, 1) := by decide +kernel
theorem dX8_findMeans_25 : decode cX8_findMeans 25 = .ok (.istore 4, 2) := by decide +kernel
theorem dX8_findMeans_27 : decode cX8_findMeans 27 = .ok (.iconst 0, 1) := by decide +kernel
theorem dX8_findMeans_28 : decode cX8_findMeans 28 = .ok (.istore 5, 2) := by decide +kernel
theorem dX8_findMeans_30 : decode cX8_findMeans 30 = .ok (.iload 5, 2) := by decide +kernel
theorem dX8_findMeans_32 : decode cX8_findMeans 32 = .ok (.bipush 25, 2) := by decide +kernel
theorem dX8_findMeans_34 : decode cX8_findMeans 34 = .ok (.if_icmp .ge 143, 3) := by decide +kernel
theorem dX8_findMeans_37 : decode cX8_findMeans 37 = .ok (.lconst 0, 1) := by decide +kernel
theorem dX8_findMeans_38 : decode cX8_findMeans 38 = .ok (.lstore 6, 2) := by decide +kernel
theorem dX8_findMeans_40 : decode cX8_findMeans 40 = .ok (.iconst 0, 1) := by decide +kernel
theorem dX8_findMeans_41 : decode cX8_findMeans 41 = .ok (.istore 8, 2) := by decide +kernel
theorem dX8_findMeans_43 : decode cX8_findMeans 43 = .ok (.iload 8, 2) := by decide +kernel
theorem dX8_findMeans_45 : decode cX8_findMeans 45 = .ok (.bipush 6, 2) := by decide +kernel
theorem dX8_findMeans_47 : decode cX8_findMeans 47 = .ok (.if_icmp .ge 99, 3) := by decide +kernel
theorem dX8_findMeans_50 : decode cX8_findMeans 50 = .ok (.iload_n 2, 1) := by decide +kernel
theorem dX8_findMeans_51 : decode cX8_findMeans 51 = .ok (.ifCond .le 95, 3) := by decide +kernel
theorem dX8_findMeans_54 : decode cX8_findMeans 54 = .ok (.iload 5, 2) := by decide +kernel
theorem dX8_findMeans_56 : decode cX8_findMeans 56 = .ok (.bipush 24, 2) := by decide +kernel
theorem dX8_findMeans_58 : decode cX8_findMeans 58 = .ok (.if_icmp .ge 88, 3) := by decide +kernel
theorem dX8_findMeans_61 : decode cX8_findMeans 61 = .ok (.aload_n 0, 1) := by decide +kernel
theorem dX8_findMeans_62 : decode cX8_findMeans 62 = .ok (.getfield 19, 3) := by decide +kernel
theorem dX8_findMeans_65 : decode cX8_findMeans 65 = .ok (.bipush 7, 2) := by decide +kernel
theorem dX8_findMeans_67 : decode cX8_findMeans 67 = .ok (.aload_n 0, 1) := by decide +kernel
theorem dX8_findMeans_68 : decode cX8_findMeans 68 = .ok (.getfield 22, 3) := by decide +kernel
theorem dX8_findMeans_71 : decode cX8_findMeans 71 = .ok (.iload_n 3, 1) := by decide +kernel
theorem dX8_findMeans_72 : decode cX8_findMeans 72 = .ok (.iaload, 1) := by decide +kernel
theorem dX8_findMeans_73 : decode cX8_findMeans 73 = .ok (.imul, 1) := by decide +kernel
theorem dX8_findMeans_74 : decode cX8_findMeans 74 = .ok (.iload 8, 2) := by decide +kernel
theorem dX8_findMeans_76 : decode cX8_findMeans 76 = .ok (.iadd, 1) := by decide +kernel
theorem dX8_findMeans_77 : decode cX8_findMeans 77 = .ok (.iaload, 1) := by decide +kernel
theorem dX8_findMeans_78 : decode cX8_findMeans 78 = .ok (.i2l, 1) := by decide +kernel
theorem dX8_findMeans_79 : decode cX8_findMeans 79 = .ok (.lstore 9, 2) := by decide +kernel
theorem dX8_findMeans_81 : decode cX8_findMeans 81 = .ok (.lload 6, 2) := by decide +kernel
theorem dX8_findMeans_83 : decode cX8_findMeans 83 = .ok (.lload 9, 2) := by decide +kernel
theorem dX8_findMeans_85 : decode cX8_findMeans 85 = .ok (.lconst 0, 1) := by decide +kernel
theorem dX8_findMeans_86 : decode cX8_findMeans 86 = .ok (.lcmp, 1) := by decide +kernel
theorem dX8_findMeans_87 : decode cX8_findMeans 87 = .ok (.ifCond .ne 7, 3) := by decide +kernel
theorem dX8_findMeans_90 : decode cX8_findMeans 90 = .ok (.lconst 0, 1) := by decide +kernel
theorem dX8_findMeans_91 : decode cX8_findMeans 91 = .ok (.goto 46, 3) := by decide +kernel
theorem dX8_findMeans_94 : decode cX8_findMeans 94 = .ok (.lload 9, 2) := by decide +kernel
theorem dX8_findMeans_96 : decode cX8_findMeans 96 = .ok (.iload 5, 2) := by decide +kernel
theorem dX8_findMeans_98 : decode cX8_findMeans 98 = .ok (.iload 8, 2) := by decide +kernel
theorem dX8_findMeans_100 : decode cX8_findMeans 100 = .ok (.invokestatic 92, 3) := by decide +kernel
theorem dX8_findMeans_103 : decode cX8_findMeans 103 = .ok (.i2l, 1) := by decide +kernel
theorem dX8_findMeans_104 : decode cX8_findMeans 104 = .ok (.ldc2_w 119, 3) := by decide +kernel
theorem dX8_findMeans_107 : decode cX8_findMeans 107 = .ok (.lmul, 1) := by decide +kernel
theorem dX8_findMeans_108 : decode cX8_findMeans 108 = .ok (.aload_n 0, 1) := by decide +kernel
theorem dX8_findMeans_109 : decode cX8_findMeans 109 = .ok (.getfield 25, 3) := by decide +kernel
theorem dX8_findMeans_112 : decode cX8_findMeans 112 = .ok (.sipush 225, 3) := by decide +kernel
theorem dX8_findMeans_115 : decode cX8_findMeans 115 = .ok (.iload_n 2, 1) := by decide +kernel
theorem dX8_findMeans_116 : decode cX8_findMeans 116 = .ok (.iconst 1, 1) := by decide +kernel
theorem dX8_findMeans_117 : decode cX8_findMeans 117 = .ok (.isub, 1) := by decide +kernel
theorem dX8_findMeans_118 : decode cX8_findMeans 118 = .ok (.imul, 1) := by decide +kernel
theorem dX8_findMeans_119 : decode cX8_findMeans 119 = .ok (.bipush 25, 2) := by decide +kernel
theorem dX8_findMeans_121 : decode cX8_findMeans 121 = .ok (.iload 4, 2) := by decide +kernel
theorem dX8_findMeans_123 : decode cX8_findMeans 123 = .ok (.imul, 1) := by decide +kernel
theorem dX8_findMeans_124 : decode cX8_findMeans 124 = .ok (.iadd, 1) := by decide +kernel
theorem dX8_findMeans_125 : decode cX8_findMeans 125 = .ok (.iload 5, 2) := by decide +kernel
theorem dX8_findMeans_127 : decode cX8_findMeans 127 = .ok (.iload 8, 2) := by decide +kernel
theorem dX8_findMeans_129 : decode cX8_findMeans 129 = .ok (.invokestatic 88, 3) := by decide +kernel
theorem dX8_findMeans_132 : decode cX8_findMeans 132 = .ok (.iadd, 1) := by decide +kernel
theorem dX8_findMeans_133 : decode cX8_findMeans 133 = .ok (.iaload, 1) := by decide +kernel
theorem dX8_findMeans_134 : decode cX8_findMeans 134 = .ok (.i2l, 1) := by decide +kernel
theorem dX8_findMeans_135 : decode cX8_findMeans 135 = .ok (.ladd, 1) := by decide +kernel
theorem dX8_findMeans_136 : decode cX8_findMeans 136 = .ok (.lmul, 1) := by decide +kernel
theorem dX8_findMeans_137 : decode cX8_findMeans 137 = .ok (.ladd, 1) := by decide +kernel
theorem dX8_findMeans_138 : decode cX8_findMeans 138 = .ok (.lstore 6, 2) := by decide +kernel
theorem dX8_findMeans_140 : decode cX8_findMeans 140 = .ok (.iinc 8 1, 3) := by decide +kernel
theorem dX8_findMeans_143 : decode cX8_findMeans 143 = .ok (.goto (-100), 3) := by decide +kernel
theorem dX8_findMeans_146 : decode cX8_findMeans 146 = .ok (.aload_n 0, 1) := by decide +kernel
theorem dX8_findMeans_147 : decode cX8_findMeans 147 = .ok (.getfield 25, 3) := by decide +kernel
theorem dX8_findMeans_150 : decode cX8_findMeans 150 = .ok (.sipush 225, 3) := by decide +kernel
theorem dX8_findMeans_153 : decode cX8_findMeans 153 = .ok (.iload_n 2, 1) := by decide +kernel
theorem dX8_findMeans_154 : decode cX8_findMeans 154 = .ok (.imul, 1) := by decide +kernel
theorem dX8_findMeans_155 : decode cX8_findMeans 155 = .ok (.bipush 25, 2) := by decide +kernel
theorem dX8_findMeans_157 : decode cX8_findMeans 157 = .ok (.iload_n 3, 1) := by decide +kernel
theorem dX8_findMeans_158 : decode cX8_findMeans 158 = .ok (.imul, 1) := by decide +kernel
theorem dX8_findMeans_159 : decode cX8_findMeans 159 = .ok (.iadd, 1) := by decide +kernel
theorem dX8_findMeans_160 : decode cX8_findMeans 160 = .ok (.iload 5, 2) := by decide +kernel
theorem dX8_findMeans_162 : decode cX8_findMeans 162 = .ok (.iadd, 1) := by decide +kernel
theorem dX8_findMeans_163 : decode cX8_findMeans 163 = .ok (.lload 6, 2) := by decide +kernel
theorem dX8_findMeans_165 : decode cX8_findMeans 165 = .ok (.ldc2_w 98, 3) := by decide +kernel
theorem dX8_findMeans_168 : decode cX8_findMeans 168 = .ok (.ldiv, 1) := by decide +kernel
theorem dX8_findMeans_169 : decode cX8_findMeans 169 = .ok (.l2i, 1) := by decide +kernel
theorem dX8_findMeans_170 : decode cX8_findMeans 170 = .ok (.iastore, 1) := by decide +kernel
theorem dX8_findMeans_171 : decode cX8_findMeans 171 = .ok (.iinc 5 1, 3) := by decide +kernel
theorem dX8_findMeans_174 : decode cX8_findMeans 174 = .ok (.goto (-144), 3) := by decide +kernel
theorem dX8_findMeans_177 : decode cX8_findMeans 177 = .ok (.iinc 3 1, 3) := by decide +kernel
theorem dX8_findMeans_180 : decode cX8_findMeans 180 = .ok (.goto (-171), 3) := by decide +kernel
theorem dX8_findMeans_183 : decode cX8_findMeans 183 = .ok (.iinc 2 1, 3) := by decide +kernel
theorem dX8_findMeans_186 : decode cX8_findMeans 186 = .ok (.goto (-184), 3) := by decide +kernel
theorem dX8_findMeans_189 : decode cX8_findMeans 189 = .ok (.return_, 1) := by decide +kernel
set_option maxRecDepth 20000 in
theorem ggX8_isAt_X8_in : GoodIn wsX8_isAt wsX8_in := goodIn_r _ [7] (by decide +kernel) (by decide +kernel)
set_option maxRecDepth 20000 in
theorem gX8_isAt_X8_in : GoodIn wsX8_isAt (va_wsS RX8 62 yX8_in wsX8_in) := goodIn_app (goodIn_of _ (by decide +kernel)) ggX8_isAt_X8_in
theorem dX8_isAt_0 : decode cX8_isAt 0 = .ok (.iload_n 1, 1) := by decide +kernel
theorem dX8_isAt_1 : decode cX8_isAt 1 = .ok (.i2l, 1) := by decide +kernel
theorem dX8_isAt_2 : decode cX8_isAt 2 = .ok (.lconst 0, 1) := by decide +kernel
theorem dX8_isAt_3 : decode cX8_isAt 3 = .ok (.ldc2_w 121, 3) := by decide +kernel
theorem dX8_isAt_6 : decode cX8_isAt 6 = .ok (.invokestatic 62, 3) := by decide +kernel
theorem dX8_isAt_9 : decode cX8_isAt 9 = .ok (.ifCond .eq 35, 3) := by decide +kernel
theorem dX8_isAt_12 : decode cX8_isAt 12 = .ok (.iload_n 2, 1) := by decide +kernel
theorem dX8_isAt_13 : decode cX8_isAt 13 = .ok (.i2l, 1) := by decide +kernel
theorem dX8_isAt_14 : decode cX8_isAt 14 = .ok (.lconst 0, 1) := by decide +kernel
theorem dX8_isAt_15 : decode cX8_isAt 15 = .ok (.aload_n 0, 1) := by decide +kernel
theorem dX8_isAt_16 : decode cX8_isAt 16 = .ok (.getfield 116, 3) := by decide +kernel
theorem dX8_isAt_19 : decode cX8_isAt 19 = .ok (.iconst 1, 1) := by decide +kernel
theorem dX8_isAt_20 : decode cX8_isAt 20 = .ok (.isub, 1) := by decide +kernel
theorem dX8_isAt_21 : decode cX8_isAt 21 = .ok (.i2l, 1) := by decide +kernel
theorem dX8_isAt_22 : decode cX8_isAt 22 = .ok (.invokestatic 62, 3) := by decide +kernel
theorem dX8_isAt_25 : decode cX8_isAt 25 = .ok (.ifCond .eq 19, 3) := by decide +kernel
theorem dX8_isAt_28 : decode cX8_isAt 28 = .ok (.iload_n 3, 1) := by decide +kernel
theorem dX8_isAt_29 : decode cX8_isAt 29 = .ok (.i2l, 1) := by decide +kernel
theorem dX8_isAt_30 : decode cX8_isAt 30 = .ok (.lconst 0, 1) := by decide +kernel
theorem dX8_isAt_31 : decode cX8_isAt 31 = .ok (.ldc2_w 123, 3) := by decide +kernel
theorem dX8_isAt_34 : decode cX8_isAt 34 = .ok (.invokestatic 62, 3) := by decide +kernel
theorem dX8_isAt_37 : decode cX8_isAt 37 = .ok (.ifCond .eq 7, 3) := by decide +kernel
theorem dX8_isAt_40 : decode cX8_isAt 40 = .ok (.iconst 1, 1) := by decide +kernel
theorem dX8_isAt_41 : decode cX8_isAt 41 = .ok (.goto 4, 3) := by decide +kernel
theorem dX8_isAt_44 : decode cX8_isAt 44 = .ok (.iconst 0, 1) := by decide +kernel
theorem dX8_isAt_45 : decode cX8_isAt 45 = .ok (.ireturn, 1) := by decide +kernel
set_option maxRecDepth 20000 in
theorem ggX8_mean_X8_isAt : GoodIn wsX8_mean wsX8_isAt := goodIn_r _ [8, 9, 10, 11, 12, 13, 7, 14, 32, 33, 34, 35, 36, 37, 38, 39, 40, 41, 42, 43, 44, 45, 46, 47, 48, 49, 50, 51, 52, 53] (by decide +kernel) (by decide +kernel)
set_option maxRecDepth 20000 in
theorem gX8_mean_X8_isAt : GoodIn wsX8_mean (wsV RX8 125 RX8 yX8_isAt wsX8_isAt) := goodIn_app (goodIn_of _ (by decide +kernel)) ggX8_mean_X8_isAt
set_option maxRecDepth 20000 in
theorem ggX8_mean_X8_findMeans : GoodIn wsX8_mean wsX8_findMeans := goodIn_r _ [18, 10, 19, 20, 21, 3, 22, 23, 24, 7, 25, 26, 27, 28, 29, 30, 31, 32, 33, 34, 35, 36, 37, 38, 39, 40, 41, 42, 43, 44, 45, 46, 47, 48, 49, 50, 51, 52, 53] (by decide +kernel) (by decide +kernel)
set_option maxRecDepth 20000 in
theorem gX8_mean_X8_findMeans : GoodIn wsX8_mean (wsV RX8 129 RX8 yX8_findMeans wsX8_findMeans) := goodIn_app (goodIn_of _ (by decide +kernel)) ggX8_mean_X8_findMeans
theorem dX8_mean_0 : decode cX8_mean 0 = .ok (.aload_n 0, 1) := by decide +kernel
theorem dX8_mean_1 : decode cX8_mean 1 = .ok (.iconst 0, 1) := by decide +kernel
theorem dX8_mean_2 : decode cX8_mean 2 = .ok (.putfield 52, 3) := by decide +kernel
theorem dX8_mean_5 : decode cX8_mean 5 = .ok (.aload_n 0, 1) := by decide +kernel
theorem dX8_mean_6 : decode cX8_mean 6 = .ok (.iload_n 1, 1) := by decide +kernel
theorem dX8_mean_7 : decode cX8_mean 7 = .ok (.iload_n 2, 1) := by decide +kernel
theorem dX8_mean_8 : decode cX8_mean 8 = .ok (.iload_n 3, 1) := by decide +kernel
theorem dX8_mean_9 : decode cX8_mean 9 = .ok (.invokevirtual 125, 3) := by decide +kernel
theorem dX8_mean_12 : decode cX8_mean 12 = .ok (.ifCond .ne 6, 3) := by decide +kernel
theorem dX8_mean_15 : decode cX8_mean 15 = .ok (.ldc 72, 2) := by decide +kernel
theorem dX8_mean_17 : decode cX8_mean 17 = .ok (.ireturn, 1) := by decide +kernel
theorem dX8_mean_18 : decode cX8_mean 18 = .ok (.aload_n 0, 1) := by decide +kernel
theorem dX8_mean_19 : decode cX8_mean 19 = .ok (.iload_n 3, 1) := by decide +kernel
theorem dX8_mean_20 : decode cX8_mean 20 = .ok (.invokevirtual 129, 3) := by decide +kernel
theorem dX8_mean_23 : decode cX8_mean 23 = .ok (.aload_n 0, 1) := by decide +kernel
theorem dX8_mean_24 : decode cX8_mean 24 = .ok (.getfield 25, 3) := by decide +kernel
theorem dX8_mean_27 : decode cX8_mean 27 = .ok (.sipush 225, 3) := by decide +kernel
theorem dX8_mean_30 : decode cX8_mean 30 = .ok (.iload_n 3, 1) := by decide +kernel
theorem dX8_mean_31 : decode cX8_mean 31 = .ok (.imul, 1) := by decide +kernel
theorem dX8_mean_32 : decode cX8_mean 32 = .ok (.bipush 25, 2) := by decide +kernel
theorem dX8_mean_34 : decode cX8_mean 34 = .ok (.iload_n 2, 1) := by decide +kernel
theorem dX8_mean_35 : decode cX8_mean 35 = .ok (.imul, 1) := by decide +kernel
theorem dX8_mean_36 : decode cX8_mean 36 = .ok (.iadd, 1) := by decide +kernel
theorem dX8_mean_37 : decode cX8_mean 37 = .ok (.iload_n 1, 1) := by decide +kernel
theorem dX8_mean_38 : decode cX8_mean 38 = .ok (.iadd, 1) := by decide +kernel
theorem dX8_mean_39 : decode cX8_mean 39 = .ok (.iaload, 1) := by decide +kernel
theorem dX8_mean_40 : decode cX8_mean 40 = .ok (.ireturn, 1) := by decide +kernel
set_option maxRecDepth 20000 in
theorem ggX8_likely_X8_isAt : GoodIn wsX8_likely wsX8_isAt := goodIn_r _ [15, 16, 4, 17, 18, 19, 14, 20, 30, 31, 32, 33, 34, 35, 36, 37, 38, 39, 40, 41, 42, 43, 44, 45, 46, 47, 48, 49, 50, 51] (by decide +kernel) (by decide +kernel)
set_option maxRecDepth 20000 in
theorem gX8_likely_X8_isAt : GoodIn wsX8_likely (wsV RX8 125 RX8 yX8_isAt wsX8_isAt) := goodIn_app (goodIn_of _ (by decide +kernel)) ggX8_likely_X8_isAt
set_option maxRecDepth 20000 in
theorem ggX8_likely_X8_in : GoodIn wsX8_likely wsX8_in := goodIn_r _ [20] (by decide +kernel) (by decide +kernel)
set_option maxRecDepth 20000 in
theorem gX8_likely_X8_in : GoodIn wsX8_likely (va_wsS RX8 62 yX8_in wsX8_in) := goodIn_app (goodIn_of _ (by decide +kernel)) ggX8_likely_X8_in
set_option maxRecDepth 20000 in
theorem ggX8_likely_X8_runs : GoodIn wsX8_likely wsX8_runs := goodIn_r _ [23, 24, 25, 14, 26] (by decide +kernel) (by decide +kernel)
set_option maxRecDepth 20000 in
theorem gX8_likely_X8_runs : GoodIn wsX8_likely (va_wsS RX8 92 yX8_runs wsX8_runs) := goodIn_app (goodIn_of _ (by decide +kernel)) ggX8_likely_X8_runs
set_option maxRecDepth 20000 in
theorem ggX8_likely_X8_next : GoodIn wsX8_likely wsX8_next := goodIn_r _ [29] (by decide +kernel) (by decide +kernel)
set_option maxRecDepth 20000 in
theorem gX8_likely_X8_next : GoodIn wsX8_likely (va_wsS RX8 88 yX8_next wsX8_next) := goodIn_app (goodIn_of _ (by decide +kernel)) ggX8_likely_X8_next
theorem dX8_likely_0 : decode cX8_likely 0 = .ok (.aload_n 0, 1) := by decide +kernel
theorem dX8_likely_1 : decode cX8_likely 1 = .ok (.iconst 0, 1) := by decide +kernel
theorem dX8_likely_2 : decode cX8_likely 2 = .ok (.putfield 52, 3) := by decide +kernel
theorem dX8_likely_5 : decode cX8_likely 5 = .ok (.aload_n 0, 1) := by decide +kernel
theorem dX8_likely_6 : decode cX8_likely 6 = .ok (.iload_n 1, 1) := by decide +kernel
theorem dX8_likely_7 : decode cX8_likely 7 = .ok (.iload_n 2, 1) := by decide +kernel
theorem dX8_likely_8 : decode cX8_likely 8 = .ok (.iload_n 3, 1) := by decide +kernel
theorem dX8_likely_9 : decode cX8_likely 9 = .ok (.invokevirtual 125, 3) := by decide +kernel
theorem dX8_likely_12 : decode cX8_likely 12 = .ok (.ifCond .eq 16, 3) := by decide +kernel
theorem dX8_likely_15 : decode cX8_likely 15 = .ok (.iload 4, 2) := by decide +kernel
theorem dX8_likely_17 : decode cX8_likely 17 = .ok (.i2l, 1) := by decide +kernel
theorem dX8_likely_18 : decode cX8_likely 18 = .ok (.lconst 0, 1) := by decide +kernel
theorem dX8_likely_19 : decode cX8_likely 19 = .ok (.ldc2_w 114, 3) := by decide +kernel
theorem dX8_likely_22 : decode cX8_likely 22 = .ok (.invokestatic 62, 3) := by decide +kernel
theorem dX8_likely_25 : decode cX8_likely 25 = .ok (.ifCond .ne 6, 3) := by decide +kernel
theorem dX8_likely_28 : decode cX8_likely 28 = .ok (.ldc 72, 2) := by decide +kernel
theorem dX8_likely_30 : decode cX8_likely 30 = .ok (.ireturn, 1) := by decide +kernel
theorem dX8_likely_31 : decode cX8_likely 31 = .ok (.iconst 0, 1) := by decide +kernel
theorem dX8_likely_32 : decode cX8_likely 32 = .ok (.istore 5, 2) := by decide +kernel
theorem dX8_likely_34 : decode cX8_likely 34 = .ok (.iload 5, 2) := by decide +kernel
theorem dX8_likely_36 : decode cX8_likely 36 = .ok (.iload_n 3, 1) := by decide +kernel
theorem dX8_likely_37 : decode cX8_likely 37 = .ok (.if_icmp .gt 284, 3) := by decide +kernel
theorem dX8_likely_40 : decode cX8_likely 40 = .ok (.iconst 0, 1) := by decide +kernel
theorem dX8_likely_41 : decode cX8_likely 41 = .ok (.istore 6, 2) := by decide +kernel
theorem dX8_likely_43 : decode cX8_likely 43 = .ok (.iload 6, 2) := by decide +kernel
theorem dX8_likely_45 : decode cX8_likely 45 = .ok (.aload_n 0, 1) := by decide +kernel
theorem dX8_likely_46 : decode cX8_likely 46 = .ok (.getfield 116, 3) := by decide +kernel
theorem dX8_likely_49 : decode cX8_likely 49 = .ok (.if_icmp .ge 266, 3) := by decide +kernel
theorem dX8_likely_52 : decode cX8_likely 52 = .ok (.iload 6, 2) := by decide +kernel
theorem dX8_likely_54 : decode cX8_likely 54 = .ok (.iconst 1, 1) := by decide +kernel
theorem dX8_likely_55 : decode cX8_likely 55 = .ok (.iadd, 1) := by decide +kernel
theorem dX8_likely_56 : decode cX8_likely 56 = .ok (.aload_n 0, 1) := by decide +kernel
theorem dX8_likely_57 : decode cX8_likely 57 = .ok (.getfield 116, 3) := by decide +kernel
theorem dX8_likely_60 : decode cX8_likely 60 = .ok (.irem, 1) := by decide +kernel
theorem dX8_likely_61 : decode cX8_likely 61 = .ok (.istore 7, 2) := by decide +kernel
theorem dX8_likely_63 : decode cX8_likely 63 = .ok (.iconst 0, 1) := by decide +kernel
theorem dX8_likely_64 : decode cX8_likely 64 = .ok (.istore 8, 2) := by decide +kernel
theorem dX8_likely_66 : decode cX8_likely 66 = .ok (.iload 8, 2) := by decide +kernel
theorem dX8_likely_68 : decode cX8_likely 68 = .ok (.bipush 25, 2) := by decide +kernel
theorem dX8_likely_70 : decode cX8_likely 70 = .ok (.if_icmp .ge 239, 3) := by decide +kernel
theorem dX8_likely_73 : decode cX8_likely 73 = .ok (.iconst 0, 1) := by decide +kernel
theorem dX8_likely_74 : decode cX8_likely 74 = .ok (.istore 9, 2) := by decide +kernel
theorem dX8_likely_76 : decode cX8_likely 76 = .ok (.iload 9, 2) := by decide +kernel
theorem dX8_likely_78 : decode cX8_likely 78 = .ok (.bipush 10, 2) := by decide +kernel
theorem dX8_likely_80 : decode cX8_likely 80 = .ok (.if_icmp .ge 223, 3) := by decide +kernel
theorem dX8_likely_83 : decode cX8_likely 83 = .ok (.bipush 10, 2) := by decide +kernel
theorem dX8_likely_85 : decode cX8_likely 85 = .ok (.sipush 225, 3) := by decide +kernel
theorem dX8_likely_88 : decode cX8_likely 88 = .ok (.iload 5, 2) := by decide +kernel
theorem dX8_likely_90 : decode cX8_likely 90 = .ok (.imul, 1) := by decide +kernel
theorem dX8_likely_91 : decode cX8_likely 91 = .ok (.bipush 25, 2) := by decide +kernel
theorem dX8_likely_93 : decode cX8_likely 93 = .ok (.iload 6, 2) := by decide +kernel
theorem dX8_likely_95 : decode cX8_likely 95 = .ok (.imul, 1) := by decide +kernel
theorem dX8_likely_96 : decode cX8_likely 96 = .ok (.iadd, 1) := by decide +kernel
theorem dX8_likely_97 : decode cX8_likely 97 = .ok (.iload 8, 2) := by decide +kernel
theorem dX8_likely_99 : decode cX8_likely 99 = .ok (.iadd, 1) := by decide +kernel
theorem dX8_likely_100 : decode cX8_likely 100 = .ok (.imul, 1) := by decide +kernel
theorem dX8_likely_101 : decode cX8_likely 101 = .ok (.iload 9, 2) := by decide +kernel
theorem dX8_likely_103 : decode cX8_likely 103 = .ok (.iadd, 1) := by decide +kernel
theorem dX8_likely_104 : decode cX8_likely 104 = .ok (.istore 10, 2) := by decide +kernel
theorem dX8_likely_106 : decode cX8_likely 106 = .ok (.lconst 0, 1) := by decide +kernel
theorem dX8_likely_107 : decode cX8_likely 107 = .ok (.lstore 11, 2) := by decide +kernel
theorem dX8_likely_109 : decode cX8_likely 109 = .ok (.iconst 0, 1) := by decide +kernel
theorem dX8_likely_110 : decode cX8_likely 110 = .ok (.istore 13, 2) := by decide +kernel
theorem dX8_likely_112 : decode cX8_likely 112 = .ok (.iload 13, 2) := by decide +kernel
theorem dX8_likely_114 : decode cX8_likely 114 = .ok (.bipush 6, 2) := by decide +kernel
theorem dX8_likely_116 : decode cX8_likely 116 = .ok (.if_icmp .ge 141, 3) := by decide +kernel
theorem dX8_likely_119 : decode cX8_likely 119 = .ok (.iload 5, 2) := by decide +kernel
theorem dX8_likely_121 : decode cX8_likely 121 = .ok (.ifCond .le 136, 3) := by decide +kernel
theorem dX8_likely_124 : decode cX8_likely 124 = .ok (.iload 8, 2) := by decide +kernel
theorem dX8_likely_126 : decode cX8_likely 126 = .ok (.bipush 24, 2) := by decide +kernel
theorem dX8_likely_128 : decode cX8_likely 128 = .ok (.if_icmp .ge 129, 3) := by decide +kernel
theorem dX8_likely_131 : decode cX8_likely 131 = .ok (.iload 9, 2) := by decide +kernel
theorem dX8_likely_133 : decode cX8_likely 133 = .ok (.iload 8, 2) := by decide +kernel
theorem dX8_likely_135 : decode cX8_likely 135 = .ok (.iload 13, 2) := by decide +kernel
theorem dX8_likely_137 : decode cX8_likely 137 = .ok (.invokestatic 92, 3) := by decide +kernel
theorem dX8_likely_140 : decode cX8_likely 140 = .ok (.isub, 1) := by decide +kernel
theorem dX8_likely_141 : decode cX8_likely 141 = .ok (.istore 14, 2) := by decide +kernel
theorem dX8_likely_143 : decode cX8_likely 143 = .ok (.bipush 10, 2) := by decide +kernel
theorem dX8_likely_145 : decode cX8_likely 145 = .ok (.sipush 225, 3) := by decide +kernel
theorem dX8_likely_148 : decode cX8_likely 148 = .ok (.iload 5, 2) := by decide +kernel
theorem dX8_likely_150 : decode cX8_likely 150 = .ok (.iconst 1, 1) := by decide +kernel
theorem dX8_likely_151 : decode cX8_likely 151 = .ok (.isub, 1) := by decide +kernel
theorem dX8_likely_152 : decode cX8_likely 152 = .ok (.imul, 1) := by decide +kernel
theorem dX8_likely_153 : decode cX8_likely 153 = .ok (.bipush 25, 2) := by decide +kernel
theorem dX8_likely_155 : decode cX8_likely 155 = .ok (.iload 7, 2) := by decide +kernel
theorem dX8_likely_157 : decode cX8_likely 157 = .ok (.imul, 1) := by decide +kernel
theorem dX8_likely_158 : decode cX8_likely 158 = .ok (.iadd, 1) := by decide +kernel
theorem dX8_likely_159 : decode cX8_likely 159 = .ok (.iload 8, 2) := by decide +kernel
theorem dX8_likely_161 : decode cX8_likely 161 = .ok (.iload 13, 2) := by decide +kernel
theorem dX8_likely_163 : decode cX8_likely 163 = .ok (.invokestatic 88, 3) := by decide +kernel
theorem dX8_likely_166 : decode cX8_likely 166 = .ok (.iadd, 1) := by decide +kernel
theorem dX8_likely_167 : decode cX8_likely 167 = .ok (.imul, 1) := by decide +kernel
theorem dX8_likely_168 : decode cX8_likely 168 = .ok (.istore 15, 2) := by decide +kernel
theorem dX8_likely_170 : decode cX8_likely 170 = .ok (.iload 4, 2) := by decide +kernel
theorem dX8_likely_172 : decode cX8_likely 172 = .ok (.bipush 9, 2) := by decide +kernel
theorem dX8_likely_174 : decode cX8_likely 174 = .ok (.if_icmp .ne 28, 3) := by decide +kernel
theorem dX8_likely_177 : decode cX8_likely 177 = .ok (.iload 14, 2) := by decide +kernel
theorem dX8_likely_179 : decode cX8_likely 179 = .ok (.ifCond .gt 9, 3) := by decide +kernel
theorem dX8_likely_182 : decode cX8_likely 182 = .ok (.ldc2_w 119, 3) := by decide +kernel
theorem dX8_likely_185 : decode cX8_likely 185 = .ok (.goto 37, 3) := by decide +kernel
theorem dX8_likely_188 : decode cX8_likely 188 = .ok (.aload_n 0, 1) := by decide +kernel
theorem dX8_likely_189 : decode cX8_likely 189 = .ok (.getfield 29, 3) := by decide +kernel
theorem dX8_likely_192 : decode cX8_likely 192 = .ok (.iload 15, 2) := by decide +kernel
theorem dX8_likely_194 : decode cX8_likely 194 = .ok (.iload 14, 2) := by decide +kernel
theorem dX8_likely_196 : decode cX8_likely 196 = .ok (.iadd, 1) := by decide +kernel
theorem dX8_likely_197 : decode cX8_likely 197 = .ok (.iaload, 1) := by decide +kernel
theorem dX8_likely_198 : decode cX8_likely 198 = .ok (.i2l, 1) := by decide +kernel
theorem dX8_likely_199 : decode cX8_likely 199 = .ok (.goto 23, 3) := by decide +kernel
theorem dX8_likely_202 : decode cX8_likely 202 = .ok (.iload 14, 2) := by decide +kernel
theorem dX8_likely_204 : decode cX8_likely 204 = .ok (.ifCond .ge 7, 3) := by decide +kernel
theorem dX8_likely_207 : decode cX8_likely 207 = .ok (.lconst 0, 1) := by decide +kernel
theorem dX8_likely_208 : decode cX8_likely 208 = .ok (.goto 14, 3) := by decide +kernel
theorem dX8_likely_211 : decode cX8_likely 211 = .ok (.aload_n 0, 1) := by decide +kernel
theorem dX8_likely_212 : decode cX8_likely 212 = .ok (.getfield 29, 3) := by decide +kernel
theorem dX8_likely_215 : decode cX8_likely 215 = .ok (.iload 15, 2) := by decide +kernel
theorem dX8_likely_217 : decode cX8_likely 217 = .ok (.iload 14, 2) := by decide +kernel
theorem dX8_likely_219 : decode cX8_likely 219 = .ok (.iadd, 1) := by decide +kernel
theorem dX8_likely_220 : decode cX8_likely 220 = .ok (.iaload, 1) := by decide +kernel
theorem dX8_likely_221 : decode cX8_likely 221 = .ok (.i2l, 1) := by decide +kernel
theorem dX8_likely_222 : decode cX8_likely 222 = .ok (.lstore 16, 2) := by decide +kernel
theorem dX8_likely_224 : decode cX8_likely 224 = .ok (.lload 11, 2) := by decide +kernel
theorem dX8_likely_226 : decode cX8_likely 226 = .ok (.aload_n 0, 1) := by decide +kernel
theorem dX8_likely_227 : decode cX8_likely 227 = .ok (.getfield 19, 3) := by decide +kernel
theorem dX8_likely_230 : decode cX8_likely 230 = .ok (.bipush 7, 2) := by decide +kernel
theorem dX8_likely_232 : decode cX8_likely 232 = .ok (.aload_n 0, 1) := by decide +kernel
theorem dX8_likely_233 : decode cX8_likely 233 = .ok (.getfield 22, 3) := by decide +kernel
theorem dX8_likely_236 : decode cX8_likely 236 = .ok (.iload 6, 2) := by decide +kernel
theorem dX8_likely_238 : decode cX8_likely 238 = .ok (.iaload, 1) := by decide +kernel
theorem dX8_likely_239 : decode cX8_likely 239 = .ok (.imul, 1) := by decide +kernel
theorem dX8_likely_240 : decode cX8_likely 240 = .ok (.iload 13, 2) := by decide +kernel
theorem dX8_likely_242 : decode cX8_likely 242 = .ok (.iadd, 1) := by decide +kernel
theorem dX8_likely_243 : decode cX8_likely 243 = .ok (.iaload, 1) := by decide +kernel
theorem dX8_likely_244 : decode cX8_likely 244 = .ok (.i2l, 1) := by decide +kernel
theorem dX8_likely_245 : decode cX8_likely 245 = .ok (.lload 16, 2) := by decide +kernel
theorem dX8_likely_247 : decode cX8_likely 247 = .ok (.lmul, 1) := by decide +kernel
theorem dX8_likely_248 : decode cX8_likely 248 = .ok (.ladd, 1) := by decide +kernel
theorem dX8_likely_249 : decode cX8_likely 249 = .ok (.lstore 11, 2) := by decide +kernel
theorem dX8_likely_251 : decode cX8_likely 251 = .ok (.iinc 13 1, 3) := by decide +kernel
theorem dX8_likely_254 : decode cX8_likely 254 = .ok (.goto (-142), 3) := by decide +kernel
theorem dX8_likely_257 : decode cX8_likely 257 = .ok (.aload_n 0, 1) := by decide +kernel
theorem dX8_likely_258 : decode cX8_likely 258 = .ok (.getfield 29, 3) := by decide +kernel
theorem dX8_likely_261 : decode cX8_likely 261 = .ok (.iload 10, 2) := by decide +kernel
theorem dX8_likely_263 : decode cX8_likely 263 = .ok (.iload 5, 2) := by decide +kernel
theorem dX8_likely_265 : decode cX8_likely 265 = .ok (.ifCond .eq 10, 3) := by decide +kernel
theorem dX8_likely_268 : decode cX8_likely 268 = .ok (.iload 8, 2) := by decide +kernel
theorem dX8_likely_270 : decode cX8_likely 270 = .ok (.bipush 24, 2) := by decide +kernel
theorem dX8_likely_272 : decode cX8_likely 272 = .ok (.if_icmp .ne 17, 3) := by decide +kernel
theorem dX8_likely_275 : decode cX8_likely 275 = .ok (.iload 9, 2) := by decide +kernel
theorem dX8_likely_277 : decode cX8_likely 277 = .ok (.ifCond .ne 8, 3) := by decide +kernel
theorem dX8_likely_280 : decode cX8_likely 280 = .ok (.ldc 132, 2) := by decide +kernel
theorem dX8_likely_282 : decode cX8_likely 282 = .ok (.goto 14, 3) := by decide +kernel
theorem dX8_likely_285 : decode cX8_likely 285 = .ok (.iconst 0, 1) := by decide +kernel
theorem dX8_likely_286 : decode cX8_likely 286 = .ok (.goto 10, 3) := by decide +kernel
theorem dX8_likely_289 : decode cX8_likely 289 = .ok (.lload 11, 2) := by decide +kernel
theorem dX8_likely_291 : decode cX8_likely 291 = .ok (.ldc2_w 98, 3) := by decide +kernel
theorem dX8_likely_294 : decode cX8_likely 294 = .ok (.ldiv, 1) := by decide +kernel
theorem dX8_likely_295 : decode cX8_likely 295 = .ok (.l2i, 1) := by decide +kernel
theorem dX8_likely_296 : decode cX8_likely 296 = .ok (.iastore, 1) := by decide +kernel
theorem dX8_likely_297 : decode cX8_likely 297 = .ok (.iinc 9 1, 3) := by decide +kernel
theorem dX8_likely_300 : decode cX8_likely 300 = .ok (.goto (-224), 3) := by decide +kernel
theorem dX8_likely_303 : decode cX8_likely 303 = .ok (.iinc 8 1, 3) := by decide +kernel
theorem dX8_likely_306 : decode cX8_likely 306 = .ok (.goto (-240), 3) := by decide +kernel
theorem dX8_likely_309 : decode cX8_likely 309 = .ok (.iinc 6 1, 3) := by decide +kernel
theorem dX8_likely_312 : decode cX8_likely 312 = .ok (.goto (-269), 3) := by decide +kernel
theorem dX8_likely_315 : decode cX8_likely 315 = .ok (.iinc 5 1, 3) := by decide +kernel
theorem dX8_likely_318 : decode cX8_likely 318 = .ok (.goto (-284), 3) := by decide +kernel
theorem dX8_likely_321 : decode cX8_likely 321 = .ok (.aload_n 0, 1) := by decide +kernel
theorem dX8_likely_322 : decode cX8_likely 322 = .ok (.getfield 29, 3) := by decide +kernel
theorem dX8_likely_325 : decode cX8_likely 325 = .ok (.bipush 10, 2) := by decide +kernel
theorem dX8_likely_327 : decode cX8_likely 327 = .ok (.sipush 225, 3) := by decide +kernel
theorem dX8_likely_330 : decode cX8_likely 330 = .ok (.iload_n 3, 1) := by decide +kernel
theorem dX8_likely_331 : decode cX8_likely 331 = .ok (.imul, 1) := by decide +kernel
theorem dX8_likely_332 : decode cX8_likely 332 = .ok (.bipush 25, 2) := by decide +kernel
theorem dX8_likely_334 : decode cX8_likely 334 = .ok (.iload_n 2, 1) := by decide +kernel
theorem dX8_likely_335 : decode cX8_likely 335 = .ok (.imul, 1) := by decide +kernel
theorem dX8_likely_336 : decode cX8_likely 336 = .ok (.iadd, 1) := by decide +kernel
theorem dX8_likely_337 : decode cX8_likely 337 = .ok (.iload_n 1, 1) := by decide +kernel
theorem dX8_likely_338 : decode cX8_likely 338 = .ok (.iadd, 1) := by decide +kernel
theorem dX8_likely_339 : decode cX8_likely 339 = .ok (.imul, 1) := by decide +kernel
theorem dX8_likely_340 : decode cX8_likely 340 = .ok (.iload 4, 2) := by decide +kernel
theorem dX8_likely_342 : decode cX8_likely 342 = .ok (.iadd, 1) := by decide +kernel
theorem dX8_likely_343 : decode cX8_likely 343 = .ok (.iaload, 1) := by decide +kernel
theorem dX8_likely_344 : decode cX8_likely 344 = .ok (.ireturn, 1) := by decide +kernel
set_option maxRecDepth 20000 in
theorem ggX8_worth_X8_isAt : GoodIn wsX8_worth wsX8_isAt := goodIn_r _ [11, 12, 6, 13, 14, 15, 10, 16, 34, 35, 36, 37, 38, 39, 40, 41, 42, 43, 44, 45, 46, 47, 48, 49, 50, 51, 52, 53, 54, 55] (by decide +kernel) (by decide +kernel)
set_option maxRecDepth 20000 in
theorem gX8_worth_X8_isAt : GoodIn wsX8_worth (wsV RX8 125 RX8 yX8_isAt wsX8_isAt) := goodIn_app (goodIn_of _ (by decide +kernel)) ggX8_worth_X8_isAt
set_option maxRecDepth 20000 in
theorem ggX8_worth_X8_in : GoodIn wsX8_worth wsX8_in := goodIn_r _ [16] (by decide +kernel) (by decide +kernel)
set_option maxRecDepth 20000 in
theorem gX8_worth_X8_in : GoodIn wsX8_worth (va_wsS RX8 62 yX8_in wsX8_in) := goodIn_app (goodIn_of _ (by decide +kernel)) ggX8_worth_X8_in
set_option maxRecDepth 20000 in
theorem ggX8_worth_X8_findMeans : GoodIn wsX8_worth wsX8_findMeans := goodIn_r _ [20, 6, 21, 22, 23, 5, 24, 25, 26, 10, 27, 28, 29, 30, 31, 32, 33, 34, 35, 36, 37, 38, 39, 40, 41, 42, 43, 44, 45, 46, 47, 48, 49, 50, 51, 52, 53, 54, 55] (by decide +kernel) (by decide +kernel)
set_option maxRecDepth 20000 in
theorem gX8_worth_X8_findMeans : GoodIn wsX8_worth (wsV RX8 129 RX8 yX8_findMeans wsX8_findMeans) := goodIn_app (goodIn_of _ (by decide +kernel)) ggX8_worth_X8_findMeans
set_option maxRecDepth 20000 in
theorem ggX8_worth_X8_runs : GoodIn wsX8_worth wsX8_runs := goodIn_r _ [27, 28, 29, 10, 30] (by decide +kernel) (by decide +kernel)
set_option maxRecDepth 20000 in
theorem gX8_worth_X8_runs : GoodIn wsX8_worth (va_wsS RX8 92 yX8_runs wsX8_runs) := goodIn_app (goodIn_of _ (by decide +kernel)) ggX8_worth_X8_runs
set_option maxRecDepth 20000 in
theorem ggX8_worth_X8_next : GoodIn wsX8_worth wsX8_next := goodIn_r _ [33] (by decide +kernel) (by decide +kernel)
set_option maxRecDepth 20000 in
theorem gX8_worth_X8_next : GoodIn wsX8_worth (va_wsS RX8 88 yX8_next wsX8_next) := goodIn_app (goodIn_of _ (by decide +kernel)) ggX8_worth_X8_next
theorem dX8_worth_0 : decode cX8_worth 0 = .ok (.aload_n 0, 1) := by decide +kernel
theorem dX8_worth_1 : decode cX8_worth 1 = .ok (.iconst 0, 1) := by decide +kernel
theorem dX8_worth_2 : decode cX8_worth 2 = .ok (.putfield 52, 3) := by decide +kernel
theorem dX8_worth_5 : decode cX8_worth 5 = .ok (.aload_n 0, 1) := by decide +kernel
theorem dX8_worth_6 : decode cX8_worth 6 = .ok (.iload_n 1, 1) := by decide +kernel
theorem dX8_worth_7 : decode cX8_worth 7 = .ok (.iload_n 3, 1) := by decide +kernel
theorem dX8_worth_8 : decode cX8_worth 8 = .ok (.iload 4, 2) := by decide +kernel
theorem dX8_worth_10 : decode cX8_worth 10 = .ok (.invokevirtual 125, 3) := by decide +kernel
theorem dX8_worth_13 : decode cX8_worth 13 = .ok (.ifCond .eq 26, 3) := by decide +kernel
theorem dX8_worth_16 : decode cX8_worth 16 = .ok (.iload_n 1, 1) := by decide +kernel
theorem dX8_worth_17 : decode cX8_worth 17 = .ok (.bipush 24, 2) := by decide +kernel
theorem dX8_worth_19 : decode cX8_worth 19 = .ok (.if_icmp .eq 20, 3) := by decide +kernel
theorem dX8_worth_22 : decode cX8_worth 22 = .ok (.iload 4, 2) := by decide +kernel
theorem dX8_worth_24 : decode cX8_worth 24 = .ok (.ifCond .eq 15, 3) := by decide +kernel
theorem dX8_worth_27 : decode cX8_worth 27 = .ok (.iload_n 2, 1) := by decide +kernel
theorem dX8_worth_28 : decode cX8_worth 28 = .ok (.i2l, 1) := by decide +kernel
theorem dX8_worth_29 : decode cX8_worth 29 = .ok (.lconst 0, 1) := by decide +kernel
theorem dX8_worth_30 : decode cX8_worth 30 = .ok (.ldc2_w 111, 3) := by decide +kernel
theorem dX8_worth_33 : decode cX8_worth 33 = .ok (.invokestatic 62, 3) := by decide +kernel
theorem dX8_worth_36 : decode cX8_worth 36 = .ok (.ifCond .ne 6, 3) := by decide +kernel
theorem dX8_worth_39 : decode cX8_worth 39 = .ok (.ldc 72, 2) := by decide +kernel
theorem dX8_worth_41 : decode cX8_worth 41 = .ok (.ireturn, 1) := by decide +kernel
theorem dX8_worth_42 : decode cX8_worth 42 = .ok (.aload_n 0, 1) := by decide +kernel
theorem dX8_worth_43 : decode cX8_worth 43 = .ok (.iload 4, 2) := by decide +kernel
theorem dX8_worth_45 : decode cX8_worth 45 = .ok (.invokevirtual 129, 3) := by decide +kernel
theorem dX8_worth_48 : decode cX8_worth 48 = .ok (.iload_n 1, 1) := by decide +kernel
theorem dX8_worth_49 : decode cX8_worth 49 = .ok (.iload_n 2, 1) := by decide +kernel
theorem dX8_worth_50 : decode cX8_worth 50 = .ok (.invokestatic 92, 3) := by decide +kernel
theorem dX8_worth_53 : decode cX8_worth 53 = .ok (.ldc 132, 2) := by decide +kernel
theorem dX8_worth_55 : decode cX8_worth 55 = .ok (.imul, 1) := by decide +kernel
theorem dX8_worth_56 : decode cX8_worth 56 = .ok (.aload_n 0, 1) := by decide +kernel
theorem dX8_worth_57 : decode cX8_worth 57 = .ok (.getfield 25, 3) := by decide +kernel
theorem dX8_worth_60 : decode cX8_worth 60 = .ok (.sipush 225, 3) := by decide +kernel
theorem dX8_worth_63 : decode cX8_worth 63 = .ok (.iload 4, 2) := by decide +kernel
theorem dX8_worth_65 : decode cX8_worth 65 = .ok (.iconst 1, 1) := by decide +kernel
theorem dX8_worth_66 : decode cX8_worth 66 = .ok (.isub, 1) := by decide +kernel
theorem dX8_worth_67 : decode cX8_worth 67 = .ok (.imul, 1) := by decide +kernel
theorem dX8_worth_68 : decode cX8_worth 68 = .ok (.bipush 25, 2) := by decide +kernel
theorem dX8_worth_70 : decode cX8_worth 70 = .ok (.iload_n 3, 1) := by decide +kernel
theorem dX8_worth_71 : decode cX8_worth 71 = .ok (.iconst 1, 1) := by decide +kernel
theorem dX8_worth_72 : decode cX8_worth 72 = .ok (.iadd, 1) := by decide +kernel
theorem dX8_worth_73 : decode cX8_worth 73 = .ok (.aload_n 0, 1) := by decide +kernel
theorem dX8_worth_74 : decode cX8_worth 74 = .ok (.getfield 116, 3) := by decide +kernel
theorem dX8_worth_77 : decode cX8_worth 77 = .ok (.irem, 1) := by decide +kernel
theorem dX8_worth_78 : decode cX8_worth 78 = .ok (.imul, 1) := by decide +kernel
theorem dX8_worth_79 : decode cX8_worth 79 = .ok (.iadd, 1) := by decide +kernel
theorem dX8_worth_80 : decode cX8_worth 80 = .ok (.iload_n 1, 1) := by decide +kernel
theorem dX8_worth_81 : decode cX8_worth 81 = .ok (.iload_n 2, 1) := by decide +kernel
theorem dX8_worth_82 : decode cX8_worth 82 = .ok (.invokestatic 88, 3) := by decide +kernel
theorem dX8_worth_85 : decode cX8_worth 85 = .ok (.iadd, 1) := by decide +kernel
theorem dX8_worth_86 : decode cX8_worth 86 = .ok (.iaload, 1) := by decide +kernel
theorem dX8_worth_87 : decode cX8_worth 87 = .ok (.iadd, 1) := by decide +kernel
theorem dX8_worth_88 : decode cX8_worth 88 = .ok (.aload_n 0, 1) := by decide +kernel
theorem dX8_worth_89 : decode cX8_worth 89 = .ok (.getfield 25, 3) := by decide +kernel
theorem dX8_worth_92 : decode cX8_worth 92 = .ok (.sipush 225, 3) := by decide +kernel
theorem dX8_worth_95 : decode cX8_worth 95 = .ok (.iload 4, 2) := by decide +kernel
theorem dX8_worth_97 : decode cX8_worth 97 = .ok (.imul, 1) := by decide +kernel
theorem dX8_worth_98 : decode cX8_worth 98 = .ok (.bipush 25, 2) := by decide +kernel
theorem dX8_worth_100 : decode cX8_worth 100 = .ok (.iload_n 3, 1) := by decide +kernel
theorem dX8_worth_101 : decode cX8_worth 101 = .ok (.imul, 1) := by decide +kernel
theorem dX8_worth_102 : decode cX8_worth 102 = .ok (.iadd, 1) := by decide +kernel
theorem dX8_worth_103 : decode cX8_worth 103 = .ok (.iload_n 1, 1) := by decide +kernel
theorem dX8_worth_104 : decode cX8_worth 104 = .ok (.iadd, 1) := by decide +kernel
theorem dX8_worth_105 : decode cX8_worth 105 = .ok (.iaload, 1) := by decide +kernel
theorem dX8_worth_106 : decode cX8_worth 106 = .ok (.isub, 1) := by decide +kernel
theorem dX8_worth_107 : decode cX8_worth 107 = .ok (.ireturn, 1) := by decide +kernel
set_option maxRecDepth 20000 in
theorem ggX8_rateNow_X8_findMeans : GoodIn wsX8_rateNow wsX8_findMeans := goodIn_r _ [7, 2, 8, 9, 10, 1, 11, 12, 13, 6, 14, 15, 16, 17, 18, 19, 20, 21, 22, 23, 24, 25, 26, 27, 28, 29, 30, 31, 32, 33, 34, 35, 36, 37, 38, 39, 40, 41, 42] (by decide +kernel) (by decide +kernel)
set_option maxRecDepth 20000 in
theorem gX8_rateNow_X8_findMeans : GoodIn wsX8_rateNow (wsV RX8 129 RX8 yX8_findMeans wsX8_findMeans) := goodIn_app (goodIn_of _ (by decide +kernel)) ggX8_rateNow_X8_findMeans
theorem dX8_rateNow_0 : decode cX8_rateNow 0 = .ok (.aload_n 0, 1) := by decide +kernel
theorem dX8_rateNow_1 : decode cX8_rateNow 1 = .ok (.bipush 30, 2) := by decide +kernel
theorem dX8_rateNow_3 : decode cX8_rateNow 3 = .ok (.invokevirtual 129, 3) := by decide +kernel
theorem dX8_rateNow_6 : decode cX8_rateNow 6 = .ok (.aload_n 0, 1) := by decide +kernel
theorem dX8_rateNow_7 : decode cX8_rateNow 7 = .ok (.getfield 25, 3) := by decide +kernel
theorem dX8_rateNow_10 : decode cX8_rateNow 10 = .ok (.sipush 6750, 3) := by decide +kernel
theorem dX8_rateNow_13 : decode cX8_rateNow 13 = .ok (.iaload, 1) := by decide +kernel
theorem dX8_rateNow_14 : decode cX8_rateNow 14 = .ok (.aload_n 0, 1) := by decide +kernel
theorem dX8_rateNow_15 : decode cX8_rateNow 15 = .ok (.getfield 25, 3) := by decide +kernel
theorem dX8_rateNow_18 : decode cX8_rateNow 18 = .ok (.sipush 6750, 3) := by decide +kernel
theorem dX8_rateNow_21 : decode cX8_rateNow 21 = .ok (.bipush 25, 2) := by decide +kernel
theorem dX8_rateNow_23 : decode cX8_rateNow 23 = .ok (.aload_n 0, 1) := by decide +kernel
theorem dX8_rateNow_24 : decode cX8_rateNow 24 = .ok (.getfield 116, 3) := by decide +kernel
theorem dX8_rateNow_27 : decode cX8_rateNow 27 = .ok (.iconst 2, 1) := by decide +kernel
theorem dX8_rateNow_28 : decode cX8_rateNow 28 = .ok (.idiv, 1) := by decide +kernel
theorem dX8_rateNow_29 : decode cX8_rateNow 29 = .ok (.imul, 1) := by decide +kernel
theorem dX8_rateNow_30 : decode cX8_rateNow 30 = .ok (.iadd, 1) := by decide +kernel
theorem dX8_rateNow_31 : decode cX8_rateNow 31 = .ok (.iaload, 1) := by decide +kernel
theorem dX8_rateNow_32 : decode cX8_rateNow 32 = .ok (.iadd, 1) := by decide +kernel
theorem dX8_rateNow_33 : decode cX8_rateNow 33 = .ok (.ireturn, 1) := by decide +kernel
set_option maxRecDepth 20000 in
theorem ggX8_rate_X8_rateNow : GoodIn wsX8_rate wsX8_rateNow := goodIn_r _ [8, 9, 2, 10, 11, 12, 7, 13, 14, 15, 16, 17, 18, 19, 20, 21, 22, 23, 24, 25, 26, 27, 28, 29, 30, 31, 32, 33, 34, 35, 36, 37, 38, 39, 40, 41, 42, 43, 44, 45, 46, 47, 48] (by decide +kernel) (by decide +kernel)
set_option maxRecDepth 20000 in
theorem gX8_rate_X8_rateNow : GoodIn wsX8_rate (wsV RX8 133 RX8 yX8_rateNow wsX8_rateNow) := goodIn_app (goodIn_of _ (by decide +kernel)) ggX8_rate_X8_rateNow
theorem dX8_rate_0 : decode cX8_rate 0 = .ok (.aload_n 0, 1) := by decide +kernel
theorem dX8_rate_1 : decode cX8_rate 1 = .ok (.iconst 0, 1) := by decide +kernel
theorem dX8_rate_2 : decode cX8_rate 2 = .ok (.putfield 52, 3) := by decide +kernel
theorem dX8_rate_5 : decode cX8_rate 5 = .ok (.aload_n 0, 1) := by decide +kernel
theorem dX8_rate_6 : decode cX8_rate 6 = .ok (.getfield 116, 3) := by decide +kernel
theorem dX8_rate_9 : decode cX8_rate 9 = .ok (.ifCond .ne 8, 3) := by decide +kernel
theorem dX8_rate_12 : decode cX8_rate 12 = .ok (.ldc 113, 2) := by decide +kernel
theorem dX8_rate_14 : decode cX8_rate 14 = .ok (.goto 7, 3) := by decide +kernel
theorem dX8_rate_17 : decode cX8_rate 17 = .ok (.aload_n 0, 1) := by decide +kernel
theorem dX8_rate_18 : decode cX8_rate 18 = .ok (.invokevirtual 133, 3) := by decide +kernel
theorem dX8_rate_21 : decode cX8_rate 21 = .ok (.ireturn, 1) := by decide +kernel
theorem dX8_exchange_0 : decode cX8_exchange 0 = .ok (.aload_n 0, 1) := by decide +kernel
theorem dX8_exchange_1 : decode cX8_exchange 1 = .ok (.getfield 22, 3) := by decide +kernel
theorem dX8_exchange_4 : decode cX8_exchange 4 = .ok (.iload_n 1, 1) := by decide +kernel
theorem dX8_exchange_5 : decode cX8_exchange 5 = .ok (.iaload, 1) := by decide +kernel
theorem dX8_exchange_6 : decode cX8_exchange 6 = .ok (.istore_n 3, 1) := by decide +kernel
theorem dX8_exchange_7 : decode cX8_exchange 7 = .ok (.aload_n 0, 1) := by decide +kernel
theorem dX8_exchange_8 : decode cX8_exchange 8 = .ok (.getfield 22, 3) := by decide +kernel
theorem dX8_exchange_11 : decode cX8_exchange 11 = .ok (.iload_n 1, 1) := by decide +kernel
theorem dX8_exchange_12 : decode cX8_exchange 12 = .ok (.aload_n 0, 1) := by decide +kernel
theorem dX8_exchange_13 : decode cX8_exchange 13 = .ok (.getfield 22, 3) := by decide +kernel
theorem dX8_exchange_16 : decode cX8_exchange 16 = .ok (.iload_n 2, 1) := by decide +kernel
theorem dX8_exchange_17 : decode cX8_exchange 17 = .ok (.iaload, 1) := by decide +kernel
theorem dX8_exchange_18 : decode cX8_exchange 18 = .ok (.iastore, 1) := by decide +kernel
theorem dX8_exchange_19 : decode cX8_exchange 19 = .ok (.aload_n 0, 1) := by decide +kernel
theorem dX8_exchange_20 : decode cX8_exchange 20 = .ok (.getfield 22, 3) := by decide +kernel
theorem dX8_exchange_23 : decode cX8_exchange 23 = .ok (.iload_n 2, 1) := by decide +kernel
theorem dX8_exchange_24 : decode cX8_exchange 24 = .ok (.iload_n 3, 1) := by decide +kernel
theorem dX8_exchange_25 : decode cX8_exchange 25 = .ok (.iastore, 1) := by decide +kernel
theorem dX8_exchange_26 : decode cX8_exchange 26 = .ok (.return_, 1) := by decide +kernel
set_option maxRecDepth 20000 in
theorem ggX8_swapped_X8_rateNow : GoodIn wsX8_swapped wsX8_rateNow := goodIn_r _ [8, 9, 2, 10, 11, 12, 7, 13, 14, 15, 16, 17, 18, 19, 20, 21, 22, 23, 24, 25, 26, 31, 32, 33, 34, 35, 36, 37, 38, 39, 40, 41, 42, 43, 44, 45, 46, 47, 48, 49, 50, 51, 52] (by decide +kernel) (by decide +kernel)
set_option maxRecDepth 20000 in
theorem gX8_swapped_X8_rateNow : GoodIn wsX8_swapped (wsV RX8 133 RX8 yX8_rateNow wsX8_rateNow) := goodIn_app (goodIn_of _ (by decide +kernel)) ggX8_swapped_X8_rateNow
set_option maxRecDepth 20000 in
theorem ggX8_swapped_X8_exchange : GoodIn wsX8_swapped wsX8_exchange := goodIn_r _ [30, 15, 31, 32, 33, 34, 35, 36, 37, 38, 39, 40, 41, 42, 43, 44, 45, 46, 47, 48, 49, 50, 51, 52] (by decide +kernel) (by decide +kernel)
set_option maxRecDepth 20000 in
theorem gX8_swapped_X8_exchange : GoodIn wsX8_swapped (wsV RX8 137 RX8 yX8_exchange wsX8_exchange) := goodIn_app (goodIn_of _ (by decide +kernel)) ggX8_swapped_X8_exchange
theorem dX8_swapped_0 : decode cX8_swapped 0 = .ok (.aload_n 0, 1) := by decide +kernel
theorem dX8_swapped_1 : decode cX8_swapped 1 = .ok (.iconst 0, 1) := by decide +kernel
theorem dX8_swapped_2 : decode cX8_swapped 2 = .ok (.putfield 52, 3) := by decide +kernel
theorem dX8_swapped_5 : decode cX8_swapped 5 = .ok (.aload_n 0, 1) := by decide +kernel
theorem dX8_swapped_6 : decode cX8_swapped 6 = .ok (.getfield 116, 3) := by decide +kernel
theorem dX8_swapped_9 : decode cX8_swapped 9 = .ok (.ifCond .ne 6, 3) := by decide +kernel
theorem dX8_swapped_12 : decode cX8_swapped 12 = .ok (.ldc 113, 2) := by decide +kernel
theorem dX8_swapped_14 : decode cX8_swapped 14 = .ok (.ireturn, 1) := by decide +kernel
theorem dX8_swapped_15 : decode cX8_swapped 15 = .ok (.iconst 0, 1) := by decide +kernel
theorem dX8_swapped_16 : decode cX8_swapped 16 = .ok (.istore_n 1, 1) := by decide +kernel
theorem dX8_swapped_17 : decode cX8_swapped 17 = .ok (.aload_n 0, 1) := by decide +kernel
theorem dX8_swapped_18 : decode cX8_swapped 18 = .ok (.invokevirtual 133, 3) := by decide +kernel
theorem dX8_swapped_21 : decode cX8_swapped 21 = .ok (.istore_n 2, 1) := by decide +kernel
theorem dX8_swapped_22 : decode cX8_swapped 22 = .ok (.iconst 1, 1) := by decide +kernel
theorem dX8_swapped_23 : decode cX8_swapped 23 = .ok (.istore_n 3, 1) := by decide +kernel
theorem dX8_swapped_24 : decode cX8_swapped 24 = .ok (.iload_n 3, 1) := by decide +kernel
theorem dX8_swapped_25 : decode cX8_swapped 25 = .ok (.ifCond .eq 100, 3) := by decide +kernel
theorem dX8_swapped_28 : decode cX8_swapped 28 = .ok (.iload_n 1, 1) := by decide +kernel
theorem dX8_swapped_29 : decode cX8_swapped 29 = .ok (.bipush 40, 2) := by decide +kernel
theorem dX8_swapped_31 : decode cX8_swapped 31 = .ok (.if_icmp .ge 94, 3) := by decide +kernel
theorem dX8_swapped_34 : decode cX8_swapped 34 = .ok (.iconst 0, 1) := by decide +kernel
theorem dX8_swapped_35 : decode cX8_swapped 35 = .ok (.istore_n 3, 1) := by decide +kernel
theorem dX8_swapped_36 : decode cX8_swapped 36 = .ok (.iconst 0, 1) := by decide +kernel
theorem dX8_swapped_37 : decode cX8_swapped 37 = .ok (.istore 4, 2) := by decide +kernel
theorem dX8_swapped_39 : decode cX8_swapped 39 = .ok (.iload 4, 2) := by decide +kernel
theorem dX8_swapped_41 : decode cX8_swapped 41 = .ok (.aload_n 0, 1) := by decide +kernel
theorem dX8_swapped_42 : decode cX8_swapped 42 = .ok (.getfield 116, 3) := by decide +kernel
theorem dX8_swapped_45 : decode cX8_swapped 45 = .ok (.if_icmp .ge 77, 3) := by decide +kernel
theorem dX8_swapped_48 : decode cX8_swapped 48 = .ok (.iload_n 3, 1) := by decide +kernel
theorem dX8_swapped_49 : decode cX8_swapped 49 = .ok (.ifCond .ne 73, 3) := by decide +kernel
theorem dX8_swapped_52 : decode cX8_swapped 52 = .ok (.iload 4, 2) := by decide +kernel
theorem dX8_swapped_54 : decode cX8_swapped 54 = .ok (.iconst 1, 1) := by decide +kernel
theorem dX8_swapped_55 : decode cX8_swapped 55 = .ok (.iadd, 1) := by decide +kernel
theorem dX8_swapped_56 : decode cX8_swapped 56 = .ok (.istore 5, 2) := by decide +kernel
theorem dX8_swapped_58 : decode cX8_swapped 58 = .ok (.iload 5, 2) := by decide +kernel
theorem dX8_swapped_60 : decode cX8_swapped 60 = .ok (.aload_n 0, 1) := by decide +kernel
theorem dX8_swapped_61 : decode cX8_swapped 61 = .ok (.getfield 116, 3) := by decide +kernel
theorem dX8_swapped_64 : decode cX8_swapped 64 = .ok (.if_icmp .ge 52, 3) := by decide +kernel
theorem dX8_swapped_67 : decode cX8_swapped 67 = .ok (.iload_n 3, 1) := by decide +kernel
theorem dX8_swapped_68 : decode cX8_swapped 68 = .ok (.ifCond .ne 48, 3) := by decide +kernel
theorem dX8_swapped_71 : decode cX8_swapped 71 = .ok (.aload_n 0, 1) := by decide +kernel
theorem dX8_swapped_72 : decode cX8_swapped 72 = .ok (.iload 4, 2) := by decide +kernel
theorem dX8_swapped_74 : decode cX8_swapped 74 = .ok (.iload 5, 2) := by decide +kernel
theorem dX8_swapped_76 : decode cX8_swapped 76 = .ok (.invokevirtual 137, 3) := by decide +kernel
theorem dX8_swapped_79 : decode cX8_swapped 79 = .ok (.aload_n 0, 1) := by decide +kernel
theorem dX8_swapped_80 : decode cX8_swapped 80 = .ok (.invokevirtual 133, 3) := by decide +kernel
theorem dX8_swapped_83 : decode cX8_swapped 83 = .ok (.istore 6, 2) := by decide +kernel
theorem dX8_swapped_85 : decode cX8_swapped 85 = .ok (.iload 6, 2) := by decide +kernel
theorem dX8_swapped_87 : decode cX8_swapped 87 = .ok (.iload_n 2, 1) := by decide +kernel
theorem dX8_swapped_88 : decode cX8_swapped 88 = .ok (.if_icmp .le 14, 3) := by decide +kernel
theorem dX8_swapped_91 : decode cX8_swapped 91 = .ok (.iload 6, 2) := by decide +kernel
theorem dX8_swapped_93 : decode cX8_swapped 93 = .ok (.istore_n 2, 1) := by decide +kernel
theorem dX8_swapped_94 : decode cX8_swapped 94 = .ok (.iinc 1 1, 3) := by decide +kernel
theorem dX8_swapped_97 : decode cX8_swapped 97 = .ok (.iconst 1, 1) := by decide +kernel
theorem dX8_swapped_98 : decode cX8_swapped 98 = .ok (.istore_n 3, 1) := by decide +kernel
theorem dX8_swapped_99 : decode cX8_swapped 99 = .ok (.goto 11, 3) := by decide +kernel
theorem dX8_swapped_102 : decode cX8_swapped 102 = .ok (.aload_n 0, 1) := by decide +kernel
theorem dX8_swapped_103 : decode cX8_swapped 103 = .ok (.iload 4, 2) := by decide +kernel
theorem dX8_swapped_105 : decode cX8_swapped 105 = .ok (.iload 5, 2) := by decide +kernel
theorem dX8_swapped_107 : decode cX8_swapped 107 = .ok (.invokevirtual 137, 3) := by decide +kernel
theorem dX8_swapped_110 : decode cX8_swapped 110 = .ok (.iinc 5 1, 3) := by decide +kernel
theorem dX8_swapped_113 : decode cX8_swapped 113 = .ok (.goto (-55), 3) := by decide +kernel
theorem dX8_swapped_116 : decode cX8_swapped 116 = .ok (.iinc 4 1, 3) := by decide +kernel
theorem dX8_swapped_119 : decode cX8_swapped 119 = .ok (.goto (-80), 3) := by decide +kernel
theorem dX8_swapped_122 : decode cX8_swapped 122 = .ok (.goto (-98), 3) := by decide +kernel
theorem dX8_swapped_125 : decode cX8_swapped 125 = .ok (.iload_n 1, 1) := by decide +kernel
theorem dX8_swapped_126 : decode cX8_swapped 126 = .ok (.ireturn, 1) := by decide +kernel
set_option maxRecDepth 20000 in
theorem ggX8_nextOrder_X8_exchange : GoodIn wsX8_nextOrder wsX8_exchange := goodIn_r _ [7, 2, 8, 9, 10, 11, 12, 13, 14, 15, 16, 17, 18, 19, 20, 21, 22, 23, 24, 25, 26, 27, 28, 29] (by decide +kernel) (by decide +kernel)
set_option maxRecDepth 20000 in
theorem gX8_nextOrder_X8_exchange : GoodIn wsX8_nextOrder (wsV RX8 137 RX8 yX8_exchange wsX8_exchange) := goodIn_app (goodIn_of _ (by decide +kernel)) ggX8_nextOrder_X8_exchange
theorem dX8_nextOrder_0 : decode cX8_nextOrder 0 = .ok (.aload_n 0, 1) := by decide +kernel
theorem dX8_nextOrder_1 : decode cX8_nextOrder 1 = .ok (.getfield 116, 3) := by decide +kernel
theorem dX8_nextOrder_4 : decode cX8_nextOrder 4 = .ok (.iconst 2, 1) := by decide +kernel
theorem dX8_nextOrder_5 : decode cX8_nextOrder 5 = .ok (.isub, 1) := by decide +kernel
theorem dX8_nextOrder_6 : decode cX8_nextOrder 6 = .ok (.istore_n 1, 1) := by decide +kernel
theorem dX8_nextOrder_7 : decode cX8_nextOrder 7 = .ok (.iload_n 1, 1) := by decide +kernel
theorem dX8_nextOrder_8 : decode cX8_nextOrder 8 = .ok (.ifCond .lt 26, 3) := by decide +kernel
theorem dX8_nextOrder_11 : decode cX8_nextOrder 11 = .ok (.aload_n 0, 1) := by decide +kernel
theorem dX8_nextOrder_12 : decode cX8_nextOrder 12 = .ok (.getfield 22, 3) := by decide +kernel
theorem dX8_nextOrder_15 : decode cX8_nextOrder 15 = .ok (.iload_n 1, 1) := by decide +kernel
theorem dX8_nextOrder_16 : decode cX8_nextOrder 16 = .ok (.iaload, 1) := by decide +kernel
theorem dX8_nextOrder_17 : decode cX8_nextOrder 17 = .ok (.aload_n 0, 1) := by decide +kernel
theorem dX8_nextOrder_18 : decode cX8_nextOrder 18 = .ok (.getfield 22, 3) := by decide +kernel
theorem dX8_nextOrder_21 : decode cX8_nextOrder 21 = .ok (.iload_n 1, 1) := by decide +kernel
theorem dX8_nextOrder_22 : decode cX8_nextOrder 22 = .ok (.iconst 1, 1) := by decide +kernel
theorem dX8_nextOrder_23 : decode cX8_nextOrder 23 = .ok (.iadd, 1) := by decide +kernel
theorem dX8_nextOrder_24 : decode cX8_nextOrder 24 = .ok (.iaload, 1) := by decide +kernel
theorem dX8_nextOrder_25 : decode cX8_nextOrder 25 = .ok (.if_icmp .lt 9, 3) := by decide +kernel
theorem dX8_nextOrder_28 : decode cX8_nextOrder 28 = .ok (.iinc 1 (-1), 3) := by decide +kernel
theorem dX8_nextOrder_31 : decode cX8_nextOrder 31 = .ok (.goto (-24), 3) := by decide +kernel
theorem dX8_nextOrder_34 : decode cX8_nextOrder 34 = .ok (.iload_n 1, 1) := by decide +kernel
theorem dX8_nextOrder_35 : decode cX8_nextOrder 35 = .ok (.ifCond .ge 5, 3) := by decide +kernel
theorem dX8_nextOrder_38 : decode cX8_nextOrder 38 = .ok (.iconst 0, 1) := by decide +kernel
theorem dX8_nextOrder_39 : decode cX8_nextOrder 39 = .ok (.ireturn, 1) := by decide +kernel
theorem dX8_nextOrder_40 : decode cX8_nextOrder 40 = .ok (.aload_n 0, 1) := by decide +kernel
theorem dX8_nextOrder_41 : decode cX8_nextOrder 41 = .ok (.getfield 116, 3) := by decide +kernel
theorem dX8_nextOrder_44 : decode cX8_nextOrder 44 = .ok (.iconst 1, 1) := by decide +kernel
theorem dX8_nextOrder_45 : decode cX8_nextOrder 45 = .ok (.isub, 1) := by decide +kernel
theorem dX8_nextOrder_46 : decode cX8_nextOrder 46 = .ok (.istore_n 2, 1) := by decide +kernel
theorem dX8_nextOrder_47 : decode cX8_nextOrder 47 = .ok (.aload_n 0, 1) := by decide +kernel
theorem dX8_nextOrder_48 : decode cX8_nextOrder 48 = .ok (.getfield 22, 3) := by decide +kernel
theorem dX8_nextOrder_51 : decode cX8_nextOrder 51 = .ok (.iload_n 2, 1) := by decide +kernel
theorem dX8_nextOrder_52 : decode cX8_nextOrder 52 = .ok (.iaload, 1) := by decide +kernel
theorem dX8_nextOrder_53 : decode cX8_nextOrder 53 = .ok (.aload_n 0, 1) := by decide +kernel
theorem dX8_nextOrder_54 : decode cX8_nextOrder 54 = .ok (.getfield 22, 3) := by decide +kernel
theorem dX8_nextOrder_57 : decode cX8_nextOrder 57 = .ok (.iload_n 1, 1) := by decide +kernel
theorem dX8_nextOrder_58 : decode cX8_nextOrder 58 = .ok (.iaload, 1) := by decide +kernel
theorem dX8_nextOrder_59 : decode cX8_nextOrder 59 = .ok (.if_icmp .gt 9, 3) := by decide +kernel
theorem dX8_nextOrder_62 : decode cX8_nextOrder 62 = .ok (.iinc 2 (-1), 3) := by decide +kernel
theorem dX8_nextOrder_65 : decode cX8_nextOrder 65 = .ok (.goto (-18), 3) := by decide +kernel
theorem dX8_nextOrder_68 : decode cX8_nextOrder 68 = .ok (.aload_n 0, 1) := by decide +kernel
theorem dX8_nextOrder_69 : decode cX8_nextOrder 69 = .ok (.iload_n 1, 1) := by decide +kernel
theorem dX8_nextOrder_70 : decode cX8_nextOrder 70 = .ok (.iload_n 2, 1) := by decide +kernel
theorem dX8_nextOrder_71 : decode cX8_nextOrder 71 = .ok (.invokevirtual 137, 3) := by decide +kernel
theorem dX8_nextOrder_74 : decode cX8_nextOrder 74 = .ok (.iload_n 1, 1) := by decide +kernel
theorem dX8_nextOrder_75 : decode cX8_nextOrder 75 = .ok (.iconst 1, 1) := by decide +kernel
theorem dX8_nextOrder_76 : decode cX8_nextOrder 76 = .ok (.iadd, 1) := by decide +kernel
theorem dX8_nextOrder_77 : decode cX8_nextOrder 77 = .ok (.istore_n 3, 1) := by decide +kernel
theorem dX8_nextOrder_78 : decode cX8_nextOrder 78 = .ok (.aload_n 0, 1) := by decide +kernel
theorem dX8_nextOrder_79 : decode cX8_nextOrder 79 = .ok (.getfield 116, 3) := by decide +kernel
theorem dX8_nextOrder_82 : decode cX8_nextOrder 82 = .ok (.iconst 1, 1) := by decide +kernel
theorem dX8_nextOrder_83 : decode cX8_nextOrder 83 = .ok (.isub, 1) := by decide +kernel
theorem dX8_nextOrder_84 : decode cX8_nextOrder 84 = .ok (.istore 4, 2) := by decide +kernel
theorem dX8_nextOrder_86 : decode cX8_nextOrder 86 = .ok (.iload_n 3, 1) := by decide +kernel
theorem dX8_nextOrder_87 : decode cX8_nextOrder 87 = .ok (.iload 4, 2) := by decide +kernel
theorem dX8_nextOrder_89 : decode cX8_nextOrder 89 = .ok (.if_icmp .ge 19, 3) := by decide +kernel
theorem dX8_nextOrder_92 : decode cX8_nextOrder 92 = .ok (.aload_n 0, 1) := by decide +kernel
theorem dX8_nextOrder_93 : decode cX8_nextOrder 93 = .ok (.iload_n 3, 1) := by decide +kernel
theorem dX8_nextOrder_94 : decode cX8_nextOrder 94 = .ok (.iload 4, 2) := by decide +kernel
theorem dX8_nextOrder_96 : decode cX8_nextOrder 96 = .ok (.invokevirtual 137, 3) := by decide +kernel
theorem dX8_nextOrder_99 : decode cX8_nextOrder 99 = .ok (.iinc 3 1, 3) := by decide +kernel
theorem dX8_nextOrder_102 : decode cX8_nextOrder 102 = .ok (.iinc 4 (-1), 3) := by decide +kernel
theorem dX8_nextOrder_105 : decode cX8_nextOrder 105 = .ok (.goto (-19), 3) := by decide +kernel
theorem dX8_nextOrder_108 : decode cX8_nextOrder 108 = .ok (.iconst 1, 1) := by decide +kernel
theorem dX8_nextOrder_109 : decode cX8_nextOrder 109 = .ok (.ireturn, 1) := by decide +kernel
set_option maxRecDepth 20000 in
theorem ggX8_best_X8_exchange : GoodIn wsX8_best wsX8_exchange := goodIn_r _ [10, 4, 36, 37, 38, 39, 40, 41, 42, 43, 44, 45, 46, 47, 48, 49, 50, 51, 52, 53, 54, 55, 56, 57] (by decide +kernel) (by decide +kernel)
set_option maxRecDepth 20000 in
theorem gX8_best_X8_exchange : GoodIn wsX8_best (wsV RX8 137 RX8 yX8_exchange wsX8_exchange) := goodIn_app (goodIn_of _ (by decide +kernel)) ggX8_best_X8_exchange
set_option maxRecDepth 20000 in
theorem ggX8_best_X8_rateNow : GoodIn wsX8_best wsX8_rateNow := goodIn_r _ [14, 15, 2, 16, 17, 18, 9, 19, 20, 4, 21, 22, 23, 24, 25, 26, 27, 28, 29, 30, 31, 36, 37, 38, 39, 40, 41, 42, 43, 44, 45, 46, 47, 48, 49, 50, 51, 52, 53, 54, 55, 56, 57] (by decide +kernel) (by decide +kernel)
set_option maxRecDepth 20000 in
theorem gX8_best_X8_rateNow : GoodIn wsX8_best (wsV RX8 133 RX8 yX8_rateNow wsX8_rateNow) := goodIn_app (goodIn_of _ (by decide +kernel)) ggX8_best_X8_rateNow
set_option maxRecDepth 20000 in
theorem ggX8_best_X8_nextOrder : GoodIn wsX8_best wsX8_nextOrder := goodIn_r _ [35, 2, 4, 6, 7, 8, 9, 10, 36, 37, 38, 39, 40, 41, 42, 43, 44, 45, 46, 47, 48, 49, 50, 51, 52, 53, 54, 55, 56, 57] (by decide +kernel) (by decide +kernel)
set_option maxRecDepth 20000 in
theorem gX8_best_X8_nextOrder : GoodIn wsX8_best (wsV RX8 141 RX8 yX8_nextOrder wsX8_nextOrder) := goodIn_app (goodIn_of _ (by decide +kernel)) ggX8_best_X8_nextOrder
theorem dX8_best_0 : decode cX8_best 0 = .ok (.aload_n 0, 1) := by decide +kernel
theorem dX8_best_1 : decode cX8_best 1 = .ok (.iconst 0, 1) := by decide +kernel
theorem dX8_best_2 : decode cX8_best 2 = .ok (.putfield 52, 3) := by decide +kernel
theorem dX8_best_5 : decode cX8_best 5 = .ok (.aload_n 0, 1) := by decide +kernel
theorem dX8_best_6 : decode cX8_best 6 = .ok (.getfield 116, 3) := by decide +kernel
theorem dX8_best_9 : decode cX8_best 9 = .ok (.ifCond .eq 12, 3) := by decide +kernel
theorem dX8_best_12 : decode cX8_best 12 = .ok (.aload_n 0, 1) := by decide +kernel
theorem dX8_best_13 : decode cX8_best 13 = .ok (.getfield 116, 3) := by decide +kernel
theorem dX8_best_16 : decode cX8_best 16 = .ok (.bipush 6, 2) := by decide +kernel
theorem dX8_best_18 : decode cX8_best 18 = .ok (.if_icmp .le 6, 3) := by decide +kernel
theorem dX8_best_21 : decode cX8_best 21 = .ok (.ldc 113, 2) := by decide +kernel
theorem dX8_best_23 : decode cX8_best 23 = .ok (.ireturn, 1) := by decide +kernel
theorem dX8_best_24 : decode cX8_best 24 = .ok (.iconst 0, 1) := by decide +kernel
theorem dX8_best_25 : decode cX8_best 25 = .ok (.istore_n 1, 1) := by decide +kernel
theorem dX8_best_26 : decode cX8_best 26 = .ok (.iload_n 1, 1) := by decide +kernel
theorem dX8_best_27 : decode cX8_best 27 = .ok (.aload_n 0, 1) := by decide +kernel
theorem dX8_best_28 : decode cX8_best 28 = .ok (.getfield 116, 3) := by decide +kernel
theorem dX8_best_31 : decode cX8_best 31 = .ok (.if_icmp .ge 48, 3) := by decide +kernel
theorem dX8_best_34 : decode cX8_best 34 = .ok (.iload_n 1, 1) := by decide +kernel
theorem dX8_best_35 : decode cX8_best 35 = .ok (.iconst 1, 1) := by decide +kernel
theorem dX8_best_36 : decode cX8_best 36 = .ok (.iadd, 1) := by decide +kernel
theorem dX8_best_37 : decode cX8_best 37 = .ok (.istore_n 2, 1) := by decide +kernel
theorem dX8_best_38 : decode cX8_best 38 = .ok (.iload_n 2, 1) := by decide +kernel
theorem dX8_best_39 : decode cX8_best 39 = .ok (.aload_n 0, 1) := by decide +kernel
theorem dX8_best_40 : decode cX8_best 40 = .ok (.getfield 116, 3) := by decide +kernel
theorem dX8_best_43 : decode cX8_best 43 = .ok (.if_icmp .ge 30, 3) := by decide +kernel
theorem dX8_best_46 : decode cX8_best 46 = .ok (.aload_n 0, 1) := by decide +kernel
theorem dX8_best_47 : decode cX8_best 47 = .ok (.getfield 22, 3) := by decide +kernel
theorem dX8_best_50 : decode cX8_best 50 = .ok (.iload_n 2, 1) := by decide +kernel
theorem dX8_best_51 : decode cX8_best 51 = .ok (.iaload, 1) := by decide +kernel
theorem dX8_best_52 : decode cX8_best 52 = .ok (.aload_n 0, 1) := by decide +kernel
theorem dX8_best_53 : decode cX8_best 53 = .ok (.getfield 22, 3) := by decide +kernel
theorem dX8_best_56 : decode cX8_best 56 = .ok (.iload_n 1, 1) := by decide +kernel
theorem dX8_best_57 : decode cX8_best 57 = .ok (.iaload, 1) := by decide +kernel
theorem dX8_best_58 : decode cX8_best 58 = .ok (.if_icmp .ge 9, 3) := by decide +kernel
theorem dX8_best_61 : decode cX8_best 61 = .ok (.aload_n 0, 1) := by decide +kernel
theorem dX8_best_62 : decode cX8_best 62 = .ok (.iload_n 1, 1) := by decide +kernel
theorem dX8_best_63 : decode cX8_best 63 = .ok (.iload_n 2, 1) := by decide +kernel
theorem dX8_best_64 : decode cX8_best 64 = .ok (.invokevirtual 137, 3) := by decide +kernel
theorem dX8_best_67 : decode cX8_best 67 = .ok (.iinc 2 1, 3) := by decide +kernel
theorem dX8_best_70 : decode cX8_best 70 = .ok (.goto (-32), 3) := by decide +kernel
theorem dX8_best_73 : decode cX8_best 73 = .ok (.iinc 1 1, 3) := by decide +kernel
theorem dX8_best_76 : decode cX8_best 76 = .ok (.goto (-50), 3) := by decide +kernel
theorem dX8_best_79 : decode cX8_best 79 = .ok (.iconst (-1), 1) := by decide +kernel
theorem dX8_best_80 : decode cX8_best 80 = .ok (.istore_n 1, 1) := by decide +kernel
theorem dX8_best_81 : decode cX8_best 81 = .ok (.iconst 1, 1) := by decide +kernel
theorem dX8_best_82 : decode cX8_best 82 = .ok (.istore_n 2, 1) := by decide +kernel
theorem dX8_best_83 : decode cX8_best 83 = .ok (.iload_n 2, 1) := by decide +kernel
theorem dX8_best_84 : decode cX8_best 84 = .ok (.ifCond .eq 55, 3) := by decide +kernel
theorem dX8_best_87 : decode cX8_best 87 = .ok (.aload_n 0, 1) := by decide +kernel
theorem dX8_best_88 : decode cX8_best 88 = .ok (.invokevirtual 133, 3) := by decide +kernel
theorem dX8_best_91 : decode cX8_best 91 = .ok (.istore_n 3, 1) := by decide +kernel
theorem dX8_best_92 : decode cX8_best 92 = .ok (.iload_n 3, 1) := by decide +kernel
theorem dX8_best_93 : decode cX8_best 93 = .ok (.iload_n 1, 1) := by decide +kernel
theorem dX8_best_94 : decode cX8_best 94 = .ok (.if_icmp .le 37, 3) := by decide +kernel
theorem dX8_best_97 : decode cX8_best 97 = .ok (.iload_n 3, 1) := by decide +kernel
theorem dX8_best_98 : decode cX8_best 98 = .ok (.istore_n 1, 1) := by decide +kernel
theorem dX8_best_99 : decode cX8_best 99 = .ok (.iconst 0, 1) := by decide +kernel
theorem dX8_best_100 : decode cX8_best 100 = .ok (.istore 4, 2) := by decide +kernel
theorem dX8_best_102 : decode cX8_best 102 = .ok (.iload 4, 2) := by decide +kernel
theorem dX8_best_104 : decode cX8_best 104 = .ok (.aload_n 0, 1) := by decide +kernel
theorem dX8_best_105 : decode cX8_best 105 = .ok (.getfield 116, 3) := by decide +kernel
theorem dX8_best_108 : decode cX8_best 108 = .ok (.if_icmp .ge 23, 3) := by decide +kernel
theorem dX8_best_111 : decode cX8_best 111 = .ok (.aload_n 0, 1) := by decide +kernel
theorem dX8_best_112 : decode cX8_best 112 = .ok (.getfield 32, 3) := by decide +kernel
theorem dX8_best_115 : decode cX8_best 115 = .ok (.iload 4, 2) := by decide +kernel
theorem dX8_best_117 : decode cX8_best 117 = .ok (.aload_n 0, 1) := by decide +kernel
theorem dX8_best_118 : decode cX8_best 118 = .ok (.getfield 22, 3) := by decide +kernel
theorem dX8_best_121 : decode cX8_best 121 = .ok (.iload 4, 2) := by decide +kernel
theorem dX8_best_123 : decode cX8_best 123 = .ok (.iaload, 1) := by decide +kernel
theorem dX8_best_124 : decode cX8_best 124 = .ok (.iastore, 1) := by decide +kernel
theorem dX8_best_125 : decode cX8_best 125 = .ok (.iinc 4 1, 3) := by decide +kernel
theorem dX8_best_128 : decode cX8_best 128 = .ok (.goto (-26), 3) := by decide +kernel
theorem dX8_best_131 : decode cX8_best 131 = .ok (.aload_n 0, 1) := by decide +kernel
theorem dX8_best_132 : decode cX8_best 132 = .ok (.invokevirtual 141, 3) := by decide +kernel
theorem dX8_best_135 : decode cX8_best 135 = .ok (.istore_n 2, 1) := by decide +kernel
theorem dX8_best_136 : decode cX8_best 136 = .ok (.goto (-53), 3) := by decide +kernel
theorem dX8_best_139 : decode cX8_best 139 = .ok (.iconst 0, 1) := by decide +kernel
theorem dX8_best_140 : decode cX8_best 140 = .ok (.istore_n 3, 1) := by decide +kernel
theorem dX8_best_141 : decode cX8_best 141 = .ok (.iload_n 3, 1) := by decide +kernel
theorem dX8_best_142 : decode cX8_best 142 = .ok (.aload_n 0, 1) := by decide +kernel
theorem dX8_best_143 : decode cX8_best 143 = .ok (.getfield 116, 3) := by decide +kernel
theorem dX8_best_146 : decode cX8_best 146 = .ok (.if_icmp .ge 21, 3) := by decide +kernel
theorem dX8_best_149 : decode cX8_best 149 = .ok (.aload_n 0, 1) := by decide +kernel
theorem dX8_best_150 : decode cX8_best 150 = .ok (.getfield 22, 3) := by decide +kernel
theorem dX8_best_153 : decode cX8_best 153 = .ok (.iload_n 3, 1) := by decide +kernel
theorem dX8_best_154 : decode cX8_best 154 = .ok (.aload_n 0, 1) := by decide +kernel
theorem dX8_best_155 : decode cX8_best 155 = .ok (.getfield 32, 3) := by decide +kernel
theorem dX8_best_158 : decode cX8_best 158 = .ok (.iload_n 3, 1) := by decide +kernel
theorem dX8_best_159 : decode cX8_best 159 = .ok (.iaload, 1) := by decide +kernel
theorem dX8_best_160 : decode cX8_best 160 = .ok (.iastore, 1) := by decide +kernel
theorem dX8_best_161 : decode cX8_best 161 = .ok (.iinc 3 1, 3) := by decide +kernel
theorem dX8_best_164 : decode cX8_best 164 = .ok (.goto (-23), 3) := by decide +kernel
theorem dX8_best_167 : decode cX8_best 167 = .ok (.iload_n 1, 1) := by decide +kernel
theorem dX8_best_168 : decode cX8_best 168 = .ok (.ireturn, 1) := by decide +kernel
set_option maxRecDepth 20000 in
theorem ggX8_team_X8_in : GoodIn wsX8_team wsX8_in := goodIn_r _ [7] (by decide +kernel) (by decide +kernel)
set_option maxRecDepth 20000 in
theorem gX8_team_X8_in : GoodIn wsX8_team (va_wsS RX8 62 yX8_in wsX8_in) := goodIn_app (goodIn_of _ (by decide +kernel)) ggX8_team_X8_in
set_option maxRecDepth 20000 in
theorem ggX8_team_X8_isStriker : GoodIn wsX8_team wsX8_isStriker := goodIn_r _ [11, 12, 4, 5, 6, 7, 13, 14, 15, 16, 17, 18, 19, 20, 21, 22, 23, 24, 25, 26, 27, 28, 29, 30, 31, 32, 33, 34] (by decide +kernel) (by decide +kernel)
set_option maxRecDepth 20000 in
theorem gX8_team_X8_isStriker : GoodIn wsX8_team (wsV RX8 108 RX8 yX8_isStriker wsX8_isStriker) := goodIn_app (goodIn_of _ (by decide +kernel)) ggX8_team_X8_isStriker
theorem dX8_team_0 : decode cX8_team 0 = .ok (.aload_n 0, 1) := by decide +kernel
theorem dX8_team_1 : decode cX8_team 1 = .ok (.iconst 0, 1) := by decide +kernel
theorem dX8_team_2 : decode cX8_team 2 = .ok (.putfield 52, 3) := by decide +kernel
theorem dX8_team_5 : decode cX8_team 5 = .ok (.iload_n 1, 1) := by decide +kernel
theorem dX8_team_6 : decode cX8_team 6 = .ok (.i2l, 1) := by decide +kernel
theorem dX8_team_7 : decode cX8_team 7 = .ok (.lconst 0, 1) := by decide +kernel
theorem dX8_team_8 : decode cX8_team 8 = .ok (.lconst 1, 1) := by decide +kernel
theorem dX8_team_9 : decode cX8_team 9 = .ok (.invokestatic 62, 3) := by decide +kernel
theorem dX8_team_12 : decode cX8_team 12 = .ok (.ifCond .eq 11, 3) := by decide +kernel
theorem dX8_team_15 : decode cX8_team 15 = .ok (.aload_n 0, 1) := by decide +kernel
theorem dX8_team_16 : decode cX8_team 16 = .ok (.iload_n 2, 1) := by decide +kernel
theorem dX8_team_17 : decode cX8_team 17 = .ok (.invokevirtual 108, 3) := by decide +kernel
theorem dX8_team_20 : decode cX8_team 20 = .ok (.ifCond .ne 6, 3) := by decide +kernel
theorem dX8_team_23 : decode cX8_team 23 = .ok (.ldc 72, 2) := by decide +kernel
theorem dX8_team_25 : decode cX8_team 25 = .ok (.ireturn, 1) := by decide +kernel
theorem dX8_team_26 : decode cX8_team 26 = .ok (.aload_n 0, 1) := by decide +kernel
theorem dX8_team_27 : decode cX8_team 27 = .ok (.getfield 36, 3) := by decide +kernel
theorem dX8_team_30 : decode cX8_team 30 = .ok (.iload_n 1, 1) := by decide +kernel
theorem dX8_team_31 : decode cX8_team 31 = .ok (.iaload, 1) := by decide +kernel
theorem dX8_team_32 : decode cX8_team 32 = .ok (.istore_n 3, 1) := by decide +kernel
theorem dX8_team_33 : decode cX8_team 33 = .ok (.aload_n 0, 1) := by decide +kernel
theorem dX8_team_34 : decode cX8_team 34 = .ok (.getfield 36, 3) := by decide +kernel
theorem dX8_team_37 : decode cX8_team 37 = .ok (.iload_n 1, 1) := by decide +kernel
theorem dX8_team_38 : decode cX8_team 38 = .ok (.iload_n 2, 1) := by decide +kernel
theorem dX8_team_39 : decode cX8_team 39 = .ok (.iastore, 1) := by decide +kernel
theorem dX8_team_40 : decode cX8_team 40 = .ok (.iload_n 3, 1) := by decide +kernel
theorem dX8_team_41 : decode cX8_team 41 = .ok (.ireturn, 1) := by decide +kernel
theorem dX8_placeOf_0 : decode cX8_placeOf 0 = .ok (.iload_n 0, 1) := by decide +kernel
theorem dX8_placeOf_1 : decode cX8_placeOf 1 = .ok (.bipush 19, 2) := by decide +kernel
theorem dX8_placeOf_3 : decode cX8_placeOf 3 = .ok (.imul, 1) := by decide +kernel
theorem dX8_placeOf_4 : decode cX8_placeOf 4 = .ok (.iload_n 1, 1) := by decide +kernel
theorem dX8_placeOf_5 : decode cX8_placeOf 5 = .ok (.iadd, 1) := by decide +kernel
theorem dX8_placeOf_6 : decode cX8_placeOf 6 = .ok (.bipush 9, 2) := by decide +kernel
theorem dX8_placeOf_8 : decode cX8_placeOf 8 = .ok (.iadd, 1) := by decide +kernel
theorem dX8_placeOf_9 : decode cX8_placeOf 9 = .ok (.bipush 13, 2) := by decide +kernel
theorem dX8_placeOf_11 : decode cX8_placeOf 11 = .ok (.imul, 1) := by decide +kernel
theorem dX8_placeOf_12 : decode cX8_placeOf 12 = .ok (.iload_n 2, 1) := by decide +kernel
theorem dX8_placeOf_13 : decode cX8_placeOf 13 = .ok (.iadd, 1) := by decide +kernel
theorem dX8_placeOf_14 : decode cX8_placeOf 14 = .ok (.bipush 25, 2) := by decide +kernel
theorem dX8_placeOf_16 : decode cX8_placeOf 16 = .ok (.imul, 1) := by decide +kernel
theorem dX8_placeOf_17 : decode cX8_placeOf 17 = .ok (.iload_n 3, 1) := by decide +kernel
theorem dX8_placeOf_18 : decode cX8_placeOf 18 = .ok (.iadd, 1) := by decide +kernel
theorem dX8_placeOf_19 : decode cX8_placeOf 19 = .ok (.ireturn, 1) := by decide +kernel
set_option maxRecDepth 20000 in
theorem ggX8_winBehind_X8_runs : GoodIn wsX8_winBehind wsX8_runs := goodIn_r _ [5, 6, 7, 4, 8] (by decide +kernel) (by decide +kernel)
set_option maxRecDepth 20000 in
theorem gX8_winBehind_X8_runs : GoodIn wsX8_winBehind (va_wsS RX8 92 yX8_runs wsX8_runs) := goodIn_app (goodIn_of _ (by decide +kernel)) ggX8_winBehind_X8_runs
set_option maxRecDepth 20000 in
theorem ggX8_winBehind_X8_next : GoodIn wsX8_winBehind wsX8_next := goodIn_r _ [11] (by decide +kernel) (by decide +kernel)
set_option maxRecDepth 20000 in
theorem gX8_winBehind_X8_next : GoodIn wsX8_winBehind (va_wsS RX8 88 yX8_next wsX8_next) := goodIn_app (goodIn_of _ (by decide +kernel)) ggX8_winBehind_X8_next
set_option maxRecDepth 20000 in
theorem ggX8_winBehind_X8_placeOf : GoodIn wsX8_winBehind wsX8_placeOf := goodIn_r _ [14] (by decide +kernel) (by decide +kernel)
set_option maxRecDepth 20000 in
theorem gX8_winBehind_X8_placeOf : GoodIn wsX8_winBehind (va_wsS RX8 145 yX8_placeOf wsX8_placeOf) := goodIn_app (goodIn_of _ (by decide +kernel)) ggX8_winBehind_X8_placeOf
end
section
theorem dX8_winBehind_0 : decode cX8_winBehind 0 = .ok (.iload_n 1, 1) := by decide +kernel
theorem dX8_winBehind_1 : decode cX8_winBehind 1 = .ok (.iconst 2, 1) := by decide +kernel
theorem dX8_winBehind_2 : decode cX8_winBehind 2 = .ok (.irem, 1) := by decide +kernel
theorem dX8_winBehind_3 : decode cX8_winBehind 3 = .ok (.ifCond .ne 13, 3) := by decide +kernel
theorem dX8_winBehind_6 : decode cX8_winBehind 6 = .ok (.iload 4, 2) := by decide +kernel
theorem dX8_winBehind_8 : decode cX8_winBehind 8 = .ok (.iload 5, 2) := by decide +kernel
theorem dX8_winBehind_10 : decode cX8_winBehind 10 = .ok (.invokestatic 92, 3) := by decide +kernel
theorem dX8_winBehind_13 : decode cX8_winBehind 13 = .ok (.goto 11, 3) := by decide +kernel
theorem dX8_winBehind_16 : decode cX8_winBehind 16 = .ok (.iload 4, 2) := by decide +kernel
theorem dX8_winBehind_18 : decode cX8_winBehind 18 = .ok (.iload 5, 2) := by decide +kernel
theorem dX8_winBehind_20 : decode cX8_winBehind 20 = .ok (.invokestatic 92, 3) := by decide +kernel
theorem dX8_winBehind_23 : decode cX8_winBehind 23 = .ok (.ineg, 1) := by decide +kernel
theorem dX8_winBehind_24 : decode cX8_winBehind 24 = .ok (.istore 6, 2) := by decide +kernel
theorem dX8_winBehind_26 : decode cX8_winBehind 26 = .ok (.iload_n 2, 1) := by decide +kernel
theorem dX8_winBehind_27 : decode cX8_winBehind 27 = .ok (.iload 6, 2) := by decide +kernel
theorem dX8_winBehind_29 : decode cX8_winBehind 29 = .ok (.iadd, 1) := by decide +kernel
theorem dX8_winBehind_30 : decode cX8_winBehind 30 = .ok (.bipush 9, 2) := by decide +kernel
theorem dX8_winBehind_32 : decode cX8_winBehind 32 = .ok (.if_icmp .le 8, 3) := by decide +kernel
theorem dX8_winBehind_35 : decode cX8_winBehind 35 = .ok (.bipush 9, 2) := by decide +kernel
theorem dX8_winBehind_37 : decode cX8_winBehind 37 = .ok (.goto 21, 3) := by decide +kernel
theorem dX8_winBehind_40 : decode cX8_winBehind 40 = .ok (.iload_n 2, 1) := by decide +kernel
theorem dX8_winBehind_41 : decode cX8_winBehind 41 = .ok (.iload 6, 2) := by decide +kernel
theorem dX8_winBehind_43 : decode cX8_winBehind 43 = .ok (.iadd, 1) := by decide +kernel
theorem dX8_winBehind_44 : decode cX8_winBehind 44 = .ok (.bipush (-9), 2) := by decide +kernel
theorem dX8_winBehind_46 : decode cX8_winBehind 46 = .ok (.if_icmp .ge 8, 3) := by decide +kernel
theorem dX8_winBehind_49 : decode cX8_winBehind 49 = .ok (.bipush (-9), 2) := by decide +kernel
theorem dX8_winBehind_51 : decode cX8_winBehind 51 = .ok (.goto 7, 3) := by decide +kernel
theorem dX8_winBehind_54 : decode cX8_winBehind 54 = .ok (.iload_n 2, 1) := by decide +kernel
theorem dX8_winBehind_55 : decode cX8_winBehind 55 = .ok (.iload 6, 2) := by decide +kernel
theorem dX8_winBehind_57 : decode cX8_winBehind 57 = .ok (.iadd, 1) := by decide +kernel
theorem dX8_winBehind_58 : decode cX8_winBehind 58 = .ok (.istore 7, 2) := by decide +kernel
theorem dX8_winBehind_60 : decode cX8_winBehind 60 = .ok (.aload_n 0, 1) := by decide +kernel
theorem dX8_winBehind_61 : decode cX8_winBehind 61 = .ok (.getfield 40, 3) := by decide +kernel
theorem dX8_winBehind_64 : decode cX8_winBehind 64 = .ok (.iload_n 1, 1) := by decide +kernel
theorem dX8_winBehind_65 : decode cX8_winBehind 65 = .ok (.iload 7, 2) := by decide +kernel
theorem dX8_winBehind_67 : decode cX8_winBehind 67 = .ok (.iload_n 3, 1) := by decide +kernel
theorem dX8_winBehind_68 : decode cX8_winBehind 68 = .ok (.iconst 1, 1) := by decide +kernel
theorem dX8_winBehind_69 : decode cX8_winBehind 69 = .ok (.isub, 1) := by decide +kernel
theorem dX8_winBehind_70 : decode cX8_winBehind 70 = .ok (.iload 4, 2) := by decide +kernel
theorem dX8_winBehind_72 : decode cX8_winBehind 72 = .ok (.iload 5, 2) := by decide +kernel
theorem dX8_winBehind_74 : decode cX8_winBehind 74 = .ok (.invokestatic 88, 3) := by decide +kernel
theorem dX8_winBehind_77 : decode cX8_winBehind 77 = .ok (.invokestatic 145, 3) := by decide +kernel
theorem dX8_winBehind_80 : decode cX8_winBehind 80 = .ok (.iaload, 1) := by decide +kernel
theorem dX8_winBehind_81 : decode cX8_winBehind 81 = .ok (.ireturn, 1) := by decide +kernel
set_option maxRecDepth 20000 in
theorem ggX8_play_X8_placeOf : GoodIn wsX8_play wsX8_placeOf := goodIn_r _ [12] (by decide +kernel) (by decide +kernel)
set_option maxRecDepth 20000 in
theorem gX8_play_X8_placeOf : GoodIn wsX8_play (va_wsS RX8 145 yX8_placeOf wsX8_placeOf) := goodIn_app (goodIn_of _ (by decide +kernel)) ggX8_play_X8_placeOf
set_option maxRecDepth 20000 in
theorem ggX8_play_X8_winBehind : GoodIn wsX8_play wsX8_winBehind := goodIn_r _ [16, 3, 17, 18, 11, 19, 20, 21, 22, 23, 24, 25, 9, 10, 12, 33, 34, 35, 36, 37, 38, 39, 40, 41, 42, 43, 44, 45, 46, 47, 48, 49, 50, 51, 52, 53, 54] (by decide +kernel) (by decide +kernel)
set_option maxRecDepth 20000 in
theorem gX8_play_X8_winBehind : GoodIn wsX8_play (wsV RX8 150 RX8 yX8_winBehind wsX8_winBehind) := goodIn_app (goodIn_of _ (by decide +kernel)) ggX8_play_X8_winBehind
set_option maxRecDepth 20000 in
theorem ggX8_play_X8_take : GoodIn wsX8_play wsX8_take := goodIn_r _ [29, 3, 1, 33, 34, 35, 36, 37, 38, 39, 40, 41, 42, 43, 44, 45, 46, 47, 48, 49, 50, 51, 52, 53, 54] (by decide +kernel) (by decide +kernel)
set_option maxRecDepth 20000 in
theorem gX8_play_X8_take : GoodIn wsX8_play (wsV RX8 154 RX8 yX8_take wsX8_take) := goodIn_app (goodIn_of _ (by decide +kernel)) ggX8_play_X8_take
set_option maxRecDepth 20000 in
theorem ggX8_play_X8_mayBe : GoodIn wsX8_play wsX8_mayBe := goodIn_r _ [32] (by decide +kernel) (by decide +kernel)
set_option maxRecDepth 20000 in
theorem gX8_play_X8_mayBe : GoodIn wsX8_play (va_wsS RX8 84 yX8_mayBe wsX8_mayBe) := goodIn_app (goodIn_of _ (by decide +kernel)) ggX8_play_X8_mayBe
theorem dX8_play_0 : decode cX8_play 0 = .ok (.iload_n 1, 1) := by decide +kernel
theorem dX8_play_1 : decode cX8_play 1 = .ok (.iload_n 2, 1) := by decide +kernel
theorem dX8_play_2 : decode cX8_play 2 = .ok (.iload_n 3, 1) := by decide +kernel
theorem dX8_play_3 : decode cX8_play 3 = .ok (.iload 4, 2) := by decide +kernel
theorem dX8_play_5 : decode cX8_play 5 = .ok (.invokestatic 145, 3) := by decide +kernel
theorem dX8_play_8 : decode cX8_play 8 = .ok (.istore 5, 2) := by decide +kernel
theorem dX8_play_10 : decode cX8_play 10 = .ok (.aload_n 0, 1) := by decide +kernel
theorem dX8_play_11 : decode cX8_play 11 = .ok (.getfield 43, 3) := by decide +kernel
theorem dX8_play_14 : decode cX8_play 14 = .ok (.iload 5, 2) := by decide +kernel
theorem dX8_play_16 : decode cX8_play 16 = .ok (.ldc 35, 2) := by decide +kernel
theorem dX8_play_18 : decode cX8_play 18 = .ok (.iastore, 1) := by decide +kernel
theorem dX8_play_19 : decode cX8_play 19 = .ok (.iload_n 1, 1) := by decide +kernel
theorem dX8_play_20 : decode cX8_play 20 = .ok (.ifCond .ne 32, 3) := by decide +kernel
theorem dX8_play_23 : decode cX8_play 23 = .ok (.aload_n 0, 1) := by decide +kernel
theorem dX8_play_24 : decode cX8_play 24 = .ok (.getfield 40, 3) := by decide +kernel
theorem dX8_play_27 : decode cX8_play 27 = .ok (.iload 5, 2) := by decide +kernel
theorem dX8_play_29 : decode cX8_play 29 = .ok (.iload_n 2, 1) := by decide +kernel
theorem dX8_play_30 : decode cX8_play 30 = .ok (.ifCond .le 8, 3) := by decide +kernel
theorem dX8_play_33 : decode cX8_play 33 = .ok (.ldc 132, 2) := by decide +kernel
theorem dX8_play_35 : decode cX8_play 35 = .ok (.goto 13, 3) := by decide +kernel
theorem dX8_play_38 : decode cX8_play 38 = .ok (.iload_n 2, 1) := by decide +kernel
theorem dX8_play_39 : decode cX8_play 39 = .ok (.ifCond .ne 8, 3) := by decide +kernel
theorem dX8_play_42 : decode cX8_play 42 = .ok (.ldc 149, 2) := by decide +kernel
theorem dX8_play_44 : decode cX8_play 44 = .ok (.goto 4, 3) := by decide +kernel
theorem dX8_play_47 : decode cX8_play 47 = .ok (.iconst 0, 1) := by decide +kernel
theorem dX8_play_48 : decode cX8_play 48 = .ok (.iastore, 1) := by decide +kernel
theorem dX8_play_49 : decode cX8_play 49 = .ok (.goto 223, 3) := by decide +kernel
theorem dX8_play_52 : decode cX8_play 52 = .ok (.iload 4, 2) := by decide +kernel
theorem dX8_play_54 : decode cX8_play 54 = .ok (.bipush 24, 2) := by decide +kernel
theorem dX8_play_56 : decode cX8_play 56 = .ok (.if_icmp .eq 7, 3) := by decide +kernel
theorem dX8_play_59 : decode cX8_play 59 = .ok (.iload_n 3, 1) := by decide +kernel
theorem dX8_play_60 : decode cX8_play 60 = .ok (.ifCond .ne 28, 3) := by decide +kernel
theorem dX8_play_63 : decode cX8_play 63 = .ok (.aload_n 0, 1) := by decide +kernel
theorem dX8_play_64 : decode cX8_play 64 = .ok (.getfield 40, 3) := by decide +kernel
theorem dX8_play_67 : decode cX8_play 67 = .ok (.iload 5, 2) := by decide +kernel
theorem dX8_play_69 : decode cX8_play 69 = .ok (.aload_n 0, 1) := by decide +kernel
theorem dX8_play_70 : decode cX8_play 70 = .ok (.getfield 40, 3) := by decide +kernel
theorem dX8_play_73 : decode cX8_play 73 = .ok (.iload_n 1, 1) := by decide +kernel
theorem dX8_play_74 : decode cX8_play 74 = .ok (.iconst 1, 1) := by decide +kernel
theorem dX8_play_75 : decode cX8_play 75 = .ok (.isub, 1) := by decide +kernel
theorem dX8_play_76 : decode cX8_play 76 = .ok (.iload_n 2, 1) := by decide +kernel
theorem dX8_play_77 : decode cX8_play 77 = .ok (.bipush 12, 2) := by decide +kernel
theorem dX8_play_79 : decode cX8_play 79 = .ok (.iconst 0, 1) := by decide +kernel
theorem dX8_play_80 : decode cX8_play 80 = .ok (.invokestatic 145, 3) := by decide +kernel
theorem dX8_play_83 : decode cX8_play 83 = .ok (.iaload, 1) := by decide +kernel
theorem dX8_play_84 : decode cX8_play 84 = .ok (.iastore, 1) := by decide +kernel
theorem dX8_play_85 : decode cX8_play 85 = .ok (.goto 187, 3) := by decide +kernel
theorem dX8_play_88 : decode cX8_play 88 = .ok (.aload_n 0, 1) := by decide +kernel
theorem dX8_play_89 : decode cX8_play 89 = .ok (.getfield 36, 3) := by decide +kernel
theorem dX8_play_92 : decode cX8_play 92 = .ok (.iload_n 1, 1) := by decide +kernel
theorem dX8_play_93 : decode cX8_play 93 = .ok (.iconst 2, 1) := by decide +kernel
theorem dX8_play_94 : decode cX8_play 94 = .ok (.irem, 1) := by decide +kernel
theorem dX8_play_95 : decode cX8_play 95 = .ok (.iaload, 1) := by decide +kernel
theorem dX8_play_96 : decode cX8_play 96 = .ok (.istore 6, 2) := by decide +kernel
theorem dX8_play_98 : decode cX8_play 98 = .ok (.lconst 0, 1) := by decide +kernel
theorem dX8_play_99 : decode cX8_play 99 = .ok (.lstore 7, 2) := by decide +kernel
theorem dX8_play_101 : decode cX8_play 101 = .ok (.iconst 0, 1) := by decide +kernel
theorem dX8_play_102 : decode cX8_play 102 = .ok (.istore 9, 2) := by decide +kernel
theorem dX8_play_104 : decode cX8_play 104 = .ok (.iload 9, 2) := by decide +kernel
theorem dX8_play_106 : decode cX8_play 106 = .ok (.bipush 6, 2) := by decide +kernel
theorem dX8_play_108 : decode cX8_play 108 = .ok (.if_icmp .ge 41, 3) := by decide +kernel
theorem dX8_play_111 : decode cX8_play 111 = .ok (.lload 7, 2) := by decide +kernel
theorem dX8_play_113 : decode cX8_play 113 = .ok (.aload_n 0, 1) := by decide +kernel
theorem dX8_play_114 : decode cX8_play 114 = .ok (.getfield 19, 3) := by decide +kernel
theorem dX8_play_117 : decode cX8_play 117 = .ok (.bipush 7, 2) := by decide +kernel
theorem dX8_play_119 : decode cX8_play 119 = .ok (.iload 6, 2) := by decide +kernel
theorem dX8_play_121 : decode cX8_play 121 = .ok (.imul, 1) := by decide +kernel
theorem dX8_play_122 : decode cX8_play 122 = .ok (.iload 9, 2) := by decide +kernel
theorem dX8_play_124 : decode cX8_play 124 = .ok (.iadd, 1) := by decide +kernel
theorem dX8_play_125 : decode cX8_play 125 = .ok (.iaload, 1) := by decide +kernel
theorem dX8_play_126 : decode cX8_play 126 = .ok (.i2l, 1) := by decide +kernel
theorem dX8_play_127 : decode cX8_play 127 = .ok (.aload_n 0, 1) := by decide +kernel
theorem dX8_play_128 : decode cX8_play 128 = .ok (.iload_n 1, 1) := by decide +kernel
theorem dX8_play_129 : decode cX8_play 129 = .ok (.iload_n 2, 1) := by decide +kernel
theorem dX8_play_130 : decode cX8_play 130 = .ok (.iload_n 3, 1) := by decide +kernel
theorem dX8_play_131 : decode cX8_play 131 = .ok (.iload 4, 2) := by decide +kernel
theorem dX8_play_133 : decode cX8_play 133 = .ok (.iload 9, 2) := by decide +kernel
theorem dX8_play_135 : decode cX8_play 135 = .ok (.invokevirtual 150, 3) := by decide +kernel
theorem dX8_play_138 : decode cX8_play 138 = .ok (.i2l, 1) := by decide +kernel
theorem dX8_play_139 : decode cX8_play 139 = .ok (.lmul, 1) := by decide +kernel
theorem dX8_play_140 : decode cX8_play 140 = .ok (.ladd, 1) := by decide +kernel
theorem dX8_play_141 : decode cX8_play 141 = .ok (.lstore 7, 2) := by decide +kernel
theorem dX8_play_143 : decode cX8_play 143 = .ok (.iinc 9 1, 3) := by decide +kernel
theorem dX8_play_146 : decode cX8_play 146 = .ok (.goto (-42), 3) := by decide +kernel
theorem dX8_play_149 : decode cX8_play 149 = .ok (.aload_n 0, 1) := by decide +kernel
theorem dX8_play_150 : decode cX8_play 150 = .ok (.getfield 40, 3) := by decide +kernel
theorem dX8_play_153 : decode cX8_play 153 = .ok (.iload 5, 2) := by decide +kernel
theorem dX8_play_155 : decode cX8_play 155 = .ok (.lload 7, 2) := by decide +kernel
theorem dX8_play_157 : decode cX8_play 157 = .ok (.ldc2_w 98, 3) := by decide +kernel
theorem dX8_play_160 : decode cX8_play 160 = .ok (.ldiv, 1) := by decide +kernel
theorem dX8_play_161 : decode cX8_play 161 = .ok (.l2i, 1) := by decide +kernel
theorem dX8_play_162 : decode cX8_play 162 = .ok (.iastore, 1) := by decide +kernel
theorem dX8_play_163 : decode cX8_play 163 = .ok (.aload_n 0, 1) := by decide +kernel
theorem dX8_play_164 : decode cX8_play 164 = .ok (.getfield 43, 3) := by decide +kernel
theorem dX8_play_167 : decode cX8_play 167 = .ok (.iload 5, 2) := by decide +kernel
theorem dX8_play_169 : decode cX8_play 169 = .ok (.iconst 0, 1) := by decide +kernel
theorem dX8_play_170 : decode cX8_play 170 = .ok (.iastore, 1) := by decide +kernel
theorem dX8_play_171 : decode cX8_play 171 = .ok (.iload 4, 2) := by decide +kernel
theorem dX8_play_173 : decode cX8_play 173 = .ok (.bipush 7, 2) := by decide +kernel
theorem dX8_play_175 : decode cX8_play 175 = .ok (.iand, 1) := by decide +kernel
theorem dX8_play_176 : decode cX8_play 176 = .ok (.ifCond .eq 22, 3) := by decide +kernel
theorem dX8_play_179 : decode cX8_play 179 = .ok (.aload_n 0, 1) := by decide +kernel
theorem dX8_play_180 : decode cX8_play 180 = .ok (.iload 5, 2) := by decide +kernel
theorem dX8_play_182 : decode cX8_play 182 = .ok (.iload_n 1, 1) := by decide +kernel
theorem dX8_play_183 : decode cX8_play 183 = .ok (.iconst 1, 1) := by decide +kernel
theorem dX8_play_184 : decode cX8_play 184 = .ok (.aload_n 0, 1) := by decide +kernel
theorem dX8_play_185 : decode cX8_play 185 = .ok (.iload_n 1, 1) := by decide +kernel
theorem dX8_play_186 : decode cX8_play 186 = .ok (.iload_n 2, 1) := by decide +kernel
theorem dX8_play_187 : decode cX8_play 187 = .ok (.iload_n 3, 1) := by decide +kernel
theorem dX8_play_188 : decode cX8_play 188 = .ok (.iload 4, 2) := by decide +kernel
theorem dX8_play_190 : decode cX8_play 190 = .ok (.bipush 6, 2) := by decide +kernel
theorem dX8_play_192 : decode cX8_play 192 = .ok (.invokevirtual 150, 3) := by decide +kernel
theorem dX8_play_195 : decode cX8_play 195 = .ok (.invokevirtual 154, 3) := by decide +kernel
theorem dX8_play_198 : decode cX8_play 198 = .ok (.iload 4, 2) := by decide +kernel
theorem dX8_play_200 : decode cX8_play 200 = .ok (.bipush 7, 2) := by decide +kernel
theorem dX8_play_202 : decode cX8_play 202 = .ok (.invokestatic 84, 3) := by decide +kernel
theorem dX8_play_205 : decode cX8_play 205 = .ok (.ifCond .eq 67, 3) := by decide +kernel
theorem dX8_play_208 : decode cX8_play 208 = .ok (.aload_n 0, 1) := by decide +kernel
theorem dX8_play_209 : decode cX8_play 209 = .ok (.getfield 19, 3) := by decide +kernel
theorem dX8_play_212 : decode cX8_play 212 = .ok (.bipush 7, 2) := by decide +kernel
theorem dX8_play_214 : decode cX8_play 214 = .ok (.iload 6, 2) := by decide +kernel
theorem dX8_play_216 : decode cX8_play 216 = .ok (.imul, 1) := by decide +kernel
theorem dX8_play_217 : decode cX8_play 217 = .ok (.bipush 6, 2) := by decide +kernel
theorem dX8_play_219 : decode cX8_play 219 = .ok (.iadd, 1) := by decide +kernel
theorem dX8_play_220 : decode cX8_play 220 = .ok (.iaload, 1) := by decide +kernel
theorem dX8_play_221 : decode cX8_play 221 = .ok (.i2l, 1) := by decide +kernel
theorem dX8_play_222 : decode cX8_play 222 = .ok (.lstore 9, 2) := by decide +kernel
theorem dX8_play_224 : decode cX8_play 224 = .ok (.aload_n 0, 1) := by decide +kernel
theorem dX8_play_225 : decode cX8_play 225 = .ok (.iload 5, 2) := by decide +kernel
theorem dX8_play_227 : decode cX8_play 227 = .ok (.iload_n 1, 1) := by decide +kernel
theorem dX8_play_228 : decode cX8_play 228 = .ok (.iconst 2, 1) := by decide +kernel
theorem dX8_play_229 : decode cX8_play 229 = .ok (.lload 9, 2) := by decide +kernel
theorem dX8_play_231 : decode cX8_play 231 = .ok (.aload_n 0, 1) := by decide +kernel
theorem dX8_play_232 : decode cX8_play 232 = .ok (.iload_n 1, 1) := by decide +kernel
theorem dX8_play_233 : decode cX8_play 233 = .ok (.iload_n 2, 1) := by decide +kernel
theorem dX8_play_234 : decode cX8_play 234 = .ok (.iload_n 3, 1) := by decide +kernel
theorem dX8_play_235 : decode cX8_play 235 = .ok (.iload 4, 2) := by decide +kernel
theorem dX8_play_237 : decode cX8_play 237 = .ok (.bipush 7, 2) := by decide +kernel
theorem dX8_play_239 : decode cX8_play 239 = .ok (.invokevirtual 150, 3) := by decide +kernel
theorem dX8_play_242 : decode cX8_play 242 = .ok (.i2l, 1) := by decide +kernel
theorem dX8_play_243 : decode cX8_play 243 = .ok (.lmul, 1) := by decide +kernel
theorem dX8_play_244 : decode cX8_play 244 = .ok (.ldc2_w 98, 3) := by decide +kernel
theorem dX8_play_247 : decode cX8_play 247 = .ok (.lload 9, 2) := by decide +kernel
theorem dX8_play_249 : decode cX8_play 249 = .ok (.lsub, 1) := by decide +kernel
theorem dX8_play_250 : decode cX8_play 250 = .ok (.aload_n 0, 1) := by decide +kernel
theorem dX8_play_251 : decode cX8_play 251 = .ok (.iload_n 1, 1) := by decide +kernel
theorem dX8_play_252 : decode cX8_play 252 = .ok (.iload_n 2, 1) := by decide +kernel
theorem dX8_play_253 : decode cX8_play 253 = .ok (.iload_n 3, 1) := by decide +kernel
theorem dX8_play_254 : decode cX8_play 254 = .ok (.iload 4, 2) := by decide +kernel
theorem dX8_play_256 : decode cX8_play 256 = .ok (.bipush 8, 2) := by decide +kernel
theorem dX8_play_258 : decode cX8_play 258 = .ok (.invokevirtual 150, 3) := by decide +kernel
theorem dX8_play_261 : decode cX8_play 261 = .ok (.i2l, 1) := by decide +kernel
theorem dX8_play_262 : decode cX8_play 262 = .ok (.lmul, 1) := by decide +kernel
theorem dX8_play_263 : decode cX8_play 263 = .ok (.ladd, 1) := by decide +kernel
theorem dX8_play_264 : decode cX8_play 264 = .ok (.ldc2_w 98, 3) := by decide +kernel
theorem dX8_play_267 : decode cX8_play 267 = .ok (.ldiv, 1) := by decide +kernel
theorem dX8_play_268 : decode cX8_play 268 = .ok (.l2i, 1) := by decide +kernel
theorem dX8_play_269 : decode cX8_play 269 = .ok (.invokevirtual 154, 3) := by decide +kernel
theorem dX8_play_272 : decode cX8_play 272 = .ok (.return_, 1) := by decide +kernel
theorem dX8_take_0 : decode cX8_take 0 = .ok (.iload_n 2, 1) := by decide +kernel
theorem dX8_take_1 : decode cX8_take 1 = .ok (.iconst 2, 1) := by decide +kernel
theorem dX8_take_2 : decode cX8_take 2 = .ok (.irem, 1) := by decide +kernel
theorem dX8_take_3 : decode cX8_take 3 = .ok (.ifCond .ne 17, 3) := by decide +kernel
theorem dX8_take_6 : decode cX8_take 6 = .ok (.iload 4, 2) := by decide +kernel
theorem dX8_take_8 : decode cX8_take 8 = .ok (.aload_n 0, 1) := by decide +kernel
theorem dX8_take_9 : decode cX8_take 9 = .ok (.getfield 40, 3) := by decide +kernel
theorem dX8_take_12 : decode cX8_take 12 = .ok (.iload_n 1, 1) := by decide +kernel
theorem dX8_take_13 : decode cX8_take 13 = .ok (.iaload, 1) := by decide +kernel
theorem dX8_take_14 : decode cX8_take 14 = .ok (.if_icmp .le 32, 3) := by decide +kernel
theorem dX8_take_17 : decode cX8_take 17 = .ok (.goto 14, 3) := by decide +kernel
theorem dX8_take_20 : decode cX8_take 20 = .ok (.iload 4, 2) := by decide +kernel
theorem dX8_take_22 : decode cX8_take 22 = .ok (.aload_n 0, 1) := by decide +kernel
theorem dX8_take_23 : decode cX8_take 23 = .ok (.getfield 40, 3) := by decide +kernel
theorem dX8_take_26 : decode cX8_take 26 = .ok (.iload_n 1, 1) := by decide +kernel
theorem dX8_take_27 : decode cX8_take 27 = .ok (.iaload, 1) := by decide +kernel
theorem dX8_take_28 : decode cX8_take 28 = .ok (.if_icmp .ge 18, 3) := by decide +kernel
theorem dX8_take_31 : decode cX8_take 31 = .ok (.aload_n 0, 1) := by decide +kernel
theorem dX8_take_32 : decode cX8_take 32 = .ok (.getfield 40, 3) := by decide +kernel
theorem dX8_take_35 : decode cX8_take 35 = .ok (.iload_n 1, 1) := by decide +kernel
theorem dX8_take_36 : decode cX8_take 36 = .ok (.iload 4, 2) := by decide +kernel
theorem dX8_take_38 : decode cX8_take 38 = .ok (.iastore, 1) := by decide +kernel
theorem dX8_take_39 : decode cX8_take 39 = .ok (.aload_n 0, 1) := by decide +kernel
theorem dX8_take_40 : decode cX8_take 40 = .ok (.getfield 43, 3) := by decide +kernel
theorem dX8_take_43 : decode cX8_take 43 = .ok (.iload_n 1, 1) := by decide +kernel
theorem dX8_take_44 : decode cX8_take 44 = .ok (.iload_n 3, 1) := by decide +kernel
theorem dX8_take_45 : decode cX8_take 45 = .ok (.iastore, 1) := by decide +kernel
theorem dX8_take_46 : decode cX8_take 46 = .ok (.return_, 1) := by decide +kernel
set_option maxRecDepth 20000 in
theorem ggX8_game_X8_in : GoodIn wsX8_game wsX8_in := goodIn_r _ [17] (by decide +kernel) (by decide +kernel)
set_option maxRecDepth 20000 in
theorem gX8_game_X8_in : GoodIn wsX8_game (va_wsS RX8 62 yX8_in wsX8_in) := goodIn_app (goodIn_of _ (by decide +kernel)) ggX8_game_X8_in
set_option maxRecDepth 20000 in
theorem ggX8_game_X8_play : GoodIn wsX8_game wsX8_play := goodIn_r _ [21, 13, 10, 12, 22, 23, 9, 24, 25, 26, 27, 16, 28, 29, 30, 31, 32, 33, 34, 35, 36, 37, 38, 39, 40, 41, 42, 43, 44, 45, 46, 47, 48, 49, 50, 51, 52, 53, 54, 55, 56, 57, 58, 59, 60, 61, 62, 63, 64, 65, 66, 67, 68, 69, 70] (by decide +kernel) (by decide +kernel)
set_option maxRecDepth 20000 in
theorem gX8_game_X8_play : GoodIn wsX8_game (wsV RX8 164 RX8 yX8_play wsX8_play) := goodIn_app (goodIn_of _ (by decide +kernel)) ggX8_game_X8_play
set_option maxRecDepth 20000 in
theorem ggX8_game_X8_placeOf : GoodIn wsX8_game wsX8_placeOf := goodIn_r _ [28] (by decide +kernel) (by decide +kernel)
set_option maxRecDepth 20000 in
theorem gX8_game_X8_placeOf : GoodIn wsX8_game (va_wsS RX8 145 yX8_placeOf wsX8_placeOf) := goodIn_app (goodIn_of _ (by decide +kernel)) ggX8_game_X8_placeOf
set_option maxRecDepth 20000 in
theorem ggX8_game_X8_winBehind : GoodIn wsX8_game wsX8_winBehind := goodIn_r _ [32, 12, 33, 34, 16, 35, 36, 37, 38, 39, 40, 41, 26, 27, 28, 49, 50, 51, 52, 53, 54, 55, 56, 57, 58, 59, 60, 61, 62, 63, 64, 65, 66, 67, 68, 69, 70] (by decide +kernel) (by decide +kernel)
set_option maxRecDepth 20000 in
theorem gX8_game_X8_winBehind : GoodIn wsX8_game (wsV RX8 150 RX8 yX8_winBehind wsX8_winBehind) := goodIn_app (goodIn_of _ (by decide +kernel)) ggX8_game_X8_winBehind
theorem dX8_game_0 : decode cX8_game 0 = .ok (.aload_n 0, 1) := by decide +kernel
theorem dX8_game_1 : decode cX8_game 1 = .ok (.iconst 0, 1) := by decide +kernel
theorem dX8_game_2 : decode cX8_game 2 = .ok (.putfield 52, 3) := by decide +kernel
theorem dX8_game_5 : decode cX8_game 5 = .ok (.iload_n 1, 1) := by decide +kernel
theorem dX8_game_6 : decode cX8_game 6 = .ok (.i2l, 1) := by decide +kernel
theorem dX8_game_7 : decode cX8_game 7 = .ok (.lconst 0, 1) := by decide +kernel
theorem dX8_game_8 : decode cX8_game 8 = .ok (.ldc2_w 158, 3) := by decide +kernel
theorem dX8_game_11 : decode cX8_game 11 = .ok (.invokestatic 62, 3) := by decide +kernel
theorem dX8_game_14 : decode cX8_game 14 = .ok (.ifCond .eq 55, 3) := by decide +kernel
theorem dX8_game_17 : decode cX8_game 17 = .ok (.iload_n 2, 1) := by decide +kernel
theorem dX8_game_18 : decode cX8_game 18 = .ok (.i2l, 1) := by decide +kernel
theorem dX8_game_19 : decode cX8_game 19 = .ok (.ldc2_w 160, 3) := by decide +kernel
theorem dX8_game_22 : decode cX8_game 22 = .ok (.ldc2_w 114, 3) := by decide +kernel
theorem dX8_game_25 : decode cX8_game 25 = .ok (.invokestatic 62, 3) := by decide +kernel
theorem dX8_game_28 : decode cX8_game 28 = .ok (.ifCond .eq 41, 3) := by decide +kernel
theorem dX8_game_31 : decode cX8_game 31 = .ok (.iload_n 3, 1) := by decide +kernel
theorem dX8_game_32 : decode cX8_game 32 = .ok (.i2l, 1) := by decide +kernel
theorem dX8_game_33 : decode cX8_game 33 = .ok (.lconst 0, 1) := by decide +kernel
theorem dX8_game_34 : decode cX8_game 34 = .ok (.ldc2_w 121, 3) := by decide +kernel
theorem dX8_game_37 : decode cX8_game 37 = .ok (.invokestatic 62, 3) := by decide +kernel
theorem dX8_game_40 : decode cX8_game 40 = .ok (.ifCond .eq 29, 3) := by decide +kernel
theorem dX8_game_43 : decode cX8_game 43 = .ok (.iload 4, 2) := by decide +kernel
theorem dX8_game_45 : decode cX8_game 45 = .ok (.i2l, 1) := by decide +kernel
theorem dX8_game_46 : decode cX8_game 46 = .ok (.lconst 0, 1) := by decide +kernel
theorem dX8_game_47 : decode cX8_game 47 = .ok (.ldc2_w 162, 3) := by decide +kernel
theorem dX8_game_50 : decode cX8_game 50 = .ok (.invokestatic 62, 3) := by decide +kernel
theorem dX8_game_53 : decode cX8_game 53 = .ok (.ifCond .eq 16, 3) := by decide +kernel
theorem dX8_game_56 : decode cX8_game 56 = .ok (.iload 5, 2) := by decide +kernel
theorem dX8_game_58 : decode cX8_game 58 = .ok (.i2l, 1) := by decide +kernel
theorem dX8_game_59 : decode cX8_game 59 = .ok (.lconst 0, 1) := by decide +kernel
theorem dX8_game_60 : decode cX8_game 60 = .ok (.ldc2_w 70, 3) := by decide +kernel
theorem dX8_game_63 : decode cX8_game 63 = .ok (.invokestatic 62, 3) := by decide +kernel
theorem dX8_game_66 : decode cX8_game 66 = .ok (.ifCond .ne 6, 3) := by decide +kernel
theorem dX8_game_69 : decode cX8_game 69 = .ok (.ldc 72, 2) := by decide +kernel
theorem dX8_game_71 : decode cX8_game 71 = .ok (.ireturn, 1) := by decide +kernel
theorem dX8_game_72 : decode cX8_game 72 = .ok (.aload_n 0, 1) := by decide +kernel
theorem dX8_game_73 : decode cX8_game 73 = .ok (.getfield 36, 3) := by decide +kernel
theorem dX8_game_76 : decode cX8_game 76 = .ok (.iconst 0, 1) := by decide +kernel
theorem dX8_game_77 : decode cX8_game 77 = .ok (.iaload, 1) := by decide +kernel
theorem dX8_game_78 : decode cX8_game 78 = .ok (.ldc 35, 2) := by decide +kernel
theorem dX8_game_80 : decode cX8_game 80 = .ok (.if_icmp .eq 14, 3) := by decide +kernel
theorem dX8_game_83 : decode cX8_game 83 = .ok (.aload_n 0, 1) := by decide +kernel
theorem dX8_game_84 : decode cX8_game 84 = .ok (.getfield 36, 3) := by decide +kernel
theorem dX8_game_87 : decode cX8_game 87 = .ok (.iconst 1, 1) := by decide +kernel
theorem dX8_game_88 : decode cX8_game 88 = .ok (.iaload, 1) := by decide +kernel
theorem dX8_game_89 : decode cX8_game 89 = .ok (.ldc 35, 2) := by decide +kernel
theorem dX8_game_91 : decode cX8_game 91 = .ok (.if_icmp .ne 6, 3) := by decide +kernel
theorem dX8_game_94 : decode cX8_game 94 = .ok (.ldc 113, 2) := by decide +kernel
theorem dX8_game_96 : decode cX8_game 96 = .ok (.ireturn, 1) := by decide +kernel
theorem dX8_game_97 : decode cX8_game 97 = .ok (.iconst 0, 1) := by decide +kernel
theorem dX8_game_98 : decode cX8_game 98 = .ok (.istore 6, 2) := by decide +kernel
theorem dX8_game_100 : decode cX8_game 100 = .ok (.iload 6, 2) := by decide +kernel
theorem dX8_game_102 : decode cX8_game 102 = .ok (.iload_n 1, 1) := by decide +kernel
theorem dX8_game_103 : decode cX8_game 103 = .ok (.if_icmp .gt 70, 3) := by decide +kernel
theorem dX8_game_106 : decode cX8_game 106 = .ok (.iconst 0, 1) := by decide +kernel
theorem dX8_game_107 : decode cX8_game 107 = .ok (.istore 7, 2) := by decide +kernel
theorem dX8_game_109 : decode cX8_game 109 = .ok (.iload 7, 2) := by decide +kernel
theorem dX8_game_111 : decode cX8_game 111 = .ok (.bipush 13, 2) := by decide +kernel
theorem dX8_game_113 : decode cX8_game 113 = .ok (.if_icmp .ge 54, 3) := by decide +kernel
theorem dX8_game_116 : decode cX8_game 116 = .ok (.bipush (-9), 2) := by decide +kernel
theorem dX8_game_118 : decode cX8_game 118 = .ok (.istore 8, 2) := by decide +kernel
theorem dX8_game_120 : decode cX8_game 120 = .ok (.iload 8, 2) := by decide +kernel
theorem dX8_game_122 : decode cX8_game 122 = .ok (.bipush 10, 2) := by decide +kernel
theorem dX8_game_124 : decode cX8_game 124 = .ok (.if_icmp .ge 37, 3) := by decide +kernel
theorem dX8_game_127 : decode cX8_game 127 = .ok (.iconst 0, 1) := by decide +kernel
theorem dX8_game_128 : decode cX8_game 128 = .ok (.istore 9, 2) := by decide +kernel
theorem dX8_game_130 : decode cX8_game 130 = .ok (.iload 9, 2) := by decide +kernel
theorem dX8_game_132 : decode cX8_game 132 = .ok (.bipush 25, 2) := by decide +kernel
theorem dX8_game_134 : decode cX8_game 134 = .ok (.if_icmp .ge 21, 3) := by decide +kernel
theorem dX8_game_137 : decode cX8_game 137 = .ok (.aload_n 0, 1) := by decide +kernel
theorem dX8_game_138 : decode cX8_game 138 = .ok (.iload 6, 2) := by decide +kernel
theorem dX8_game_140 : decode cX8_game 140 = .ok (.iload 8, 2) := by decide +kernel
theorem dX8_game_142 : decode cX8_game 142 = .ok (.iload 7, 2) := by decide +kernel
theorem dX8_game_144 : decode cX8_game 144 = .ok (.iload 9, 2) := by decide +kernel
theorem dX8_game_146 : decode cX8_game 146 = .ok (.invokevirtual 164, 3) := by decide +kernel
theorem dX8_game_149 : decode cX8_game 149 = .ok (.iinc 9 1, 3) := by decide +kernel
theorem dX8_game_152 : decode cX8_game 152 = .ok (.goto (-22), 3) := by decide +kernel
theorem dX8_game_155 : decode cX8_game 155 = .ok (.iinc 8 1, 3) := by decide +kernel
theorem dX8_game_158 : decode cX8_game 158 = .ok (.goto (-38), 3) := by decide +kernel
theorem dX8_game_161 : decode cX8_game 161 = .ok (.iinc 7 1, 3) := by decide +kernel
theorem dX8_game_164 : decode cX8_game 164 = .ok (.goto (-55), 3) := by decide +kernel
theorem dX8_game_167 : decode cX8_game 167 = .ok (.iinc 6 1, 3) := by decide +kernel
theorem dX8_game_170 : decode cX8_game 170 = .ok (.goto (-70), 3) := by decide +kernel
theorem dX8_game_173 : decode cX8_game 173 = .ok (.iload_n 1, 1) := by decide +kernel
theorem dX8_game_174 : decode cX8_game 174 = .ok (.iload_n 2, 1) := by decide +kernel
theorem dX8_game_175 : decode cX8_game 175 = .ok (.iload 4, 2) := by decide +kernel
theorem dX8_game_177 : decode cX8_game 177 = .ok (.iload_n 3, 1) := by decide +kernel
theorem dX8_game_178 : decode cX8_game 178 = .ok (.invokestatic 145, 3) := by decide +kernel
theorem dX8_game_181 : decode cX8_game 181 = .ok (.istore 6, 2) := by decide +kernel
theorem dX8_game_183 : decode cX8_game 183 = .ok (.iload 5, 2) := by decide +kernel
theorem dX8_game_185 : decode cX8_game 185 = .ok (.iconst 2, 1) := by decide +kernel
theorem dX8_game_186 : decode cX8_game 186 = .ok (.if_icmp .ge 26, 3) := by decide +kernel
theorem dX8_game_189 : decode cX8_game 189 = .ok (.iload 5, 2) := by decide +kernel
theorem dX8_game_191 : decode cX8_game 191 = .ok (.ifCond .ne 13, 3) := by decide +kernel
theorem dX8_game_194 : decode cX8_game 194 = .ok (.aload_n 0, 1) := by decide +kernel
theorem dX8_game_195 : decode cX8_game 195 = .ok (.getfield 40, 3) := by decide +kernel
theorem dX8_game_198 : decode cX8_game 198 = .ok (.iload 6, 2) := by decide +kernel
theorem dX8_game_200 : decode cX8_game 200 = .ok (.iaload, 1) := by decide +kernel
theorem dX8_game_201 : decode cX8_game 201 = .ok (.goto 10, 3) := by decide +kernel
theorem dX8_game_204 : decode cX8_game 204 = .ok (.aload_n 0, 1) := by decide +kernel
theorem dX8_game_205 : decode cX8_game 205 = .ok (.getfield 43, 3) := by decide +kernel
theorem dX8_game_208 : decode cX8_game 208 = .ok (.iload 6, 2) := by decide +kernel
theorem dX8_game_210 : decode cX8_game 210 = .ok (.iaload, 1) := by decide +kernel
theorem dX8_game_211 : decode cX8_game 211 = .ok (.ireturn, 1) := by decide +kernel
theorem dX8_game_212 : decode cX8_game 212 = .ok (.aload_n 0, 1) := by decide +kernel
theorem dX8_game_213 : decode cX8_game 213 = .ok (.getfield 43, 3) := by decide +kernel
theorem dX8_game_216 : decode cX8_game 216 = .ok (.iload 6, 2) := by decide +kernel
theorem dX8_game_218 : decode cX8_game 218 = .ok (.iaload, 1) := by decide +kernel
theorem dX8_game_219 : decode cX8_game 219 = .ok (.ldc 35, 2) := by decide +kernel
theorem dX8_game_221 : decode cX8_game 221 = .ok (.if_icmp .ne 5, 3) := by decide +kernel
theorem dX8_game_224 : decode cX8_game 224 = .ok (.iconst 0, 1) := by decide +kernel
theorem dX8_game_225 : decode cX8_game 225 = .ok (.ireturn, 1) := by decide +kernel
theorem dX8_game_226 : decode cX8_game 226 = .ok (.aload_n 0, 1) := by decide +kernel
theorem dX8_game_227 : decode cX8_game 227 = .ok (.iload_n 1, 1) := by decide +kernel
theorem dX8_game_228 : decode cX8_game 228 = .ok (.iload_n 2, 1) := by decide +kernel
theorem dX8_game_229 : decode cX8_game 229 = .ok (.iload 4, 2) := by decide +kernel
theorem dX8_game_231 : decode cX8_game 231 = .ok (.iload_n 3, 1) := by decide +kernel
theorem dX8_game_232 : decode cX8_game 232 = .ok (.iconst 1, 1) := by decide +kernel
theorem dX8_game_233 : decode cX8_game 233 = .ok (.invokevirtual 150, 3) := by decide +kernel
theorem dX8_game_236 : decode cX8_game 236 = .ok (.istore 7, 2) := by decide +kernel
theorem dX8_game_238 : decode cX8_game 238 = .ok (.iload_n 1, 1) := by decide +kernel
theorem dX8_game_239 : decode cX8_game 239 = .ok (.iconst 2, 1) := by decide +kernel
theorem dX8_game_240 : decode cX8_game 240 = .ok (.irem, 1) := by decide +kernel
theorem dX8_game_241 : decode cX8_game 241 = .ok (.ifCond .ne 23, 3) := by decide +kernel
theorem dX8_game_244 : decode cX8_game 244 = .ok (.iload 7, 2) := by decide +kernel
theorem dX8_game_246 : decode cX8_game 246 = .ok (.aload_n 0, 1) := by decide +kernel
theorem dX8_game_247 : decode cX8_game 247 = .ok (.getfield 40, 3) := by decide +kernel
theorem dX8_game_250 : decode cX8_game 250 = .ok (.iload 6, 2) := by decide +kernel
theorem dX8_game_252 : decode cX8_game 252 = .ok (.iaload, 1) := by decide +kernel
theorem dX8_game_253 : decode cX8_game 253 = .ok (.if_icmp .ge 7, 3) := by decide +kernel
theorem dX8_game_256 : decode cX8_game 256 = .ok (.iconst 1, 1) := by decide +kernel
theorem dX8_game_257 : decode cX8_game 257 = .ok (.goto 24, 3) := by decide +kernel
theorem dX8_game_260 : decode cX8_game 260 = .ok (.iconst 0, 1) := by decide +kernel
theorem dX8_game_261 : decode cX8_game 261 = .ok (.goto 20, 3) := by decide +kernel
theorem dX8_game_264 : decode cX8_game 264 = .ok (.iload 7, 2) := by decide +kernel
theorem dX8_game_266 : decode cX8_game 266 = .ok (.aload_n 0, 1) := by decide +kernel
theorem dX8_game_267 : decode cX8_game 267 = .ok (.getfield 40, 3) := by decide +kernel
theorem dX8_game_270 : decode cX8_game 270 = .ok (.iload 6, 2) := by decide +kernel
theorem dX8_game_272 : decode cX8_game 272 = .ok (.iaload, 1) := by decide +kernel
theorem dX8_game_273 : decode cX8_game 273 = .ok (.if_icmp .le 7, 3) := by decide +kernel
theorem dX8_game_276 : decode cX8_game 276 = .ok (.iconst 1, 1) := by decide +kernel
theorem dX8_game_277 : decode cX8_game 277 = .ok (.goto 4, 3) := by decide +kernel
theorem dX8_game_280 : decode cX8_game 280 = .ok (.iconst 0, 1) := by decide +kernel
theorem dX8_game_281 : decode cX8_game 281 = .ok (.ireturn, 1) := by decide +kernel
set_option maxRecDepth 20000 in
theorem ggX8_readLog_X8_found : GoodIn wsX8_readLog wsX8_found := goodIn_r _ [16, 3, 17, 33, 34, 35, 36, 37, 38, 39, 40, 41, 42, 43, 44, 45, 46, 47, 48, 49, 50, 51, 52, 53, 54] (by decide +kernel) (by decide +kernel)
set_option maxRecDepth 20000 in
theorem gX8_readLog_X8_found : GoodIn wsX8_readLog (wsV RX8 73 RX8 yX8_found wsX8_found) := goodIn_app (goodIn_of _ (by decide +kernel)) ggX8_readLog_X8_found
set_option maxRecDepth 20000 in
theorem ggX8_readLog_X8_in : GoodIn wsX8_readLog wsX8_in := goodIn_r _ [20] (by decide +kernel) (by decide +kernel)
set_option maxRecDepth 20000 in
theorem gX8_readLog_X8_in : GoodIn wsX8_readLog (va_wsS RX8 62 yX8_in wsX8_in) := goodIn_app (goodIn_of _ (by decide +kernel)) ggX8_readLog_X8_in
set_option maxRecDepth 20000 in
theorem ggX8_readLog_X8_mayBe : GoodIn wsX8_readLog wsX8_mayBe := goodIn_r _ [23] (by decide +kernel) (by decide +kernel)
set_option maxRecDepth 20000 in
theorem gX8_readLog_X8_mayBe : GoodIn wsX8_readLog (va_wsS RX8 84 yX8_mayBe wsX8_mayBe) := goodIn_app (goodIn_of _ (by decide +kernel)) ggX8_readLog_X8_mayBe
set_option maxRecDepth 20000 in
theorem ggX8_readLog_X8_next : GoodIn wsX8_readLog wsX8_next := goodIn_r _ [26] (by decide +kernel) (by decide +kernel)
set_option maxRecDepth 20000 in
theorem gX8_readLog_X8_next : GoodIn wsX8_readLog (va_wsS RX8 88 yX8_next wsX8_next) := goodIn_app (goodIn_of _ (by decide +kernel)) ggX8_readLog_X8_next
set_option maxRecDepth 20000 in
theorem ggX8_readLog_X8_runs : GoodIn wsX8_readLog wsX8_runs := goodIn_r _ [29, 30, 31, 15, 32] (by decide +kernel) (by decide +kernel)
set_option maxRecDepth 20000 in
theorem gX8_readLog_X8_runs : GoodIn wsX8_readLog (va_wsS RX8 92 yX8_runs wsX8_runs) := goodIn_app (goodIn_of _ (by decide +kernel)) ggX8_readLog_X8_runs
theorem dX8_readLog_0 : decode cX8_readLog 0 = .ok (.aload_n 0, 1) := by decide +kernel
theorem dX8_readLog_1 : decode cX8_readLog 1 = .ok (.getfield 7, 3) := by decide +kernel
theorem dX8_readLog_4 : decode cX8_readLog 4 = .ok (.iload_n 1, 1) := by decide +kernel
theorem dX8_readLog_5 : decode cX8_readLog 5 = .ok (.iaload, 1) := by decide +kernel
theorem dX8_readLog_6 : decode cX8_readLog 6 = .ok (.ifCond .ge 9, 3) := by decide +kernel
theorem dX8_readLog_9 : decode cX8_readLog 9 = .ok (.aload_n 0, 1) := by decide +kernel
theorem dX8_readLog_10 : decode cX8_readLog 10 = .ok (.iconst 1, 1) := by decide +kernel
theorem dX8_readLog_11 : decode cX8_readLog 11 = .ok (.invokevirtual 73, 3) := by decide +kernel
theorem dX8_readLog_14 : decode cX8_readLog 14 = .ok (.ireturn, 1) := by decide +kernel
theorem dX8_readLog_15 : decode cX8_readLog 15 = .ok (.iload_n 2, 1) := by decide +kernel
theorem dX8_readLog_16 : decode cX8_readLog 16 = .ok (.ifCond .lt 21, 3) := by decide +kernel
theorem dX8_readLog_19 : decode cX8_readLog 19 = .ok (.iload_n 2, 1) := by decide +kernel
theorem dX8_readLog_20 : decode cX8_readLog 20 = .ok (.i2l, 1) := by decide +kernel
theorem dX8_readLog_21 : decode cX8_readLog 21 = .ok (.iconst 3, 1) := by decide +kernel
theorem dX8_readLog_22 : decode cX8_readLog 22 = .ok (.iload_n 3, 1) := by decide +kernel
theorem dX8_readLog_23 : decode cX8_readLog 23 = .ok (.imul, 1) := by decide +kernel
theorem dX8_readLog_24 : decode cX8_readLog 24 = .ok (.i2l, 1) := by decide +kernel
theorem dX8_readLog_25 : decode cX8_readLog 25 = .ok (.ladd, 1) := by decide +kernel
theorem dX8_readLog_26 : decode cX8_readLog 26 = .ok (.aload_n 0, 1) := by decide +kernel
theorem dX8_readLog_27 : decode cX8_readLog 27 = .ok (.getfield 13, 3) := by decide +kernel
theorem dX8_readLog_30 : decode cX8_readLog 30 = .ok (.iload_n 1, 1) := by decide +kernel
theorem dX8_readLog_31 : decode cX8_readLog 31 = .ok (.iaload, 1) := by decide +kernel
theorem dX8_readLog_32 : decode cX8_readLog 32 = .ok (.i2l, 1) := by decide +kernel
theorem dX8_readLog_33 : decode cX8_readLog 33 = .ok (.lcmp, 1) := by decide +kernel
theorem dX8_readLog_34 : decode cX8_readLog 34 = .ok (.ifCond .le 9, 3) := by decide +kernel
theorem dX8_readLog_37 : decode cX8_readLog 37 = .ok (.aload_n 0, 1) := by decide +kernel
theorem dX8_readLog_38 : decode cX8_readLog 38 = .ok (.iconst 2, 1) := by decide +kernel
theorem dX8_readLog_39 : decode cX8_readLog 39 = .ok (.invokevirtual 73, 3) := by decide +kernel
theorem dX8_readLog_42 : decode cX8_readLog 42 = .ok (.ireturn, 1) := by decide +kernel
theorem dX8_readLog_43 : decode cX8_readLog 43 = .ok (.aload_n 0, 1) := by decide +kernel
theorem dX8_readLog_44 : decode cX8_readLog 44 = .ok (.iconst 0, 1) := by decide +kernel
theorem dX8_readLog_45 : decode cX8_readLog 45 = .ok (.putfield 56, 3) := by decide +kernel
theorem dX8_readLog_48 : decode cX8_readLog 48 = .ok (.aload_n 0, 1) := by decide +kernel
theorem dX8_readLog_49 : decode cX8_readLog 49 = .ok (.ldc 35, 2) := by decide +kernel
theorem dX8_readLog_51 : decode cX8_readLog 51 = .ok (.putfield 167, 3) := by decide +kernel
theorem dX8_readLog_54 : decode cX8_readLog 54 = .ok (.aload_n 0, 1) := by decide +kernel
theorem dX8_readLog_55 : decode cX8_readLog 55 = .ok (.iconst 0, 1) := by decide +kernel
theorem dX8_readLog_56 : decode cX8_readLog 56 = .ok (.putfield 170, 3) := by decide +kernel
theorem dX8_readLog_59 : decode cX8_readLog 59 = .ok (.aload_n 0, 1) := by decide +kernel
theorem dX8_readLog_60 : decode cX8_readLog 60 = .ok (.iconst 0, 1) := by decide +kernel
theorem dX8_readLog_61 : decode cX8_readLog 61 = .ok (.putfield 173, 3) := by decide +kernel
theorem dX8_readLog_64 : decode cX8_readLog 64 = .ok (.aload_n 0, 1) := by decide +kernel
theorem dX8_readLog_65 : decode cX8_readLog 65 = .ok (.iconst 0, 1) := by decide +kernel
theorem dX8_readLog_66 : decode cX8_readLog 66 = .ok (.putfield 176, 3) := by decide +kernel
theorem dX8_readLog_69 : decode cX8_readLog 69 = .ok (.iconst 0, 1) := by decide +kernel
theorem dX8_readLog_70 : decode cX8_readLog 70 = .ok (.istore 4, 2) := by decide +kernel
theorem dX8_readLog_72 : decode cX8_readLog 72 = .ok (.iload 4, 2) := by decide +kernel
theorem dX8_readLog_74 : decode cX8_readLog 74 = .ok (.bipush 9, 2) := by decide +kernel
theorem dX8_readLog_76 : decode cX8_readLog 76 = .ok (.if_icmp .ge 17, 3) := by decide +kernel
theorem dX8_readLog_79 : decode cX8_readLog 79 = .ok (.aload_n 0, 1) := by decide +kernel
theorem dX8_readLog_80 : decode cX8_readLog 80 = .ok (.getfield 46, 3) := by decide +kernel
theorem dX8_readLog_83 : decode cX8_readLog 83 = .ok (.iload 4, 2) := by decide +kernel
theorem dX8_readLog_85 : decode cX8_readLog 85 = .ok (.iconst 0, 1) := by decide +kernel
theorem dX8_readLog_86 : decode cX8_readLog 86 = .ok (.iastore, 1) := by decide +kernel
theorem dX8_readLog_87 : decode cX8_readLog 87 = .ok (.iinc 4 1, 3) := by decide +kernel
theorem dX8_readLog_90 : decode cX8_readLog 90 = .ok (.goto (-18), 3) := by decide +kernel
theorem dX8_readLog_93 : decode cX8_readLog 93 = .ok (.iconst 0, 1) := by decide +kernel
theorem dX8_readLog_94 : decode cX8_readLog 94 = .ok (.istore 4, 2) := by decide +kernel
theorem dX8_readLog_96 : decode cX8_readLog 96 = .ok (.iload 4, 2) := by decide +kernel
theorem dX8_readLog_98 : decode cX8_readLog 98 = .ok (.iload_n 3, 1) := by decide +kernel
theorem dX8_readLog_99 : decode cX8_readLog 99 = .ok (.if_icmp .ge 202, 3) := by decide +kernel
theorem dX8_readLog_102 : decode cX8_readLog 102 = .ok (.aload_n 0, 1) := by decide +kernel
theorem dX8_readLog_103 : decode cX8_readLog 103 = .ok (.getfield 167, 3) := by decide +kernel
theorem dX8_readLog_106 : decode cX8_readLog 106 = .ok (.ldc 35, 2) := by decide +kernel
theorem dX8_readLog_108 : decode cX8_readLog 108 = .ok (.if_icmp .ne 193, 3) := by decide +kernel
theorem dX8_readLog_111 : decode cX8_readLog 111 = .ok (.bipush 60, 2) := by decide +kernel
theorem dX8_readLog_113 : decode cX8_readLog 113 = .ok (.iload_n 1, 1) := by decide +kernel
theorem dX8_readLog_114 : decode cX8_readLog 114 = .ok (.imul, 1) := by decide +kernel
theorem dX8_readLog_115 : decode cX8_readLog 115 = .ok (.iload_n 2, 1) := by decide +kernel
theorem dX8_readLog_116 : decode cX8_readLog 116 = .ok (.iadd, 1) := by decide +kernel
theorem dX8_readLog_117 : decode cX8_readLog 117 = .ok (.iconst 3, 1) := by decide +kernel
theorem dX8_readLog_118 : decode cX8_readLog 118 = .ok (.iload 4, 2) := by decide +kernel
theorem dX8_readLog_120 : decode cX8_readLog 120 = .ok (.imul, 1) := by decide +kernel
theorem dX8_readLog_121 : decode cX8_readLog 121 = .ok (.iadd, 1) := by decide +kernel
theorem dX8_readLog_122 : decode cX8_readLog 122 = .ok (.istore 5, 2) := by decide +kernel
theorem dX8_readLog_124 : decode cX8_readLog 124 = .ok (.aload_n 0, 1) := by decide +kernel
theorem dX8_readLog_125 : decode cX8_readLog 125 = .ok (.getfield 16, 3) := by decide +kernel
theorem dX8_readLog_128 : decode cX8_readLog 128 = .ok (.iload 5, 2) := by decide +kernel
theorem dX8_readLog_130 : decode cX8_readLog 130 = .ok (.iaload, 1) := by decide +kernel
theorem dX8_readLog_131 : decode cX8_readLog 131 = .ok (.istore 6, 2) := by decide +kernel
theorem dX8_readLog_133 : decode cX8_readLog 133 = .ok (.aload_n 0, 1) := by decide +kernel
theorem dX8_readLog_134 : decode cX8_readLog 134 = .ok (.getfield 176, 3) := by decide +kernel
theorem dX8_readLog_137 : decode cX8_readLog 137 = .ok (.bipush 24, 2) := by decide +kernel
theorem dX8_readLog_139 : decode cX8_readLog 139 = .ok (.if_icmp .ne 7, 3) := by decide +kernel
theorem dX8_readLog_142 : decode cX8_readLog 142 = .ok (.iconst 0, 1) := by decide +kernel
theorem dX8_readLog_143 : decode cX8_readLog 143 = .ok (.goto 7, 3) := by decide +kernel
theorem dX8_readLog_146 : decode cX8_readLog 146 = .ok (.aload_n 0, 1) := by decide +kernel
theorem dX8_readLog_147 : decode cX8_readLog 147 = .ok (.getfield 176, 3) := by decide +kernel
theorem dX8_readLog_150 : decode cX8_readLog 150 = .ok (.istore 7, 2) := by decide +kernel
theorem dX8_readLog_152 : decode cX8_readLog 152 = .ok (.iload 6, 2) := by decide +kernel
theorem dX8_readLog_154 : decode cX8_readLog 154 = .ok (.i2l, 1) := by decide +kernel
theorem dX8_readLog_155 : decode cX8_readLog 155 = .ok (.lconst 0, 1) := by decide +kernel
theorem dX8_readLog_156 : decode cX8_readLog 156 = .ok (.ldc2_w 82, 3) := by decide +kernel
theorem dX8_readLog_159 : decode cX8_readLog 159 = .ok (.invokestatic 62, 3) := by decide +kernel
theorem dX8_readLog_162 : decode cX8_readLog 162 = .ok (.ifCond .eq 55, 3) := by decide +kernel
theorem dX8_readLog_165 : decode cX8_readLog 165 = .ok (.iload 7, 2) := by decide +kernel
theorem dX8_readLog_167 : decode cX8_readLog 167 = .ok (.iload 6, 2) := by decide +kernel
theorem dX8_readLog_169 : decode cX8_readLog 169 = .ok (.invokestatic 84, 3) := by decide +kernel
theorem dX8_readLog_172 : decode cX8_readLog 172 = .ok (.ifCond .eq 45, 3) := by decide +kernel
theorem dX8_readLog_175 : decode cX8_readLog 175 = .ok (.iload 7, 2) := by decide +kernel
theorem dX8_readLog_177 : decode cX8_readLog 177 = .ok (.iload 6, 2) := by decide +kernel
theorem dX8_readLog_179 : decode cX8_readLog 179 = .ok (.invokestatic 88, 3) := by decide +kernel
theorem dX8_readLog_182 : decode cX8_readLog 182 = .ok (.aload_n 0, 1) := by decide +kernel
theorem dX8_readLog_183 : decode cX8_readLog 183 = .ok (.getfield 16, 3) := by decide +kernel
theorem dX8_readLog_186 : decode cX8_readLog 186 = .ok (.iload 5, 2) := by decide +kernel
theorem dX8_readLog_188 : decode cX8_readLog 188 = .ok (.iconst 1, 1) := by decide +kernel
theorem dX8_readLog_189 : decode cX8_readLog 189 = .ok (.iadd, 1) := by decide +kernel
theorem dX8_readLog_190 : decode cX8_readLog 190 = .ok (.iaload, 1) := by decide +kernel
theorem dX8_readLog_191 : decode cX8_readLog 191 = .ok (.if_icmp .ne 26, 3) := by decide +kernel
theorem dX8_readLog_194 : decode cX8_readLog 194 = .ok (.iload 7, 2) := by decide +kernel
theorem dX8_readLog_196 : decode cX8_readLog 196 = .ok (.iload 6, 2) := by decide +kernel
theorem dX8_readLog_198 : decode cX8_readLog 198 = .ok (.invokestatic 92, 3) := by decide +kernel
theorem dX8_readLog_201 : decode cX8_readLog 201 = .ok (.aload_n 0, 1) := by decide +kernel
theorem dX8_readLog_202 : decode cX8_readLog 202 = .ok (.getfield 16, 3) := by decide +kernel
theorem dX8_readLog_205 : decode cX8_readLog 205 = .ok (.iload 5, 2) := by decide +kernel
theorem dX8_readLog_207 : decode cX8_readLog 207 = .ok (.iconst 2, 1) := by decide +kernel
theorem dX8_readLog_208 : decode cX8_readLog 208 = .ok (.iadd, 1) := by decide +kernel
theorem dX8_readLog_209 : decode cX8_readLog 209 = .ok (.iaload, 1) := by decide +kernel
theorem dX8_readLog_210 : decode cX8_readLog 210 = .ok (.if_icmp .ne 7, 3) := by decide +kernel
theorem dX8_readLog_213 : decode cX8_readLog 213 = .ok (.iconst 1, 1) := by decide +kernel
theorem dX8_readLog_214 : decode cX8_readLog 214 = .ok (.goto 4, 3) := by decide +kernel
theorem dX8_readLog_217 : decode cX8_readLog 217 = .ok (.iconst 0, 1) := by decide +kernel
theorem dX8_readLog_218 : decode cX8_readLog 218 = .ok (.istore 8, 2) := by decide +kernel
theorem dX8_readLog_220 : decode cX8_readLog 220 = .ok (.iload 8, 2) := by decide +kernel
theorem dX8_readLog_222 : decode cX8_readLog 222 = .ok (.ifCond .eq 67, 3) := by decide +kernel
theorem dX8_readLog_225 : decode cX8_readLog 225 = .ok (.aload_n 0, 1) := by decide +kernel
theorem dX8_readLog_226 : decode cX8_readLog 226 = .ok (.getfield 46, 3) := by decide +kernel
theorem dX8_readLog_229 : decode cX8_readLog 229 = .ok (.iload 6, 2) := by decide +kernel
theorem dX8_readLog_231 : decode cX8_readLog 231 = .ok (.dup2, 1) := by decide +kernel
theorem dX8_readLog_232 : decode cX8_readLog 232 = .ok (.iaload, 1) := by decide +kernel
theorem dX8_readLog_233 : decode cX8_readLog 233 = .ok (.iconst 1, 1) := by decide +kernel
theorem dX8_readLog_234 : decode cX8_readLog 234 = .ok (.iadd, 1) := by decide +kernel
theorem dX8_readLog_235 : decode cX8_readLog 235 = .ok (.iastore, 1) := by decide +kernel
theorem dX8_readLog_236 : decode cX8_readLog 236 = .ok (.aload_n 0, 1) := by decide +kernel
theorem dX8_readLog_237 : decode cX8_readLog 237 = .ok (.dup, 1) := by decide +kernel
theorem dX8_readLog_238 : decode cX8_readLog 238 = .ok (.getfield 170, 3) := by decide +kernel
theorem dX8_readLog_241 : decode cX8_readLog 241 = .ok (.iload 7, 2) := by decide +kernel
theorem dX8_readLog_243 : decode cX8_readLog 243 = .ok (.iload 6, 2) := by decide +kernel
theorem dX8_readLog_245 : decode cX8_readLog 245 = .ok (.invokestatic 92, 3) := by decide +kernel
theorem dX8_readLog_248 : decode cX8_readLog 248 = .ok (.iadd, 1) := by decide +kernel
theorem dX8_readLog_249 : decode cX8_readLog 249 = .ok (.putfield 170, 3) := by decide +kernel
theorem dX8_readLog_252 : decode cX8_readLog 252 = .ok (.aload_n 0, 1) := by decide +kernel
theorem dX8_readLog_253 : decode cX8_readLog 253 = .ok (.iload 7, 2) := by decide +kernel
theorem dX8_readLog_255 : decode cX8_readLog 255 = .ok (.iload 6, 2) := by decide +kernel
theorem dX8_readLog_257 : decode cX8_readLog 257 = .ok (.invokestatic 88, 3) := by decide +kernel
theorem dX8_readLog_260 : decode cX8_readLog 260 = .ok (.putfield 176, 3) := by decide +kernel
theorem dX8_readLog_263 : decode cX8_readLog 263 = .ok (.aload_n 0, 1) := by decide +kernel
theorem dX8_readLog_264 : decode cX8_readLog 264 = .ok (.dup, 1) := by decide +kernel
theorem dX8_readLog_265 : decode cX8_readLog 265 = .ok (.getfield 173, 3) := by decide +kernel
theorem dX8_readLog_268 : decode cX8_readLog 268 = .ok (.aload_n 0, 1) := by decide +kernel
theorem dX8_readLog_269 : decode cX8_readLog 269 = .ok (.getfield 176, 3) := by decide +kernel
theorem dX8_readLog_272 : decode cX8_readLog 272 = .ok (.bipush 24, 2) := by decide +kernel
theorem dX8_readLog_274 : decode cX8_readLog 274 = .ok (.if_icmp .ne 7, 3) := by decide +kernel
theorem dX8_readLog_277 : decode cX8_readLog 277 = .ok (.iconst 1, 1) := by decide +kernel
theorem dX8_readLog_278 : decode cX8_readLog 278 = .ok (.goto 4, 3) := by decide +kernel
theorem dX8_readLog_281 : decode cX8_readLog 281 = .ok (.iconst 0, 1) := by decide +kernel
theorem dX8_readLog_282 : decode cX8_readLog 282 = .ok (.iadd, 1) := by decide +kernel
theorem dX8_readLog_283 : decode cX8_readLog 283 = .ok (.putfield 173, 3) := by decide +kernel
theorem dX8_readLog_286 : decode cX8_readLog 286 = .ok (.goto 9, 3) := by decide +kernel
theorem dX8_readLog_289 : decode cX8_readLog 289 = .ok (.aload_n 0, 1) := by decide +kernel
theorem dX8_readLog_290 : decode cX8_readLog 290 = .ok (.iload 4, 2) := by decide +kernel
theorem dX8_readLog_292 : decode cX8_readLog 292 = .ok (.putfield 167, 3) := by decide +kernel
theorem dX8_readLog_295 : decode cX8_readLog 295 = .ok (.iinc 4 1, 3) := by decide +kernel
theorem dX8_readLog_298 : decode cX8_readLog 298 = .ok (.goto (-202), 3) := by decide +kernel
theorem dX8_readLog_301 : decode cX8_readLog 301 = .ok (.iconst 0, 1) := by decide +kernel
theorem dX8_readLog_302 : decode cX8_readLog 302 = .ok (.ireturn, 1) := by decide +kernel
set_option maxRecDepth 20000 in
theorem ggX8_log_X8_isSheet : GoodIn wsX8_log wsX8_isSheet := goodIn_r _ [15, 16, 17, 18, 14, 19] (by decide +kernel) (by decide +kernel)
set_option maxRecDepth 20000 in
theorem gX8_log_X8_isSheet : GoodIn wsX8_log (va_wsS RX8 66 yX8_isSheet wsX8_isSheet) := goodIn_app (goodIn_of _ (by decide +kernel)) ggX8_log_X8_isSheet
set_option maxRecDepth 20000 in
theorem ggX8_log_X8_in : GoodIn wsX8_log wsX8_in := goodIn_r _ [19] (by decide +kernel) (by decide +kernel)
set_option maxRecDepth 20000 in
theorem gX8_log_X8_in : GoodIn wsX8_log (va_wsS RX8 62 yX8_in wsX8_in) := goodIn_app (goodIn_of _ (by decide +kernel)) ggX8_log_X8_in
set_option maxRecDepth 20000 in
theorem ggX8_log_X8_readLog : GoodIn wsX8_log wsX8_readLog := goodIn_r _ [23, 24, 25, 26, 27, 7, 8, 9, 10, 11, 28, 29, 30, 31, 32, 14, 33, 34, 17, 18, 19, 35, 36, 37, 38, 39, 40, 41, 42, 43, 44, 45, 46, 47, 48, 49, 50, 51, 52, 53, 54, 55, 56, 57, 58, 59, 60, 61, 62, 63, 64, 65, 66, 67, 68] (by decide +kernel) (by decide +kernel)
set_option maxRecDepth 20000 in
theorem gX8_log_X8_readLog : GoodIn wsX8_log (wsV RX8 187 RX8 yX8_readLog wsX8_readLog) := goodIn_app (goodIn_of _ (by decide +kernel)) ggX8_log_X8_readLog
theorem dX8_log_0 : decode cX8_log 0 = .ok (.aload_n 0, 1) := by decide +kernel
theorem dX8_log_1 : decode cX8_log 1 = .ok (.iconst 0, 1) := by decide +kernel
theorem dX8_log_2 : decode cX8_log 2 = .ok (.putfield 52, 3) := by decide +kernel
theorem dX8_log_5 : decode cX8_log 5 = .ok (.iload_n 1, 1) := by decide +kernel
theorem dX8_log_6 : decode cX8_log 6 = .ok (.invokestatic 66, 3) := by decide +kernel
theorem dX8_log_9 : decode cX8_log 9 = .ok (.ifCond .eq 43, 3) := by decide +kernel
theorem dX8_log_12 : decode cX8_log 12 = .ok (.iload_n 3, 1) := by decide +kernel
theorem dX8_log_13 : decode cX8_log 13 = .ok (.i2l, 1) := by decide +kernel
theorem dX8_log_14 : decode cX8_log 14 = .ok (.lconst 1, 1) := by decide +kernel
theorem dX8_log_15 : decode cX8_log 15 = .ok (.ldc2_w 179, 3) := by decide +kernel
theorem dX8_log_18 : decode cX8_log 18 = .ok (.invokestatic 62, 3) := by decide +kernel
theorem dX8_log_21 : decode cX8_log 21 = .ok (.ifCond .eq 31, 3) := by decide +kernel
theorem dX8_log_24 : decode cX8_log 24 = .ok (.iload 4, 2) := by decide +kernel
theorem dX8_log_26 : decode cX8_log 26 = .ok (.i2l, 1) := by decide +kernel
theorem dX8_log_27 : decode cX8_log 27 = .ok (.lconst 0, 1) := by decide +kernel
theorem dX8_log_28 : decode cX8_log 28 = .ok (.ldc2_w 181, 3) := by decide +kernel
theorem dX8_log_31 : decode cX8_log 31 = .ok (.invokestatic 62, 3) := by decide +kernel
theorem dX8_log_34 : decode cX8_log 34 = .ok (.ifCond .ne 21, 3) := by decide +kernel
theorem dX8_log_37 : decode cX8_log 37 = .ok (.iload 4, 2) := by decide +kernel
theorem dX8_log_39 : decode cX8_log 39 = .ok (.i2l, 1) := by decide +kernel
theorem dX8_log_40 : decode cX8_log 40 = .ok (.ldc2_w 183, 3) := by decide +kernel
theorem dX8_log_43 : decode cX8_log 43 = .ok (.ldc2_w 185, 3) := by decide +kernel
theorem dX8_log_46 : decode cX8_log 46 = .ok (.invokestatic 62, 3) := by decide +kernel
theorem dX8_log_49 : decode cX8_log 49 = .ok (.ifCond .ne 6, 3) := by decide +kernel
theorem dX8_log_52 : decode cX8_log 52 = .ok (.ldc 72, 2) := by decide +kernel
theorem dX8_log_54 : decode cX8_log 54 = .ok (.ireturn, 1) := by decide +kernel
theorem dX8_log_55 : decode cX8_log 55 = .ok (.aload_n 0, 1) := by decide +kernel
theorem dX8_log_56 : decode cX8_log 56 = .ok (.iload_n 1, 1) := by decide +kernel
theorem dX8_log_57 : decode cX8_log 57 = .ok (.iload_n 2, 1) := by decide +kernel
theorem dX8_log_58 : decode cX8_log 58 = .ok (.iload_n 3, 1) := by decide +kernel
theorem dX8_log_59 : decode cX8_log 59 = .ok (.invokevirtual 187, 3) := by decide +kernel
theorem dX8_log_62 : decode cX8_log 62 = .ok (.istore 5, 2) := by decide +kernel
theorem dX8_log_64 : decode cX8_log 64 = .ok (.iload 5, 2) := by decide +kernel
theorem dX8_log_66 : decode cX8_log 66 = .ok (.ifCond .ge 8, 3) := by decide +kernel
theorem dX8_log_69 : decode cX8_log 69 = .ok (.iload 5, 2) := by decide +kernel
theorem dX8_log_71 : decode cX8_log 71 = .ok (.goto 64, 3) := by decide +kernel
theorem dX8_log_74 : decode cX8_log 74 = .ok (.iload 4, 2) := by decide +kernel
theorem dX8_log_76 : decode cX8_log 76 = .ok (.ifCond .ne 10, 3) := by decide +kernel
theorem dX8_log_79 : decode cX8_log 79 = .ok (.aload_n 0, 1) := by decide +kernel
theorem dX8_log_80 : decode cX8_log 80 = .ok (.getfield 167, 3) := by decide +kernel
theorem dX8_log_83 : decode cX8_log 83 = .ok (.goto 52, 3) := by decide +kernel
theorem dX8_log_86 : decode cX8_log 86 = .ok (.iload 4, 2) := by decide +kernel
theorem dX8_log_88 : decode cX8_log 88 = .ok (.iconst 1, 1) := by decide +kernel
theorem dX8_log_89 : decode cX8_log 89 = .ok (.if_icmp .ne 10, 3) := by decide +kernel
theorem dX8_log_92 : decode cX8_log 92 = .ok (.aload_n 0, 1) := by decide +kernel
theorem dX8_log_93 : decode cX8_log 93 = .ok (.getfield 170, 3) := by decide +kernel
theorem dX8_log_96 : decode cX8_log 96 = .ok (.goto 39, 3) := by decide +kernel
theorem dX8_log_99 : decode cX8_log 99 = .ok (.iload 4, 2) := by decide +kernel
theorem dX8_log_101 : decode cX8_log 101 = .ok (.iconst 2, 1) := by decide +kernel
theorem dX8_log_102 : decode cX8_log 102 = .ok (.if_icmp .ne 10, 3) := by decide +kernel
theorem dX8_log_105 : decode cX8_log 105 = .ok (.aload_n 0, 1) := by decide +kernel
theorem dX8_log_106 : decode cX8_log 106 = .ok (.getfield 173, 3) := by decide +kernel
theorem dX8_log_109 : decode cX8_log 109 = .ok (.goto 26, 3) := by decide +kernel
theorem dX8_log_112 : decode cX8_log 112 = .ok (.iload 4, 2) := by decide +kernel
theorem dX8_log_114 : decode cX8_log 114 = .ok (.iconst 3, 1) := by decide +kernel
theorem dX8_log_115 : decode cX8_log 115 = .ok (.if_icmp .ne 10, 3) := by decide +kernel
theorem dX8_log_118 : decode cX8_log 118 = .ok (.aload_n 0, 1) := by decide +kernel
theorem dX8_log_119 : decode cX8_log 119 = .ok (.getfield 176, 3) := by decide +kernel
theorem dX8_log_122 : decode cX8_log 122 = .ok (.goto 13, 3) := by decide +kernel
theorem dX8_log_125 : decode cX8_log 125 = .ok (.aload_n 0, 1) := by decide +kernel
theorem dX8_log_126 : decode cX8_log 126 = .ok (.getfield 46, 3) := by decide +kernel
theorem dX8_log_129 : decode cX8_log 129 = .ok (.iload 4, 2) := by decide +kernel
theorem dX8_log_131 : decode cX8_log 131 = .ok (.bipush 10, 2) := by decide +kernel
theorem dX8_log_133 : decode cX8_log 133 = .ok (.isub, 1) := by decide +kernel
theorem dX8_log_134 : decode cX8_log 134 = .ok (.iaload, 1) := by decide +kernel
theorem dX8_log_135 : decode cX8_log 135 = .ok (.ireturn, 1) := by decide +kernel
set_option maxRecDepth 20000 in
theorem ggX8_learn_X8_isSheet : GoodIn wsX8_learn wsX8_isSheet := goodIn_r _ [13, 14, 15, 16, 12, 17] (by decide +kernel) (by decide +kernel)
set_option maxRecDepth 20000 in
theorem gX8_learn_X8_isSheet : GoodIn wsX8_learn (va_wsS RX8 66 yX8_isSheet wsX8_isSheet) := goodIn_app (goodIn_of _ (by decide +kernel)) ggX8_learn_X8_isSheet
set_option maxRecDepth 20000 in
theorem ggX8_learn_X8_in : GoodIn wsX8_learn wsX8_in := goodIn_r _ [17] (by decide +kernel) (by decide +kernel)
set_option maxRecDepth 20000 in
theorem gX8_learn_X8_in : GoodIn wsX8_learn (va_wsS RX8 62 yX8_in wsX8_in) := goodIn_app (goodIn_of _ (by decide +kernel)) ggX8_learn_X8_in
set_option maxRecDepth 20000 in
theorem ggX8_learn_X8_isChance : GoodIn wsX8_learn wsX8_isChance := goodIn_r _ [20, 21, 15, 16, 12, 17] (by decide +kernel) (by decide +kernel)
set_option maxRecDepth 20000 in
theorem gX8_learn_X8_isChance : GoodIn wsX8_learn (va_wsS RX8 100 yX8_isChance wsX8_isChance) := goodIn_app (goodIn_of _ (by decide +kernel)) ggX8_learn_X8_isChance
set_option maxRecDepth 20000 in
theorem ggX8_learn_X8_readLog : GoodIn wsX8_learn wsX8_readLog := goodIn_r _ [25, 26, 27, 6, 28, 29, 30, 31, 32, 7, 33, 34, 35, 36, 37, 12, 38, 39, 15, 16, 17, 40, 41, 42, 43, 44, 45, 46, 47, 48, 49, 50, 51, 56, 57, 58, 59, 60, 61, 62, 63, 64, 65, 66, 67, 68, 69, 70, 71, 72, 73, 74, 75, 76, 77] (by decide +kernel) (by decide +kernel)
set_option maxRecDepth 20000 in
theorem gX8_learn_X8_readLog : GoodIn wsX8_learn (wsV RX8 187 RX8 yX8_readLog wsX8_readLog) := goodIn_app (goodIn_of _ (by decide +kernel)) ggX8_learn_X8_readLog
set_option maxRecDepth 20000 in
theorem ggX8_learn_X8_settle : GoodIn wsX8_learn wsX8_settle := goodIn_r _ [55, 9, 56, 57, 58, 59, 60, 61, 62, 63, 64, 65, 66, 67, 68, 69, 70, 71, 72, 73, 74, 75, 76, 77] (by decide +kernel) (by decide +kernel)
set_option maxRecDepth 20000 in
theorem gX8_learn_X8_settle : GoodIn wsX8_learn (wsV RX8 104 RX8 yX8_settle wsX8_settle) := goodIn_app (goodIn_of _ (by decide +kernel)) ggX8_learn_X8_settle
theorem dX8_learn_0 : decode cX8_learn 0 = .ok (.aload_n 0, 1) := by decide +kernel
theorem dX8_learn_1 : decode cX8_learn 1 = .ok (.iconst 0, 1) := by decide +kernel
theorem dX8_learn_2 : decode cX8_learn 2 = .ok (.putfield 52, 3) := by decide +kernel
theorem dX8_learn_5 : decode cX8_learn 5 = .ok (.iload_n 1, 1) := by decide +kernel
theorem dX8_learn_6 : decode cX8_learn 6 = .ok (.invokestatic 66, 3) := by decide +kernel
theorem dX8_learn_9 : decode cX8_learn 9 = .ok (.ifCond .eq 23, 3) := by decide +kernel
theorem dX8_learn_12 : decode cX8_learn 12 = .ok (.iload_n 3, 1) := by decide +kernel
theorem dX8_learn_13 : decode cX8_learn 13 = .ok (.i2l, 1) := by decide +kernel
theorem dX8_learn_14 : decode cX8_learn 14 = .ok (.lconst 1, 1) := by decide +kernel
theorem dX8_learn_15 : decode cX8_learn 15 = .ok (.ldc2_w 179, 3) := by decide +kernel
theorem dX8_learn_18 : decode cX8_learn 18 = .ok (.invokestatic 62, 3) := by decide +kernel
theorem dX8_learn_21 : decode cX8_learn 21 = .ok (.ifCond .eq 11, 3) := by decide +kernel
theorem dX8_learn_24 : decode cX8_learn 24 = .ok (.iload 4, 2) := by decide +kernel
theorem dX8_learn_26 : decode cX8_learn 26 = .ok (.invokestatic 100, 3) := by decide +kernel
theorem dX8_learn_29 : decode cX8_learn 29 = .ok (.ifCond .ne 6, 3) := by decide +kernel
theorem dX8_learn_32 : decode cX8_learn 32 = .ok (.ldc 72, 2) := by decide +kernel
theorem dX8_learn_34 : decode cX8_learn 34 = .ok (.ireturn, 1) := by decide +kernel
theorem dX8_learn_35 : decode cX8_learn 35 = .ok (.aload_n 0, 1) := by decide +kernel
theorem dX8_learn_36 : decode cX8_learn 36 = .ok (.getfield 95, 3) := by decide +kernel
theorem dX8_learn_39 : decode cX8_learn 39 = .ok (.bipush 12, 2) := by decide +kernel
theorem dX8_learn_41 : decode cX8_learn 41 = .ok (.if_icmp .ne 6, 3) := by decide +kernel
theorem dX8_learn_44 : decode cX8_learn 44 = .ok (.ldc 103, 2) := by decide +kernel
theorem dX8_learn_46 : decode cX8_learn 46 = .ok (.ireturn, 1) := by decide +kernel
theorem dX8_learn_47 : decode cX8_learn 47 = .ok (.aload_n 0, 1) := by decide +kernel
theorem dX8_learn_48 : decode cX8_learn 48 = .ok (.getfield 56, 3) := by decide +kernel
theorem dX8_learn_51 : decode cX8_learn 51 = .ok (.istore 5, 2) := by decide +kernel
theorem dX8_learn_53 : decode cX8_learn 53 = .ok (.aload_n 0, 1) := by decide +kernel
theorem dX8_learn_54 : decode cX8_learn 54 = .ok (.iload_n 1, 1) := by decide +kernel
theorem dX8_learn_55 : decode cX8_learn 55 = .ok (.iload_n 2, 1) := by decide +kernel
theorem dX8_learn_56 : decode cX8_learn 56 = .ok (.iload_n 3, 1) := by decide +kernel
theorem dX8_learn_57 : decode cX8_learn 57 = .ok (.invokevirtual 187, 3) := by decide +kernel
theorem dX8_learn_60 : decode cX8_learn 60 = .ok (.istore 6, 2) := by decide +kernel
theorem dX8_learn_62 : decode cX8_learn 62 = .ok (.iload 6, 2) := by decide +kernel
theorem dX8_learn_64 : decode cX8_learn 64 = .ok (.ifCond .ge 6, 3) := by decide +kernel
theorem dX8_learn_67 : decode cX8_learn 67 = .ok (.iload 6, 2) := by decide +kernel
theorem dX8_learn_69 : decode cX8_learn 69 = .ok (.ireturn, 1) := by decide +kernel
theorem dX8_learn_70 : decode cX8_learn 70 = .ok (.aload_n 0, 1) := by decide +kernel
theorem dX8_learn_71 : decode cX8_learn 71 = .ok (.getfield 46, 3) := by decide +kernel
theorem dX8_learn_74 : decode cX8_learn 74 = .ok (.iconst 0, 1) := by decide +kernel
theorem dX8_learn_75 : decode cX8_learn 75 = .ok (.iaload, 1) := by decide +kernel
theorem dX8_learn_76 : decode cX8_learn 76 = .ok (.aload_n 0, 1) := by decide +kernel
theorem dX8_learn_77 : decode cX8_learn 77 = .ok (.getfield 46, 3) := by decide +kernel
theorem dX8_learn_80 : decode cX8_learn 80 = .ok (.iconst 1, 1) := by decide +kernel
theorem dX8_learn_81 : decode cX8_learn 81 = .ok (.iaload, 1) := by decide +kernel
theorem dX8_learn_82 : decode cX8_learn 82 = .ok (.iadd, 1) := by decide +kernel
theorem dX8_learn_83 : decode cX8_learn 83 = .ok (.aload_n 0, 1) := by decide +kernel
theorem dX8_learn_84 : decode cX8_learn 84 = .ok (.getfield 46, 3) := by decide +kernel
theorem dX8_learn_87 : decode cX8_learn 87 = .ok (.iconst 2, 1) := by decide +kernel
theorem dX8_learn_88 : decode cX8_learn 88 = .ok (.iaload, 1) := by decide +kernel
theorem dX8_learn_89 : decode cX8_learn 89 = .ok (.iadd, 1) := by decide +kernel
theorem dX8_learn_90 : decode cX8_learn 90 = .ok (.aload_n 0, 1) := by decide +kernel
theorem dX8_learn_91 : decode cX8_learn 91 = .ok (.getfield 46, 3) := by decide +kernel
theorem dX8_learn_94 : decode cX8_learn 94 = .ok (.iconst 3, 1) := by decide +kernel
theorem dX8_learn_95 : decode cX8_learn 95 = .ok (.iaload, 1) := by decide +kernel
theorem dX8_learn_96 : decode cX8_learn 96 = .ok (.iadd, 1) := by decide +kernel
theorem dX8_learn_97 : decode cX8_learn 97 = .ok (.aload_n 0, 1) := by decide +kernel
theorem dX8_learn_98 : decode cX8_learn 98 = .ok (.getfield 46, 3) := by decide +kernel
theorem dX8_learn_101 : decode cX8_learn 101 = .ok (.iconst 4, 1) := by decide +kernel
theorem dX8_learn_102 : decode cX8_learn 102 = .ok (.iaload, 1) := by decide +kernel
theorem dX8_learn_103 : decode cX8_learn 103 = .ok (.iadd, 1) := by decide +kernel
theorem dX8_learn_104 : decode cX8_learn 104 = .ok (.aload_n 0, 1) := by decide +kernel
theorem dX8_learn_105 : decode cX8_learn 105 = .ok (.getfield 46, 3) := by decide +kernel
theorem dX8_learn_108 : decode cX8_learn 108 = .ok (.iconst 5, 1) := by decide +kernel
theorem dX8_learn_109 : decode cX8_learn 109 = .ok (.iaload, 1) := by decide +kernel
theorem dX8_learn_110 : decode cX8_learn 110 = .ok (.iadd, 1) := by decide +kernel
theorem dX8_learn_111 : decode cX8_learn 111 = .ok (.istore 7, 2) := by decide +kernel
theorem dX8_learn_113 : decode cX8_learn 113 = .ok (.iload 7, 2) := by decide +kernel
theorem dX8_learn_115 : decode cX8_learn 115 = .ok (.ifCond .ne 12, 3) := by decide +kernel
theorem dX8_learn_118 : decode cX8_learn 118 = .ok (.aload_n 0, 1) := by decide +kernel
theorem dX8_learn_119 : decode cX8_learn 119 = .ok (.iload 5, 2) := by decide +kernel
theorem dX8_learn_121 : decode cX8_learn 121 = .ok (.putfield 56, 3) := by decide +kernel
theorem dX8_learn_124 : decode cX8_learn 124 = .ok (.ldc 113, 2) := by decide +kernel
theorem dX8_learn_126 : decode cX8_learn 126 = .ok (.ireturn, 1) := by decide +kernel
theorem dX8_learn_127 : decode cX8_learn 127 = .ok (.iconst 1, 1) := by decide +kernel
theorem dX8_learn_128 : decode cX8_learn 128 = .ok (.istore 8, 2) := by decide +kernel
theorem dX8_learn_130 : decode cX8_learn 130 = .ok (.iload 8, 2) := by decide +kernel
theorem dX8_learn_132 : decode cX8_learn 132 = .ok (.bipush 6, 2) := by decide +kernel
theorem dX8_learn_134 : decode cX8_learn 134 = .ok (.if_icmp .ge 38, 3) := by decide +kernel
theorem dX8_learn_137 : decode cX8_learn 137 = .ok (.aload_n 0, 1) := by decide +kernel
theorem dX8_learn_138 : decode cX8_learn 138 = .ok (.getfield 19, 3) := by decide +kernel
theorem dX8_learn_141 : decode cX8_learn 141 = .ok (.bipush 7, 2) := by decide +kernel
theorem dX8_learn_143 : decode cX8_learn 143 = .ok (.aload_n 0, 1) := by decide +kernel
theorem dX8_learn_144 : decode cX8_learn 144 = .ok (.getfield 95, 3) := by decide +kernel
theorem dX8_learn_147 : decode cX8_learn 147 = .ok (.imul, 1) := by decide +kernel
theorem dX8_learn_148 : decode cX8_learn 148 = .ok (.iload 8, 2) := by decide +kernel
theorem dX8_learn_150 : decode cX8_learn 150 = .ok (.iadd, 1) := by decide +kernel
theorem dX8_learn_151 : decode cX8_learn 151 = .ok (.aload_n 0, 1) := by decide +kernel
theorem dX8_learn_152 : decode cX8_learn 152 = .ok (.getfield 46, 3) := by decide +kernel
theorem dX8_learn_155 : decode cX8_learn 155 = .ok (.iload 8, 2) := by decide +kernel
theorem dX8_learn_157 : decode cX8_learn 157 = .ok (.iaload, 1) := by decide +kernel
theorem dX8_learn_158 : decode cX8_learn 158 = .ok (.sipush 1000, 3) := by decide +kernel
theorem dX8_learn_161 : decode cX8_learn 161 = .ok (.imul, 1) := by decide +kernel
theorem dX8_learn_162 : decode cX8_learn 162 = .ok (.iload 7, 2) := by decide +kernel
theorem dX8_learn_164 : decode cX8_learn 164 = .ok (.idiv, 1) := by decide +kernel
theorem dX8_learn_165 : decode cX8_learn 165 = .ok (.iastore, 1) := by decide +kernel
theorem dX8_learn_166 : decode cX8_learn 166 = .ok (.iinc 8 1, 3) := by decide +kernel
theorem dX8_learn_169 : decode cX8_learn 169 = .ok (.goto (-39), 3) := by decide +kernel
theorem dX8_learn_172 : decode cX8_learn 172 = .ok (.aload_n 0, 1) := by decide +kernel
theorem dX8_learn_173 : decode cX8_learn 173 = .ok (.getfield 19, 3) := by decide +kernel
theorem dX8_learn_176 : decode cX8_learn 176 = .ok (.bipush 7, 2) := by decide +kernel
theorem dX8_learn_178 : decode cX8_learn 178 = .ok (.aload_n 0, 1) := by decide +kernel
theorem dX8_learn_179 : decode cX8_learn 179 = .ok (.getfield 95, 3) := by decide +kernel
theorem dX8_learn_182 : decode cX8_learn 182 = .ok (.imul, 1) := by decide +kernel
theorem dX8_learn_183 : decode cX8_learn 183 = .ok (.bipush 6, 2) := by decide +kernel
theorem dX8_learn_185 : decode cX8_learn 185 = .ok (.iadd, 1) := by decide +kernel
theorem dX8_learn_186 : decode cX8_learn 186 = .ok (.iload 4, 2) := by decide +kernel
theorem dX8_learn_188 : decode cX8_learn 188 = .ok (.iastore, 1) := by decide +kernel
theorem dX8_learn_189 : decode cX8_learn 189 = .ok (.aload_n 0, 1) := by decide +kernel
theorem dX8_learn_190 : decode cX8_learn 190 = .ok (.aload_n 0, 1) := by decide +kernel
theorem dX8_learn_191 : decode cX8_learn 191 = .ok (.getfield 95, 3) := by decide +kernel
theorem dX8_learn_194 : decode cX8_learn 194 = .ok (.invokevirtual 104, 3) := by decide +kernel
theorem dX8_learn_197 : decode cX8_learn 197 = .ok (.aload_n 0, 1) := by decide +kernel
theorem dX8_learn_198 : decode cX8_learn 198 = .ok (.dup, 1) := by decide +kernel
theorem dX8_learn_199 : decode cX8_learn 199 = .ok (.getfield 95, 3) := by decide +kernel
theorem dX8_learn_202 : decode cX8_learn 202 = .ok (.iconst 1, 1) := by decide +kernel
theorem dX8_learn_203 : decode cX8_learn 203 = .ok (.iadd, 1) := by decide +kernel
theorem dX8_learn_204 : decode cX8_learn 204 = .ok (.putfield 95, 3) := by decide +kernel
theorem dX8_learn_207 : decode cX8_learn 207 = .ok (.aload_n 0, 1) := by decide +kernel
theorem dX8_learn_208 : decode cX8_learn 208 = .ok (.getfield 95, 3) := by decide +kernel
theorem dX8_learn_211 : decode cX8_learn 211 = .ok (.iconst 1, 1) := by decide +kernel
theorem dX8_learn_212 : decode cX8_learn 212 = .ok (.isub, 1) := by decide +kernel
theorem dX8_learn_213 : decode cX8_learn 213 = .ok (.ireturn, 1) := by decide +kernel
theorem dX8_kindOf_0 : decode cX8_kindOf 0 = .ok (.bipush 7, 2) := by decide +kernel
theorem dX8_kindOf_2 : decode cX8_kindOf 2 = .ok (.iload_n 1, 1) := by decide +kernel
theorem dX8_kindOf_3 : decode cX8_kindOf 3 = .ok (.imul, 1) := by decide +kernel
theorem dX8_kindOf_4 : decode cX8_kindOf 4 = .ok (.istore_n 2, 1) := by decide +kernel
theorem dX8_kindOf_5 : decode cX8_kindOf 5 = .ok (.aload_n 0, 1) := by decide +kernel
theorem dX8_kindOf_6 : decode cX8_kindOf 6 = .ok (.getfield 19, 3) := by decide +kernel
theorem dX8_kindOf_9 : decode cX8_kindOf 9 = .ok (.iload_n 2, 1) := by decide +kernel
theorem dX8_kindOf_10 : decode cX8_kindOf 10 = .ok (.iaload, 1) := by decide +kernel
theorem dX8_kindOf_11 : decode cX8_kindOf 11 = .ok (.sipush 650, 3) := by decide +kernel
theorem dX8_kindOf_14 : decode cX8_kindOf 14 = .ok (.if_icmp .gt 33, 3) := by decide +kernel
theorem dX8_kindOf_17 : decode cX8_kindOf 17 = .ok (.aload_n 0, 1) := by decide +kernel
theorem dX8_kindOf_18 : decode cX8_kindOf 18 = .ok (.getfield 19, 3) := by decide +kernel
theorem dX8_kindOf_21 : decode cX8_kindOf 21 = .ok (.iload_n 2, 1) := by decide +kernel
theorem dX8_kindOf_22 : decode cX8_kindOf 22 = .ok (.iconst 4, 1) := by decide +kernel
theorem dX8_kindOf_23 : decode cX8_kindOf 23 = .ok (.iadd, 1) := by decide +kernel
theorem dX8_kindOf_24 : decode cX8_kindOf 24 = .ok (.iaload, 1) := by decide +kernel
theorem dX8_kindOf_25 : decode cX8_kindOf 25 = .ok (.aload_n 0, 1) := by decide +kernel
theorem dX8_kindOf_26 : decode cX8_kindOf 26 = .ok (.getfield 19, 3) := by decide +kernel
theorem dX8_kindOf_29 : decode cX8_kindOf 29 = .ok (.iload_n 2, 1) := by decide +kernel
theorem dX8_kindOf_30 : decode cX8_kindOf 30 = .ok (.iconst 5, 1) := by decide +kernel
theorem dX8_kindOf_31 : decode cX8_kindOf 31 = .ok (.iadd, 1) := by decide +kernel
theorem dX8_kindOf_32 : decode cX8_kindOf 32 = .ok (.iaload, 1) := by decide +kernel
theorem dX8_kindOf_33 : decode cX8_kindOf 33 = .ok (.iadd, 1) := by decide +kernel
theorem dX8_kindOf_34 : decode cX8_kindOf 34 = .ok (.bipush 60, 2) := by decide +kernel
theorem dX8_kindOf_36 : decode cX8_kindOf 36 = .ok (.if_icmp .lt 7, 3) := by decide +kernel
theorem dX8_kindOf_39 : decode cX8_kindOf 39 = .ok (.iconst 2, 1) := by decide +kernel
theorem dX8_kindOf_40 : decode cX8_kindOf 40 = .ok (.goto 27, 3) := by decide +kernel
theorem dX8_kindOf_43 : decode cX8_kindOf 43 = .ok (.iconst 1, 1) := by decide +kernel
theorem dX8_kindOf_44 : decode cX8_kindOf 44 = .ok (.goto 23, 3) := by decide +kernel
theorem dX8_kindOf_47 : decode cX8_kindOf 47 = .ok (.aload_n 0, 1) := by decide +kernel
theorem dX8_kindOf_48 : decode cX8_kindOf 48 = .ok (.getfield 19, 3) := by decide +kernel
theorem dX8_kindOf_51 : decode cX8_kindOf 51 = .ok (.iload_n 2, 1) := by decide +kernel
theorem dX8_kindOf_52 : decode cX8_kindOf 52 = .ok (.bipush 6, 2) := by decide +kernel
theorem dX8_kindOf_54 : decode cX8_kindOf 54 = .ok (.iadd, 1) := by decide +kernel
theorem dX8_kindOf_55 : decode cX8_kindOf 55 = .ok (.iaload, 1) := by decide +kernel
theorem dX8_kindOf_56 : decode cX8_kindOf 56 = .ok (.sipush 700, 3) := by decide +kernel
theorem dX8_kindOf_59 : decode cX8_kindOf 59 = .ok (.if_icmp .lt 7, 3) := by decide +kernel
theorem dX8_kindOf_62 : decode cX8_kindOf 62 = .ok (.iconst 3, 1) := by decide +kernel
theorem dX8_kindOf_63 : decode cX8_kindOf 63 = .ok (.goto 4, 3) := by decide +kernel
theorem dX8_kindOf_66 : decode cX8_kindOf 66 = .ok (.iconst 0, 1) := by decide +kernel
theorem dX8_kindOf_67 : decode cX8_kindOf 67 = .ok (.ireturn, 1) := by decide +kernel
theorem dX8_isOf_0 : decode cX8_isOf 0 = .ok (.iload_n 1, 1) := by decide +kernel
theorem dX8_isOf_1 : decode cX8_isOf 1 = .ok (.ifCond .eq 18, 3) := by decide +kernel
theorem dX8_isOf_4 : decode cX8_isOf 4 = .ok (.iload_n 0, 1) := by decide +kernel
theorem dX8_isOf_5 : decode cX8_isOf 5 = .ok (.iload_n 1, 1) := by decide +kernel
theorem dX8_isOf_6 : decode cX8_isOf 6 = .ok (.if_icmp .eq 13, 3) := by decide +kernel
theorem dX8_isOf_9 : decode cX8_isOf 9 = .ok (.iload_n 1, 1) := by decide +kernel
theorem dX8_isOf_10 : decode cX8_isOf 10 = .ok (.iconst 1, 1) := by decide +kernel
theorem dX8_isOf_11 : decode cX8_isOf 11 = .ok (.if_icmp .ne 12, 3) := by decide +kernel
theorem dX8_isOf_14 : decode cX8_isOf 14 = .ok (.iload_n 0, 1) := by decide +kernel
theorem dX8_isOf_15 : decode cX8_isOf 15 = .ok (.iconst 2, 1) := by decide +kernel
theorem dX8_isOf_16 : decode cX8_isOf 16 = .ok (.if_icmp .ne 7, 3) := by decide +kernel
theorem dX8_isOf_19 : decode cX8_isOf 19 = .ok (.iconst 1, 1) := by decide +kernel
theorem dX8_isOf_20 : decode cX8_isOf 20 = .ok (.goto 4, 3) := by decide +kernel
theorem dX8_isOf_23 : decode cX8_isOf 23 = .ok (.iconst 0, 1) := by decide +kernel
theorem dX8_isOf_24 : decode cX8_isOf 24 = .ok (.ireturn, 1) := by decide +kernel
set_option maxRecDepth 20000 in
theorem ggX8_kind_X8_isStriker : GoodIn wsX8_kind wsX8_isStriker := goodIn_r _ [7, 8, 9, 10, 6, 11, 17, 18, 19, 20, 21, 22, 23, 24, 25, 26, 27, 28, 29, 30, 31, 32, 33, 34, 35, 36, 37, 38] (by decide +kernel) (by decide +kernel)
set_option maxRecDepth 20000 in
theorem gX8_kind_X8_isStriker : GoodIn wsX8_kind (wsV RX8 108 RX8 yX8_isStriker wsX8_isStriker) := goodIn_app (goodIn_of _ (by decide +kernel)) ggX8_kind_X8_isStriker
set_option maxRecDepth 20000 in
theorem ggX8_kind_X8_kindOf : GoodIn wsX8_kind wsX8_kindOf := goodIn_r _ [15, 16, 17, 18, 19, 20, 21, 22, 23, 24, 25, 26, 27, 28, 29, 30, 31, 32, 33, 34, 35, 36, 37, 38] (by decide +kernel) (by decide +kernel)
set_option maxRecDepth 20000 in
theorem gX8_kind_X8_kindOf : GoodIn wsX8_kind (wsV RX8 191 RX8 yX8_kindOf wsX8_kindOf) := goodIn_app (goodIn_of _ (by decide +kernel)) ggX8_kind_X8_kindOf
theorem dX8_kind_0 : decode cX8_kind 0 = .ok (.aload_n 0, 1) := by decide +kernel
theorem dX8_kind_1 : decode cX8_kind 1 = .ok (.iconst 0, 1) := by decide +kernel
theorem dX8_kind_2 : decode cX8_kind 2 = .ok (.putfield 52, 3) := by decide +kernel
theorem dX8_kind_5 : decode cX8_kind 5 = .ok (.aload_n 0, 1) := by decide +kernel
theorem dX8_kind_6 : decode cX8_kind 6 = .ok (.iload_n 1, 1) := by decide +kernel
theorem dX8_kind_7 : decode cX8_kind 7 = .ok (.invokevirtual 108, 3) := by decide +kernel
theorem dX8_kind_10 : decode cX8_kind 10 = .ok (.ifCond .eq 11, 3) := by decide +kernel
theorem dX8_kind_13 : decode cX8_kind 13 = .ok (.aload_n 0, 1) := by decide +kernel
theorem dX8_kind_14 : decode cX8_kind 14 = .ok (.iload_n 1, 1) := by decide +kernel
theorem dX8_kind_15 : decode cX8_kind 15 = .ok (.invokevirtual 191, 3) := by decide +kernel
theorem dX8_kind_18 : decode cX8_kind 18 = .ok (.goto 5, 3) := by decide +kernel
theorem dX8_kind_21 : decode cX8_kind 21 = .ok (.ldc 72, 2) := by decide +kernel
theorem dX8_kind_23 : decode cX8_kind 23 = .ok (.ireturn, 1) := by decide +kernel
set_option maxRecDepth 20000 in
theorem ggX8_as_X8_isStriker : GoodIn wsX8_as wsX8_isStriker := goodIn_r _ [10, 11, 12, 13, 9, 14, 27, 28, 29, 30, 31, 32, 33, 34, 35, 36, 37, 38, 39, 40, 41, 42, 43, 44, 45, 46, 47, 48] (by decide +kernel) (by decide +kernel)
set_option maxRecDepth 20000 in
theorem gX8_as_X8_isStriker : GoodIn wsX8_as (wsV RX8 108 RX8 yX8_isStriker wsX8_isStriker) := goodIn_app (goodIn_of _ (by decide +kernel)) ggX8_as_X8_isStriker
set_option maxRecDepth 20000 in
theorem ggX8_as_X8_in : GoodIn wsX8_as wsX8_in := goodIn_r _ [14] (by decide +kernel) (by decide +kernel)
set_option maxRecDepth 20000 in
theorem gX8_as_X8_in : GoodIn wsX8_as (va_wsS RX8 62 yX8_in wsX8_in) := goodIn_app (goodIn_of _ (by decide +kernel)) ggX8_as_X8_in
set_option maxRecDepth 20000 in
theorem ggX8_as_X8_kindOf : GoodIn wsX8_as wsX8_kindOf := goodIn_r _ [18, 5, 27, 28, 29, 30, 31, 32, 33, 34, 35, 36, 37, 38, 39, 40, 41, 42, 43, 44, 45, 46, 47, 48] (by decide +kernel) (by decide +kernel)
set_option maxRecDepth 20000 in
theorem gX8_as_X8_kindOf : GoodIn wsX8_as (wsV RX8 191 RX8 yX8_kindOf wsX8_kindOf) := goodIn_app (goodIn_of _ (by decide +kernel)) ggX8_as_X8_kindOf
set_option maxRecDepth 20000 in
theorem ggX8_as_X8_isOf : GoodIn wsX8_as wsX8_isOf := goodIn_r _ [21] (by decide +kernel) (by decide +kernel)
set_option maxRecDepth 20000 in
theorem gX8_as_X8_isOf : GoodIn wsX8_as (va_wsS RX8 194 yX8_isOf wsX8_isOf) := goodIn_app (goodIn_of _ (by decide +kernel)) ggX8_as_X8_isOf
set_option maxRecDepth 20000 in
theorem ggX8_as_X8_found : GoodIn wsX8_as wsX8_found := goodIn_r _ [25, 4, 26, 27, 28, 29, 30, 31, 32, 33, 34, 35, 36, 37, 38, 39, 40, 41, 42, 43, 44, 45, 46, 47, 48] (by decide +kernel) (by decide +kernel)
set_option maxRecDepth 20000 in
theorem gX8_as_X8_found : GoodIn wsX8_as (wsV RX8 73 RX8 yX8_found wsX8_found) := goodIn_app (goodIn_of _ (by decide +kernel)) ggX8_as_X8_found
theorem dX8_as_0 : decode cX8_as 0 = .ok (.aload_n 0, 1) := by decide +kernel
theorem dX8_as_1 : decode cX8_as 1 = .ok (.iconst 0, 1) := by decide +kernel
theorem dX8_as_2 : decode cX8_as 2 = .ok (.putfield 52, 3) := by decide +kernel
theorem dX8_as_5 : decode cX8_as 5 = .ok (.aload_n 0, 1) := by decide +kernel
theorem dX8_as_6 : decode cX8_as 6 = .ok (.iload_n 1, 1) := by decide +kernel
theorem dX8_as_7 : decode cX8_as 7 = .ok (.invokevirtual 108, 3) := by decide +kernel
theorem dX8_as_10 : decode cX8_as 10 = .ok (.ifCond .eq 15, 3) := by decide +kernel
theorem dX8_as_13 : decode cX8_as 13 = .ok (.iload_n 2, 1) := by decide +kernel
theorem dX8_as_14 : decode cX8_as 14 = .ok (.i2l, 1) := by decide +kernel
theorem dX8_as_15 : decode cX8_as 15 = .ok (.lconst 0, 1) := by decide +kernel
theorem dX8_as_16 : decode cX8_as 16 = .ok (.ldc2_w 181, 3) := by decide +kernel
theorem dX8_as_19 : decode cX8_as 19 = .ok (.invokestatic 62, 3) := by decide +kernel
theorem dX8_as_22 : decode cX8_as 22 = .ok (.ifCond .ne 6, 3) := by decide +kernel
theorem dX8_as_25 : decode cX8_as 25 = .ok (.ldc 72, 2) := by decide +kernel
theorem dX8_as_27 : decode cX8_as 27 = .ok (.ireturn, 1) := by decide +kernel
theorem dX8_as_28 : decode cX8_as 28 = .ok (.aload_n 0, 1) := by decide +kernel
theorem dX8_as_29 : decode cX8_as 29 = .ok (.iconst 0, 1) := by decide +kernel
theorem dX8_as_30 : decode cX8_as 30 = .ok (.putfield 56, 3) := by decide +kernel
theorem dX8_as_33 : decode cX8_as 33 = .ok (.aload_n 0, 1) := by decide +kernel
theorem dX8_as_34 : decode cX8_as 34 = .ok (.iload_n 1, 1) := by decide +kernel
theorem dX8_as_35 : decode cX8_as 35 = .ok (.invokevirtual 191, 3) := by decide +kernel
theorem dX8_as_38 : decode cX8_as 38 = .ok (.iload_n 2, 1) := by decide +kernel
theorem dX8_as_39 : decode cX8_as 39 = .ok (.invokestatic 194, 3) := by decide +kernel
theorem dX8_as_42 : decode cX8_as 42 = .ok (.ifCond .eq 15, 3) := by decide +kernel
theorem dX8_as_45 : decode cX8_as 45 = .ok (.aload_n 0, 1) := by decide +kernel
theorem dX8_as_46 : decode cX8_as 46 = .ok (.getfield 19, 3) := by decide +kernel
theorem dX8_as_49 : decode cX8_as 49 = .ok (.bipush 7, 2) := by decide +kernel
theorem dX8_as_51 : decode cX8_as 51 = .ok (.iload_n 1, 1) := by decide +kernel
theorem dX8_as_52 : decode cX8_as 52 = .ok (.imul, 1) := by decide +kernel
theorem dX8_as_53 : decode cX8_as 53 = .ok (.iaload, 1) := by decide +kernel
theorem dX8_as_54 : decode cX8_as 54 = .ok (.goto 8, 3) := by decide +kernel
theorem dX8_as_57 : decode cX8_as 57 = .ok (.aload_n 0, 1) := by decide +kernel
theorem dX8_as_58 : decode cX8_as 58 = .ok (.iconst 3, 1) := by decide +kernel
theorem dX8_as_59 : decode cX8_as 59 = .ok (.invokevirtual 73, 3) := by decide +kernel
theorem dX8_as_62 : decode cX8_as 62 = .ok (.ireturn, 1) := by decide +kernel
theorem dX8_began_0 : decode cX8_began 0 = .ok (.aload_n 0, 1) := by decide +kernel
theorem dX8_began_1 : decode cX8_began 1 = .ok (.getfield 197, 3) := by decide +kernel
theorem dX8_began_4 : decode cX8_began 4 = .ok (.bipush 16, 2) := by decide +kernel
theorem dX8_began_6 : decode cX8_began 6 = .ok (.if_icmp .ge 23, 3) := by decide +kernel
theorem dX8_began_9 : decode cX8_began 9 = .ok (.aload_n 0, 1) := by decide +kernel
theorem dX8_began_10 : decode cX8_began 10 = .ok (.getfield 49, 3) := by decide +kernel
theorem dX8_began_13 : decode cX8_began 13 = .ok (.aload_n 0, 1) := by decide +kernel
theorem dX8_began_14 : decode cX8_began 14 = .ok (.getfield 197, 3) := by decide +kernel
theorem dX8_began_17 : decode cX8_began 17 = .ok (.iload_n 1, 1) := by decide +kernel
theorem dX8_began_18 : decode cX8_began 18 = .ok (.iastore, 1) := by decide +kernel
theorem dX8_began_19 : decode cX8_began 19 = .ok (.aload_n 0, 1) := by decide +kernel
theorem dX8_began_20 : decode cX8_began 20 = .ok (.dup, 1) := by decide +kernel
theorem dX8_began_21 : decode cX8_began 21 = .ok (.getfield 197, 3) := by decide +kernel
theorem dX8_began_24 : decode cX8_began 24 = .ok (.iconst 1, 1) := by decide +kernel
theorem dX8_began_25 : decode cX8_began 25 = .ok (.iadd, 1) := by decide +kernel
theorem dX8_began_26 : decode cX8_began 26 = .ok (.putfield 197, 3) := by decide +kernel
theorem dX8_began_29 : decode cX8_began 29 = .ok (.return_, 1) := by decide +kernel
set_option maxRecDepth 20000 in
theorem ggX8_safeSize_X8_began : GoodIn wsX8_safeSize wsX8_began := goodIn_r _ [6, 7, 8, 9, 10, 11, 12, 13, 14, 15, 16, 17, 18, 19, 20, 21, 22, 23, 24, 25, 26, 27, 28, 29, 30] (by decide +kernel) (by decide +kernel)
set_option maxRecDepth 20000 in
theorem gX8_safeSize_X8_began : GoodIn wsX8_safeSize (wsV RX8 200 RX8 yX8_began wsX8_began) := goodIn_app (goodIn_of _ (by decide +kernel)) ggX8_safeSize_X8_began
theorem dX8_safeSize_0 : decode cX8_safeSize 0 = .ok (.iload_n 2, 1) := by decide +kernel
theorem dX8_safeSize_1 : decode cX8_safeSize 1 = .ok (.iconst 2, 1) := by decide +kernel
theorem dX8_safeSize_2 : decode cX8_safeSize 2 = .ok (.if_icmp .ne 9, 3) := by decide +kernel
theorem dX8_safeSize_5 : decode cX8_safeSize 5 = .ok (.aload_n 0, 1) := by decide +kernel
theorem dX8_safeSize_6 : decode cX8_safeSize 6 = .ok (.bipush 12, 2) := by decide +kernel
theorem dX8_safeSize_8 : decode cX8_safeSize 8 = .ok (.invokevirtual 200, 3) := by decide +kernel
theorem dX8_safeSize_11 : decode cX8_safeSize 11 = .ok (.aload_n 0, 1) := by decide +kernel
theorem dX8_safeSize_12 : decode cX8_safeSize 12 = .ok (.bipush 11, 2) := by decide +kernel
theorem dX8_safeSize_14 : decode cX8_safeSize 14 = .ok (.invokevirtual 200, 3) := by decide +kernel
theorem dX8_safeSize_17 : decode cX8_safeSize 17 = .ok (.aload_n 0, 1) := by decide +kernel
theorem dX8_safeSize_18 : decode cX8_safeSize 18 = .ok (.bipush 10, 2) := by decide +kernel
theorem dX8_safeSize_20 : decode cX8_safeSize 20 = .ok (.invokevirtual 200, 3) := by decide +kernel
theorem dX8_safeSize_23 : decode cX8_safeSize 23 = .ok (.aload_n 0, 1) := by decide +kernel
theorem dX8_safeSize_24 : decode cX8_safeSize 24 = .ok (.getfield 19, 3) := by decide +kernel
theorem dX8_safeSize_27 : decode cX8_safeSize 27 = .ok (.bipush 7, 2) := by decide +kernel
theorem dX8_safeSize_29 : decode cX8_safeSize 29 = .ok (.iload_n 1, 1) := by decide +kernel
theorem dX8_safeSize_30 : decode cX8_safeSize 30 = .ok (.imul, 1) := by decide +kernel
theorem dX8_safeSize_31 : decode cX8_safeSize 31 = .ok (.bipush 6, 2) := by decide +kernel
theorem dX8_safeSize_33 : decode cX8_safeSize 33 = .ok (.iadd, 1) := by decide +kernel
theorem dX8_safeSize_34 : decode cX8_safeSize 34 = .ok (.iaload, 1) := by decide +kernel
theorem dX8_safeSize_35 : decode cX8_safeSize 35 = .ok (.sipush 1000, 3) := by decide +kernel
theorem dX8_safeSize_38 : decode cX8_safeSize 38 = .ok (.iadd, 1) := by decide +kernel
theorem dX8_safeSize_39 : decode cX8_safeSize 39 = .ok (.aload_n 0, 1) := by decide +kernel
theorem dX8_safeSize_40 : decode cX8_safeSize 40 = .ok (.getfield 19, 3) := by decide +kernel
theorem dX8_safeSize_43 : decode cX8_safeSize 43 = .ok (.bipush 7, 2) := by decide +kernel
theorem dX8_safeSize_45 : decode cX8_safeSize 45 = .ok (.iload_n 1, 1) := by decide +kernel
theorem dX8_safeSize_46 : decode cX8_safeSize 46 = .ok (.imul, 1) := by decide +kernel
theorem dX8_safeSize_47 : decode cX8_safeSize 47 = .ok (.iaload, 1) := by decide +kernel
theorem dX8_safeSize_48 : decode cX8_safeSize 48 = .ok (.isub, 1) := by decide +kernel
theorem dX8_safeSize_49 : decode cX8_safeSize 49 = .ok (.istore_n 3, 1) := by decide +kernel
theorem dX8_safeSize_50 : decode cX8_safeSize 50 = .ok (.iload_n 2, 1) := by decide +kernel
theorem dX8_safeSize_51 : decode cX8_safeSize 51 = .ok (.iconst 2, 1) := by decide +kernel
theorem dX8_safeSize_52 : decode cX8_safeSize 52 = .ok (.if_icmp .ne 9, 3) := by decide +kernel
theorem dX8_safeSize_55 : decode cX8_safeSize 55 = .ok (.iconst 2, 1) := by decide +kernel
theorem dX8_safeSize_56 : decode cX8_safeSize 56 = .ok (.iload_n 3, 1) := by decide +kernel
theorem dX8_safeSize_57 : decode cX8_safeSize 57 = .ok (.imul, 1) := by decide +kernel
theorem dX8_safeSize_58 : decode cX8_safeSize 58 = .ok (.goto 4, 3) := by decide +kernel
theorem dX8_safeSize_61 : decode cX8_safeSize 61 = .ok (.iload_n 3, 1) := by decide +kernel
theorem dX8_safeSize_62 : decode cX8_safeSize 62 = .ok (.ireturn, 1) := by decide +kernel
set_option maxRecDepth 20000 in
theorem ggX8_markOf_X8_began : GoodIn wsX8_markOf wsX8_began := goodIn_r _ [6, 7, 8, 16, 17, 18, 19, 20, 21, 22, 23, 24, 25, 26, 27, 28, 29, 30, 31, 32, 33, 34, 35, 36, 37] (by decide +kernel) (by decide +kernel)
set_option maxRecDepth 20000 in
theorem gX8_markOf_X8_began : GoodIn wsX8_markOf (wsV RX8 200 RX8 yX8_began wsX8_began) := goodIn_app (goodIn_of _ (by decide +kernel)) ggX8_markOf_X8_began
set_option maxRecDepth 20000 in
theorem ggX8_markOf_X8_isOf : GoodIn wsX8_markOf wsX8_isOf := goodIn_r _ [11] (by decide +kernel) (by decide +kernel)
set_option maxRecDepth 20000 in
theorem gX8_markOf_X8_isOf : GoodIn wsX8_markOf (va_wsS RX8 194 yX8_isOf wsX8_isOf) := goodIn_app (goodIn_of _ (by decide +kernel)) ggX8_markOf_X8_isOf
set_option maxRecDepth 20000 in
theorem ggX8_markOf_X8_safeSize : GoodIn wsX8_markOf wsX8_safeSize := goodIn_r _ [15, 1, 2, 3, 4, 5, 6, 7, 8, 16, 17, 18, 19, 20, 21, 22, 23, 24, 25, 26, 27, 28, 29, 30, 31, 32, 33, 34, 35, 36, 37] (by decide +kernel) (by decide +kernel)
set_option maxRecDepth 20000 in
theorem gX8_markOf_X8_safeSize : GoodIn wsX8_markOf (wsV RX8 203 RX8 yX8_safeSize wsX8_safeSize) := goodIn_app (goodIn_of _ (by decide +kernel)) ggX8_markOf_X8_safeSize
theorem dX8_markOf_0 : decode cX8_markOf 0 = .ok (.iload_n 2, 1) := by decide +kernel
theorem dX8_markOf_1 : decode cX8_markOf 1 = .ok (.iconst 2, 1) := by decide +kernel
theorem dX8_markOf_2 : decode cX8_markOf 2 = .ok (.if_icmp .ne 9, 3) := by decide +kernel
theorem dX8_markOf_5 : decode cX8_markOf 5 = .ok (.aload_n 0, 1) := by decide +kernel
theorem dX8_markOf_6 : decode cX8_markOf 6 = .ok (.bipush 22, 2) := by decide +kernel
theorem dX8_markOf_8 : decode cX8_markOf 8 = .ok (.invokevirtual 200, 3) := by decide +kernel
theorem dX8_markOf_11 : decode cX8_markOf 11 = .ok (.iload_n 2, 1) := by decide +kernel
theorem dX8_markOf_12 : decode cX8_markOf 12 = .ok (.iconst 1, 1) := by decide +kernel
theorem dX8_markOf_13 : decode cX8_markOf 13 = .ok (.invokestatic 194, 3) := by decide +kernel
theorem dX8_markOf_16 : decode cX8_markOf 16 = .ok (.ifCond .eq 9, 3) := by decide +kernel
theorem dX8_markOf_19 : decode cX8_markOf 19 = .ok (.aload_n 0, 1) := by decide +kernel
theorem dX8_markOf_20 : decode cX8_markOf 20 = .ok (.bipush 21, 2) := by decide +kernel
theorem dX8_markOf_22 : decode cX8_markOf 22 = .ok (.invokevirtual 200, 3) := by decide +kernel
theorem dX8_markOf_25 : decode cX8_markOf 25 = .ok (.iload_n 2, 1) := by decide +kernel
theorem dX8_markOf_26 : decode cX8_markOf 26 = .ok (.iconst 3, 1) := by decide +kernel
theorem dX8_markOf_27 : decode cX8_markOf 27 = .ok (.if_icmp .ne 9, 3) := by decide +kernel
theorem dX8_markOf_30 : decode cX8_markOf 30 = .ok (.aload_n 0, 1) := by decide +kernel
theorem dX8_markOf_31 : decode cX8_markOf 31 = .ok (.bipush 23, 2) := by decide +kernel
theorem dX8_markOf_33 : decode cX8_markOf 33 = .ok (.invokevirtual 200, 3) := by decide +kernel
theorem dX8_markOf_36 : decode cX8_markOf 36 = .ok (.aload_n 0, 1) := by decide +kernel
theorem dX8_markOf_37 : decode cX8_markOf 37 = .ok (.bipush 20, 2) := by decide +kernel
theorem dX8_markOf_39 : decode cX8_markOf 39 = .ok (.invokevirtual 200, 3) := by decide +kernel
theorem dX8_markOf_42 : decode cX8_markOf 42 = .ok (.aload_n 0, 1) := by decide +kernel
theorem dX8_markOf_43 : decode cX8_markOf 43 = .ok (.getfield 19, 3) := by decide +kernel
theorem dX8_markOf_46 : decode cX8_markOf 46 = .ok (.bipush 7, 2) := by decide +kernel
theorem dX8_markOf_48 : decode cX8_markOf 48 = .ok (.iload_n 1, 1) := by decide +kernel
theorem dX8_markOf_49 : decode cX8_markOf 49 = .ok (.imul, 1) := by decide +kernel
theorem dX8_markOf_50 : decode cX8_markOf 50 = .ok (.iconst 5, 1) := by decide +kernel
theorem dX8_markOf_51 : decode cX8_markOf 51 = .ok (.iadd, 1) := by decide +kernel
theorem dX8_markOf_52 : decode cX8_markOf 52 = .ok (.iaload, 1) := by decide +kernel
theorem dX8_markOf_53 : decode cX8_markOf 53 = .ok (.istore_n 3, 1) := by decide +kernel
theorem dX8_markOf_54 : decode cX8_markOf 54 = .ok (.iload_n 2, 1) := by decide +kernel
theorem dX8_markOf_55 : decode cX8_markOf 55 = .ok (.iconst 3, 1) := by decide +kernel
theorem dX8_markOf_56 : decode cX8_markOf 56 = .ok (.if_icmp .ne 9, 3) := by decide +kernel
theorem dX8_markOf_59 : decode cX8_markOf 59 = .ok (.iload_n 3, 1) := by decide +kernel
theorem dX8_markOf_60 : decode cX8_markOf 60 = .ok (.iconst 2, 1) := by decide +kernel
theorem dX8_markOf_61 : decode cX8_markOf 61 = .ok (.idiv, 1) := by decide +kernel
theorem dX8_markOf_62 : decode cX8_markOf 62 = .ok (.goto 35, 3) := by decide +kernel
theorem dX8_markOf_65 : decode cX8_markOf 65 = .ok (.iload_n 2, 1) := by decide +kernel
theorem dX8_markOf_66 : decode cX8_markOf 66 = .ok (.iconst 1, 1) := by decide +kernel
theorem dX8_markOf_67 : decode cX8_markOf 67 = .ok (.if_icmp .ne 10, 3) := by decide +kernel
theorem dX8_markOf_70 : decode cX8_markOf 70 = .ok (.iload_n 3, 1) := by decide +kernel
theorem dX8_markOf_71 : decode cX8_markOf 71 = .ok (.bipush 100, 2) := by decide +kernel
theorem dX8_markOf_73 : decode cX8_markOf 73 = .ok (.iadd, 1) := by decide +kernel
theorem dX8_markOf_74 : decode cX8_markOf 74 = .ok (.goto 23, 3) := by decide +kernel
theorem dX8_markOf_77 : decode cX8_markOf 77 = .ok (.iload_n 2, 1) := by decide +kernel
theorem dX8_markOf_78 : decode cX8_markOf 78 = .ok (.iconst 2, 1) := by decide +kernel
theorem dX8_markOf_79 : decode cX8_markOf 79 = .ok (.if_icmp .ne 17, 3) := by decide +kernel
theorem dX8_markOf_82 : decode cX8_markOf 82 = .ok (.iload_n 3, 1) := by decide +kernel
theorem dX8_markOf_83 : decode cX8_markOf 83 = .ok (.bipush 100, 2) := by decide +kernel
theorem dX8_markOf_85 : decode cX8_markOf 85 = .ok (.iadd, 1) := by decide +kernel
theorem dX8_markOf_86 : decode cX8_markOf 86 = .ok (.aload_n 0, 1) := by decide +kernel
theorem dX8_markOf_87 : decode cX8_markOf 87 = .ok (.iload_n 1, 1) := by decide +kernel
theorem dX8_markOf_88 : decode cX8_markOf 88 = .ok (.iload_n 2, 1) := by decide +kernel
theorem dX8_markOf_89 : decode cX8_markOf 89 = .ok (.invokevirtual 203, 3) := by decide +kernel
theorem dX8_markOf_92 : decode cX8_markOf 92 = .ok (.iadd, 1) := by decide +kernel
theorem dX8_markOf_93 : decode cX8_markOf 93 = .ok (.goto 4, 3) := by decide +kernel
theorem dX8_markOf_96 : decode cX8_markOf 96 = .ok (.iload_n 3, 1) := by decide +kernel
theorem dX8_markOf_97 : decode cX8_markOf 97 = .ok (.ireturn, 1) := by decide +kernel
set_option maxRecDepth 20000 in
theorem ggX8_sizeOf_X8_isOf : GoodIn wsX8_sizeOf wsX8_isOf := goodIn_r _ [5] (by decide +kernel) (by decide +kernel)
set_option maxRecDepth 20000 in
theorem gX8_sizeOf_X8_isOf : GoodIn wsX8_sizeOf (va_wsS RX8 194 yX8_isOf wsX8_isOf) := goodIn_app (goodIn_of _ (by decide +kernel)) ggX8_sizeOf_X8_isOf
set_option maxRecDepth 20000 in
theorem ggX8_sizeOf_X8_safeSize : GoodIn wsX8_sizeOf wsX8_safeSize := goodIn_r _ [9, 1, 10, 11, 12, 4, 13, 14, 15, 20, 21, 22, 23, 24, 25, 26, 27, 28, 29, 30, 31, 32, 33, 34, 35, 36, 37, 38, 39, 40, 41] (by decide +kernel) (by decide +kernel)
set_option maxRecDepth 20000 in
theorem gX8_sizeOf_X8_safeSize : GoodIn wsX8_sizeOf (wsV RX8 203 RX8 yX8_safeSize wsX8_safeSize) := goodIn_app (goodIn_of _ (by decide +kernel)) ggX8_sizeOf_X8_safeSize
set_option maxRecDepth 20000 in
theorem ggX8_sizeOf_X8_began : GoodIn wsX8_sizeOf wsX8_began := goodIn_r _ [13, 14, 15, 20, 21, 22, 23, 24, 25, 26, 27, 28, 29, 30, 31, 32, 33, 34, 35, 36, 37, 38, 39, 40, 41] (by decide +kernel) (by decide +kernel)
set_option maxRecDepth 20000 in
theorem gX8_sizeOf_X8_began : GoodIn wsX8_sizeOf (wsV RX8 200 RX8 yX8_began wsX8_began) := goodIn_app (goodIn_of _ (by decide +kernel)) ggX8_sizeOf_X8_began
set_option maxRecDepth 20000 in
theorem ggX8_sizeOf_X8_markOf : GoodIn wsX8_sizeOf wsX8_markOf := goodIn_r _ [19, 1, 10, 11, 12, 4, 13, 14, 15, 2, 3, 5, 6, 7, 8, 9, 20, 21, 22, 23, 24, 25, 26, 27, 28, 29, 30, 31, 32, 33, 34, 35, 36, 37, 38, 39, 40, 41] (by decide +kernel) (by decide +kernel)
set_option maxRecDepth 20000 in
theorem gX8_sizeOf_X8_markOf : GoodIn wsX8_sizeOf (wsV RX8 206 RX8 yX8_markOf wsX8_markOf) := goodIn_app (goodIn_of _ (by decide +kernel)) ggX8_sizeOf_X8_markOf
theorem dX8_sizeOf_0 : decode cX8_sizeOf 0 = .ok (.iload_n 2, 1) := by decide +kernel
theorem dX8_sizeOf_1 : decode cX8_sizeOf 1 = .ok (.iconst 1, 1) := by decide +kernel
theorem dX8_sizeOf_2 : decode cX8_sizeOf 2 = .ok (.invokestatic 194, 3) := by decide +kernel
theorem dX8_sizeOf_5 : decode cX8_sizeOf 5 = .ok (.ifCond .eq 10, 3) := by decide +kernel
theorem dX8_sizeOf_8 : decode cX8_sizeOf 8 = .ok (.aload_n 0, 1) := by decide +kernel
theorem dX8_sizeOf_9 : decode cX8_sizeOf 9 = .ok (.iload_n 1, 1) := by decide +kernel
theorem dX8_sizeOf_10 : decode cX8_sizeOf 10 = .ok (.iload_n 2, 1) := by decide +kernel
theorem dX8_sizeOf_11 : decode cX8_sizeOf 11 = .ok (.invokevirtual 203, 3) := by decide +kernel
theorem dX8_sizeOf_14 : decode cX8_sizeOf 14 = .ok (.ireturn, 1) := by decide +kernel
theorem dX8_sizeOf_15 : decode cX8_sizeOf 15 = .ok (.iload_n 2, 1) := by decide +kernel
theorem dX8_sizeOf_16 : decode cX8_sizeOf 16 = .ok (.iconst 3, 1) := by decide +kernel
theorem dX8_sizeOf_17 : decode cX8_sizeOf 17 = .ok (.if_icmp .ne 9, 3) := by decide +kernel
theorem dX8_sizeOf_20 : decode cX8_sizeOf 20 = .ok (.aload_n 0, 1) := by decide +kernel
theorem dX8_sizeOf_21 : decode cX8_sizeOf 21 = .ok (.bipush 13, 2) := by decide +kernel
theorem dX8_sizeOf_23 : decode cX8_sizeOf 23 = .ok (.invokevirtual 200, 3) := by decide +kernel
theorem dX8_sizeOf_26 : decode cX8_sizeOf 26 = .ok (.aload_n 0, 1) := by decide +kernel
theorem dX8_sizeOf_27 : decode cX8_sizeOf 27 = .ok (.bipush 10, 2) := by decide +kernel
theorem dX8_sizeOf_29 : decode cX8_sizeOf 29 = .ok (.invokevirtual 200, 3) := by decide +kernel
theorem dX8_sizeOf_32 : decode cX8_sizeOf 32 = .ok (.aload_n 0, 1) := by decide +kernel
theorem dX8_sizeOf_33 : decode cX8_sizeOf 33 = .ok (.getfield 19, 3) := by decide +kernel
theorem dX8_sizeOf_36 : decode cX8_sizeOf 36 = .ok (.bipush 7, 2) := by decide +kernel
theorem dX8_sizeOf_38 : decode cX8_sizeOf 38 = .ok (.iload_n 1, 1) := by decide +kernel
theorem dX8_sizeOf_39 : decode cX8_sizeOf 39 = .ok (.imul, 1) := by decide +kernel
theorem dX8_sizeOf_40 : decode cX8_sizeOf 40 = .ok (.bipush 6, 2) := by decide +kernel
theorem dX8_sizeOf_42 : decode cX8_sizeOf 42 = .ok (.iadd, 1) := by decide +kernel
theorem dX8_sizeOf_43 : decode cX8_sizeOf 43 = .ok (.iaload, 1) := by decide +kernel
theorem dX8_sizeOf_44 : decode cX8_sizeOf 44 = .ok (.istore_n 3, 1) := by decide +kernel
theorem dX8_sizeOf_45 : decode cX8_sizeOf 45 = .ok (.iload_n 2, 1) := by decide +kernel
theorem dX8_sizeOf_46 : decode cX8_sizeOf 46 = .ok (.iconst 3, 1) := by decide +kernel
theorem dX8_sizeOf_47 : decode cX8_sizeOf 47 = .ok (.if_icmp .ne 14, 3) := by decide +kernel
theorem dX8_sizeOf_50 : decode cX8_sizeOf 50 = .ok (.iload_n 3, 1) := by decide +kernel
theorem dX8_sizeOf_51 : decode cX8_sizeOf 51 = .ok (.aload_n 0, 1) := by decide +kernel
theorem dX8_sizeOf_52 : decode cX8_sizeOf 52 = .ok (.iload_n 1, 1) := by decide +kernel
theorem dX8_sizeOf_53 : decode cX8_sizeOf 53 = .ok (.iload_n 2, 1) := by decide +kernel
theorem dX8_sizeOf_54 : decode cX8_sizeOf 54 = .ok (.invokevirtual 206, 3) := by decide +kernel
theorem dX8_sizeOf_57 : decode cX8_sizeOf 57 = .ok (.isub, 1) := by decide +kernel
theorem dX8_sizeOf_58 : decode cX8_sizeOf 58 = .ok (.goto 4, 3) := by decide +kernel
theorem dX8_sizeOf_61 : decode cX8_sizeOf 61 = .ok (.iload_n 3, 1) := by decide +kernel
theorem dX8_sizeOf_62 : decode cX8_sizeOf 62 = .ok (.ireturn, 1) := by decide +kernel
set_option maxRecDepth 20000 in
theorem ggX8_ask_X8_isStriker : GoodIn wsX8_ask wsX8_isStriker := goodIn_r _ [8, 9, 10, 11, 7, 12, 38, 39, 40, 41, 42, 43, 44, 45, 46, 47, 48, 49, 50, 51, 52, 53, 54, 55, 56, 57, 58, 59] (by decide +kernel) (by decide +kernel)
set_option maxRecDepth 20000 in
theorem gX8_ask_X8_isStriker : GoodIn wsX8_ask (wsV RX8 108 RX8 yX8_isStriker wsX8_isStriker) := goodIn_app (goodIn_of _ (by decide +kernel)) ggX8_ask_X8_isStriker
set_option maxRecDepth 20000 in
theorem ggX8_ask_X8_in : GoodIn wsX8_ask wsX8_in := goodIn_r _ [12] (by decide +kernel) (by decide +kernel)
set_option maxRecDepth 20000 in
theorem gX8_ask_X8_in : GoodIn wsX8_ask (va_wsS RX8 62 yX8_in wsX8_in) := goodIn_app (goodIn_of _ (by decide +kernel)) ggX8_ask_X8_in
set_option maxRecDepth 20000 in
theorem ggX8_ask_X8_kindOf : GoodIn wsX8_ask wsX8_kindOf := goodIn_r _ [16, 17, 38, 39, 40, 41, 42, 43, 44, 45, 46, 47, 48, 49, 50, 51, 52, 53, 54, 55, 56, 57, 58, 59] (by decide +kernel) (by decide +kernel)
set_option maxRecDepth 20000 in
theorem gX8_ask_X8_kindOf : GoodIn wsX8_ask (wsV RX8 191 RX8 yX8_kindOf wsX8_kindOf) := goodIn_app (goodIn_of _ (by decide +kernel)) ggX8_ask_X8_kindOf
set_option maxRecDepth 20000 in
theorem ggX8_ask_X8_sizeOf : GoodIn wsX8_ask wsX8_sizeOf := goodIn_r _ [21, 17, 22, 23, 7, 24, 25, 26, 27, 28, 29, 30, 31, 32, 3, 33, 34, 35, 36, 37, 38, 39, 40, 41, 42, 43, 44, 45, 46, 47, 48, 49, 50, 51, 52, 53, 54, 55, 56, 57, 58, 59] (by decide +kernel) (by decide +kernel)
set_option maxRecDepth 20000 in
theorem gX8_ask_X8_sizeOf : GoodIn wsX8_ask (wsV RX8 209 RX8 yX8_sizeOf wsX8_sizeOf) := goodIn_app (goodIn_of _ (by decide +kernel)) ggX8_ask_X8_sizeOf
set_option maxRecDepth 20000 in
theorem ggX8_ask_X8_markOf : GoodIn wsX8_ask wsX8_markOf := goodIn_r _ [37, 17, 29, 30, 31, 7, 32, 3, 33, 22, 23, 24, 25, 26, 27, 28, 38, 39, 40, 41, 42, 43, 44, 45, 46, 47, 48, 49, 50, 51, 52, 53, 54, 55, 56, 57, 58, 59] (by decide +kernel) (by decide +kernel)
set_option maxRecDepth 20000 in
theorem gX8_ask_X8_markOf : GoodIn wsX8_ask (wsV RX8 206 RX8 yX8_markOf wsX8_markOf) := goodIn_app (goodIn_of _ (by decide +kernel)) ggX8_ask_X8_markOf
theorem dX8_ask_0 : decode cX8_ask 0 = .ok (.aload_n 0, 1) := by decide +kernel
theorem dX8_ask_1 : decode cX8_ask 1 = .ok (.iconst 0, 1) := by decide +kernel
theorem dX8_ask_2 : decode cX8_ask 2 = .ok (.putfield 52, 3) := by decide +kernel
theorem dX8_ask_5 : decode cX8_ask 5 = .ok (.aload_n 0, 1) := by decide +kernel
theorem dX8_ask_6 : decode cX8_ask 6 = .ok (.iload_n 1, 1) := by decide +kernel
theorem dX8_ask_7 : decode cX8_ask 7 = .ok (.invokevirtual 108, 3) := by decide +kernel
theorem dX8_ask_10 : decode cX8_ask 10 = .ok (.ifCond .eq 13, 3) := by decide +kernel
theorem dX8_ask_13 : decode cX8_ask 13 = .ok (.iload_n 2, 1) := by decide +kernel
theorem dX8_ask_14 : decode cX8_ask 14 = .ok (.i2l, 1) := by decide +kernel
theorem dX8_ask_15 : decode cX8_ask 15 = .ok (.lconst 0, 1) := by decide +kernel
theorem dX8_ask_16 : decode cX8_ask 16 = .ok (.lconst 1, 1) := by decide +kernel
theorem dX8_ask_17 : decode cX8_ask 17 = .ok (.invokestatic 62, 3) := by decide +kernel
theorem dX8_ask_20 : decode cX8_ask 20 = .ok (.ifCond .ne 6, 3) := by decide +kernel
theorem dX8_ask_23 : decode cX8_ask 23 = .ok (.ldc 72, 2) := by decide +kernel
theorem dX8_ask_25 : decode cX8_ask 25 = .ok (.ireturn, 1) := by decide +kernel
theorem dX8_ask_26 : decode cX8_ask 26 = .ok (.aload_n 0, 1) := by decide +kernel
theorem dX8_ask_27 : decode cX8_ask 27 = .ok (.iconst 0, 1) := by decide +kernel
theorem dX8_ask_28 : decode cX8_ask 28 = .ok (.putfield 197, 3) := by decide +kernel
theorem dX8_ask_31 : decode cX8_ask 31 = .ok (.iload_n 2, 1) := by decide +kernel
theorem dX8_ask_32 : decode cX8_ask 32 = .ok (.ifCond .ne 16, 3) := by decide +kernel
theorem dX8_ask_35 : decode cX8_ask 35 = .ok (.aload_n 0, 1) := by decide +kernel
theorem dX8_ask_36 : decode cX8_ask 36 = .ok (.iload_n 1, 1) := by decide +kernel
theorem dX8_ask_37 : decode cX8_ask 37 = .ok (.aload_n 0, 1) := by decide +kernel
theorem dX8_ask_38 : decode cX8_ask 38 = .ok (.iload_n 1, 1) := by decide +kernel
theorem dX8_ask_39 : decode cX8_ask 39 = .ok (.invokevirtual 191, 3) := by decide +kernel
theorem dX8_ask_42 : decode cX8_ask 42 = .ok (.invokevirtual 209, 3) := by decide +kernel
theorem dX8_ask_45 : decode cX8_ask 45 = .ok (.goto 13, 3) := by decide +kernel
theorem dX8_ask_48 : decode cX8_ask 48 = .ok (.aload_n 0, 1) := by decide +kernel
theorem dX8_ask_49 : decode cX8_ask 49 = .ok (.iload_n 1, 1) := by decide +kernel
theorem dX8_ask_50 : decode cX8_ask 50 = .ok (.aload_n 0, 1) := by decide +kernel
theorem dX8_ask_51 : decode cX8_ask 51 = .ok (.iload_n 1, 1) := by decide +kernel
theorem dX8_ask_52 : decode cX8_ask 52 = .ok (.invokevirtual 191, 3) := by decide +kernel
theorem dX8_ask_55 : decode cX8_ask 55 = .ok (.invokevirtual 206, 3) := by decide +kernel
theorem dX8_ask_58 : decode cX8_ask 58 = .ok (.ireturn, 1) := by decide +kernel
set_option maxRecDepth 20000 in
theorem ggX8_trace_X8_in : GoodIn wsX8_trace wsX8_in := goodIn_r _ [8] (by decide +kernel) (by decide +kernel)
set_option maxRecDepth 20000 in
theorem gX8_trace_X8_in : GoodIn wsX8_trace (va_wsS RX8 62 yX8_in wsX8_in) := goodIn_app (goodIn_of _ (by decide +kernel)) ggX8_trace_X8_in
theorem dX8_trace_0 : decode cX8_trace 0 = .ok (.aload_n 0, 1) := by decide +kernel
theorem dX8_trace_1 : decode cX8_trace 1 = .ok (.iconst 0, 1) := by decide +kernel
theorem dX8_trace_2 : decode cX8_trace 2 = .ok (.putfield 52, 3) := by decide +kernel
theorem dX8_trace_5 : decode cX8_trace 5 = .ok (.iload_n 1, 1) := by decide +kernel
theorem dX8_trace_6 : decode cX8_trace 6 = .ok (.i2l, 1) := by decide +kernel
theorem dX8_trace_7 : decode cX8_trace 7 = .ok (.lconst 0, 1) := by decide +kernel
theorem dX8_trace_8 : decode cX8_trace 8 = .ok (.aload_n 0, 1) := by decide +kernel
theorem dX8_trace_9 : decode cX8_trace 9 = .ok (.getfield 197, 3) := by decide +kernel
theorem dX8_trace_12 : decode cX8_trace 12 = .ok (.iconst 1, 1) := by decide +kernel
theorem dX8_trace_13 : decode cX8_trace 13 = .ok (.isub, 1) := by decide +kernel
theorem dX8_trace_14 : decode cX8_trace 14 = .ok (.i2l, 1) := by decide +kernel
theorem dX8_trace_15 : decode cX8_trace 15 = .ok (.invokestatic 62, 3) := by decide +kernel
theorem dX8_trace_18 : decode cX8_trace 18 = .ok (.ifCond .eq 12, 3) := by decide +kernel
theorem dX8_trace_21 : decode cX8_trace 21 = .ok (.aload_n 0, 1) := by decide +kernel
theorem dX8_trace_22 : decode cX8_trace 22 = .ok (.getfield 49, 3) := by decide +kernel
theorem dX8_trace_25 : decode cX8_trace 25 = .ok (.iload_n 1, 1) := by decide +kernel
theorem dX8_trace_26 : decode cX8_trace 26 = .ok (.iaload, 1) := by decide +kernel
theorem dX8_trace_27 : decode cX8_trace 27 = .ok (.goto 5, 3) := by decide +kernel
theorem dX8_trace_30 : decode cX8_trace 30 = .ok (.ldc 35, 2) := by decide +kernel
theorem dX8_trace_32 : decode cX8_trace 32 = .ok (.ireturn, 1) := by decide +kernel
set_option maxRecDepth 20000 in
theorem ggX8_count_X8_kindOf : GoodIn wsX8_count wsX8_kindOf := goodIn_r _ [12, 13, 17, 18, 19, 20, 21, 22, 23, 24, 25, 26, 27, 28, 29, 30, 31, 32, 33, 34, 35, 36, 37, 38] (by decide +kernel) (by decide +kernel)
set_option maxRecDepth 20000 in
theorem gX8_count_X8_kindOf : GoodIn wsX8_count (wsV RX8 191 RX8 yX8_kindOf wsX8_kindOf) := goodIn_app (goodIn_of _ (by decide +kernel)) ggX8_count_X8_kindOf
set_option maxRecDepth 20000 in
theorem ggX8_count_X8_isOf : GoodIn wsX8_count wsX8_isOf := goodIn_r _ [16] (by decide +kernel) (by decide +kernel)
set_option maxRecDepth 20000 in
theorem gX8_count_X8_isOf : GoodIn wsX8_count (va_wsS RX8 194 yX8_isOf wsX8_isOf) := goodIn_app (goodIn_of _ (by decide +kernel)) ggX8_count_X8_isOf
theorem dX8_count_0 : decode cX8_count 0 = .ok (.aload_n 0, 1) := by decide +kernel
theorem dX8_count_1 : decode cX8_count 1 = .ok (.iconst 0, 1) := by decide +kernel
theorem dX8_count_2 : decode cX8_count 2 = .ok (.putfield 52, 3) := by decide +kernel
theorem dX8_count_5 : decode cX8_count 5 = .ok (.iconst 0, 1) := by decide +kernel
theorem dX8_count_6 : decode cX8_count 6 = .ok (.istore_n 2, 1) := by decide +kernel
theorem dX8_count_7 : decode cX8_count 7 = .ok (.iload_n 1, 1) := by decide +kernel
theorem dX8_count_8 : decode cX8_count 8 = .ok (.tableswitch 161 0 6 #[44, 77, 82, 82, 82, 122, 127], 44) := by decide +kernel
theorem dX8_count_52 : decode cX8_count 52 = .ok (.iconst 0, 1) := by decide +kernel
theorem dX8_count_53 : decode cX8_count 53 = .ok (.istore_n 3, 1) := by decide +kernel
theorem dX8_count_54 : decode cX8_count 54 = .ok (.iload_n 3, 1) := by decide +kernel
theorem dX8_count_55 : decode cX8_count 55 = .ok (.bipush 8, 2) := by decide +kernel
theorem dX8_count_57 : decode cX8_count 57 = .ok (.if_icmp .ge 26, 3) := by decide +kernel
theorem dX8_count_60 : decode cX8_count 60 = .ok (.iload_n 2, 1) := by decide +kernel
theorem dX8_count_61 : decode cX8_count 61 = .ok (.aload_n 0, 1) := by decide +kernel
theorem dX8_count_62 : decode cX8_count 62 = .ok (.getfield 7, 3) := by decide +kernel
theorem dX8_count_65 : decode cX8_count 65 = .ok (.iload_n 3, 1) := by decide +kernel
theorem dX8_count_66 : decode cX8_count 66 = .ok (.iaload, 1) := by decide +kernel
theorem dX8_count_67 : decode cX8_count 67 = .ok (.ifCond .lt 7, 3) := by decide +kernel
theorem dX8_count_70 : decode cX8_count 70 = .ok (.iconst 1, 1) := by decide +kernel
theorem dX8_count_71 : decode cX8_count 71 = .ok (.goto 4, 3) := by decide +kernel
theorem dX8_count_74 : decode cX8_count 74 = .ok (.iconst 0, 1) := by decide +kernel
theorem dX8_count_75 : decode cX8_count 75 = .ok (.iadd, 1) := by decide +kernel
theorem dX8_count_76 : decode cX8_count 76 = .ok (.istore_n 2, 1) := by decide +kernel
theorem dX8_count_77 : decode cX8_count 77 = .ok (.iinc 3 1, 3) := by decide +kernel
theorem dX8_count_80 : decode cX8_count 80 = .ok (.goto (-26), 3) := by decide +kernel
theorem dX8_count_83 : decode cX8_count 83 = .ok (.iload_n 2, 1) := by decide +kernel
theorem dX8_count_84 : decode cX8_count 84 = .ok (.ireturn, 1) := by decide +kernel
theorem dX8_count_85 : decode cX8_count 85 = .ok (.aload_n 0, 1) := by decide +kernel
theorem dX8_count_86 : decode cX8_count 86 = .ok (.getfield 95, 3) := by decide +kernel
theorem dX8_count_89 : decode cX8_count 89 = .ok (.ireturn, 1) := by decide +kernel
theorem dX8_count_90 : decode cX8_count 90 = .ok (.iconst 0, 1) := by decide +kernel
theorem dX8_count_91 : decode cX8_count 91 = .ok (.istore_n 3, 1) := by decide +kernel
theorem dX8_count_92 : decode cX8_count 92 = .ok (.iload_n 3, 1) := by decide +kernel
theorem dX8_count_93 : decode cX8_count 93 = .ok (.aload_n 0, 1) := by decide +kernel
theorem dX8_count_94 : decode cX8_count 94 = .ok (.getfield 95, 3) := by decide +kernel
theorem dX8_count_97 : decode cX8_count 97 = .ok (.if_icmp .ge 31, 3) := by decide +kernel
theorem dX8_count_100 : decode cX8_count 100 = .ok (.iload_n 2, 1) := by decide +kernel
theorem dX8_count_101 : decode cX8_count 101 = .ok (.aload_n 0, 1) := by decide +kernel
theorem dX8_count_102 : decode cX8_count 102 = .ok (.iload_n 3, 1) := by decide +kernel
theorem dX8_count_103 : decode cX8_count 103 = .ok (.invokevirtual 191, 3) := by decide +kernel
theorem dX8_count_106 : decode cX8_count 106 = .ok (.iload_n 1, 1) := by decide +kernel
theorem dX8_count_107 : decode cX8_count 107 = .ok (.iconst 1, 1) := by decide +kernel
theorem dX8_count_108 : decode cX8_count 108 = .ok (.isub, 1) := by decide +kernel
theorem dX8_count_109 : decode cX8_count 109 = .ok (.invokestatic 194, 3) := by decide +kernel
theorem dX8_count_112 : decode cX8_count 112 = .ok (.ifCond .eq 7, 3) := by decide +kernel
theorem dX8_count_115 : decode cX8_count 115 = .ok (.iconst 1, 1) := by decide +kernel
theorem dX8_count_116 : decode cX8_count 116 = .ok (.goto 4, 3) := by decide +kernel
theorem dX8_count_119 : decode cX8_count 119 = .ok (.iconst 0, 1) := by decide +kernel
theorem dX8_count_120 : decode cX8_count 120 = .ok (.iadd, 1) := by decide +kernel
theorem dX8_count_121 : decode cX8_count 121 = .ok (.istore_n 2, 1) := by decide +kernel
theorem dX8_count_122 : decode cX8_count 122 = .ok (.iinc 3 1, 3) := by decide +kernel
theorem dX8_count_125 : decode cX8_count 125 = .ok (.goto (-33), 3) := by decide +kernel
theorem dX8_count_128 : decode cX8_count 128 = .ok (.iload_n 2, 1) := by decide +kernel
theorem dX8_count_129 : decode cX8_count 129 = .ok (.ireturn, 1) := by decide +kernel
theorem dX8_count_130 : decode cX8_count 130 = .ok (.aload_n 0, 1) := by decide +kernel
theorem dX8_count_131 : decode cX8_count 131 = .ok (.getfield 116, 3) := by decide +kernel
theorem dX8_count_134 : decode cX8_count 134 = .ok (.ireturn, 1) := by decide +kernel
theorem dX8_count_135 : decode cX8_count 135 = .ok (.aload_n 0, 1) := by decide +kernel
theorem dX8_count_136 : decode cX8_count 136 = .ok (.getfield 36, 3) := by decide +kernel
theorem dX8_count_139 : decode cX8_count 139 = .ok (.iconst 0, 1) := by decide +kernel
theorem dX8_count_140 : decode cX8_count 140 = .ok (.iaload, 1) := by decide +kernel
theorem dX8_count_141 : decode cX8_count 141 = .ok (.ldc 35, 2) := by decide +kernel
theorem dX8_count_143 : decode cX8_count 143 = .ok (.if_icmp .ne 7, 3) := by decide +kernel
theorem dX8_count_146 : decode cX8_count 146 = .ok (.iconst 0, 1) := by decide +kernel
theorem dX8_count_147 : decode cX8_count 147 = .ok (.goto 4, 3) := by decide +kernel
theorem dX8_count_150 : decode cX8_count 150 = .ok (.iconst 1, 1) := by decide +kernel
theorem dX8_count_151 : decode cX8_count 151 = .ok (.aload_n 0, 1) := by decide +kernel
theorem dX8_count_152 : decode cX8_count 152 = .ok (.getfield 36, 3) := by decide +kernel
theorem dX8_count_155 : decode cX8_count 155 = .ok (.iconst 1, 1) := by decide +kernel
theorem dX8_count_156 : decode cX8_count 156 = .ok (.iaload, 1) := by decide +kernel
theorem dX8_count_157 : decode cX8_count 157 = .ok (.ldc 35, 2) := by decide +kernel
theorem dX8_count_159 : decode cX8_count 159 = .ok (.if_icmp .ne 7, 3) := by decide +kernel
theorem dX8_count_162 : decode cX8_count 162 = .ok (.iconst 0, 1) := by decide +kernel
theorem dX8_count_163 : decode cX8_count 163 = .ok (.goto 4, 3) := by decide +kernel
theorem dX8_count_166 : decode cX8_count 166 = .ok (.iconst 1, 1) := by decide +kernel
theorem dX8_count_167 : decode cX8_count 167 = .ok (.iadd, 1) := by decide +kernel
theorem dX8_count_168 : decode cX8_count 168 = .ok (.ireturn, 1) := by decide +kernel
theorem dX8_count_169 : decode cX8_count 169 = .ok (.ldc 72, 2) := by decide +kernel
theorem dX8_count_171 : decode cX8_count 171 = .ok (.ireturn, 1) := by decide +kernel
theorem dX8_status_0 : decode cX8_status 0 = .ok (.aload_n 0, 1) := by decide +kernel
theorem dX8_status_1 : decode cX8_status 1 = .ok (.iconst 0, 1) := by decide +kernel
theorem dX8_status_2 : decode cX8_status 2 = .ok (.putfield 52, 3) := by decide +kernel
theorem dX8_status_5 : decode cX8_status 5 = .ok (.aload_n 0, 1) := by decide +kernel
theorem dX8_status_6 : decode cX8_status 6 = .ok (.getfield 56, 3) := by decide +kernel
theorem dX8_status_9 : decode cX8_status 9 = .ok (.ireturn, 1) := by decide +kernel
theorem dJ6_bitCount_0f7a4_0 : decode cJ6_bitCount_0f7a4 0 = .ok (.iload_n 0, 1) := by decide +kernel
theorem dJ6_bitCount_0f7a4_1 : decode cJ6_bitCount_0f7a4 1 = .ok (.iload_n 0, 1) := by decide +kernel
theorem dJ6_bitCount_0f7a4_2 : decode cJ6_bitCount_0f7a4 2 = .ok (.iconst 1, 1) := by decide +kernel
theorem dJ6_bitCount_0f7a4_3 : decode cJ6_bitCount_0f7a4 3 = .ok (.iushr, 1) := by decide +kernel
theorem dJ6_bitCount_0f7a4_4 : decode cJ6_bitCount_0f7a4 4 = .ok (.ldc_w 265, 3) := by decide +kernel
theorem dJ6_bitCount_0f7a4_7 : decode cJ6_bitCount_0f7a4 7 = .ok (.iand, 1) := by decide +kernel
theorem dJ6_bitCount_0f7a4_8 : decode cJ6_bitCount_0f7a4 8 = .ok (.isub, 1) := by decide +kernel
theorem dJ6_bitCount_0f7a4_9 : decode cJ6_bitCount_0f7a4 9 = .ok (.istore_n 0, 1) := by decide +kernel
theorem dJ6_bitCount_0f7a4_10 : decode cJ6_bitCount_0f7a4 10 = .ok (.iload_n 0, 1) := by decide +kernel
theorem dJ6_bitCount_0f7a4_11 : decode cJ6_bitCount_0f7a4 11 = .ok (.ldc_w 266, 3) := by decide +kernel
theorem dJ6_bitCount_0f7a4_14 : decode cJ6_bitCount_0f7a4 14 = .ok (.iand, 1) := by decide +kernel
theorem dJ6_bitCount_0f7a4_15 : decode cJ6_bitCount_0f7a4 15 = .ok (.iload_n 0, 1) := by decide +kernel
theorem dJ6_bitCount_0f7a4_16 : decode cJ6_bitCount_0f7a4 16 = .ok (.iconst 2, 1) := by decide +kernel
theorem dJ6_bitCount_0f7a4_17 : decode cJ6_bitCount_0f7a4 17 = .ok (.iushr, 1) := by decide +kernel
theorem dJ6_bitCount_0f7a4_18 : decode cJ6_bitCount_0f7a4 18 = .ok (.ldc_w 266, 3) := by decide +kernel
theorem dJ6_bitCount_0f7a4_21 : decode cJ6_bitCount_0f7a4 21 = .ok (.iand, 1) := by decide +kernel
theorem dJ6_bitCount_0f7a4_22 : decode cJ6_bitCount_0f7a4 22 = .ok (.iadd, 1) := by decide +kernel
theorem dJ6_bitCount_0f7a4_23 : decode cJ6_bitCount_0f7a4 23 = .ok (.istore_n 0, 1) := by decide +kernel
theorem dJ6_bitCount_0f7a4_24 : decode cJ6_bitCount_0f7a4 24 = .ok (.iload_n 0, 1) := by decide +kernel
theorem dJ6_bitCount_0f7a4_25 : decode cJ6_bitCount_0f7a4 25 = .ok (.iload_n 0, 1) := by decide +kernel
theorem dJ6_bitCount_0f7a4_26 : decode cJ6_bitCount_0f7a4 26 = .ok (.iconst 4, 1) := by decide +kernel
theorem dJ6_bitCount_0f7a4_27 : decode cJ6_bitCount_0f7a4 27 = .ok (.iushr, 1) := by decide +kernel
theorem dJ6_bitCount_0f7a4_28 : decode cJ6_bitCount_0f7a4 28 = .ok (.iadd, 1) := by decide +kernel
theorem dJ6_bitCount_0f7a4_29 : decode cJ6_bitCount_0f7a4 29 = .ok (.ldc_w 267, 3) := by decide +kernel
theorem dJ6_bitCount_0f7a4_32 : decode cJ6_bitCount_0f7a4 32 = .ok (.iand, 1) := by decide +kernel
theorem dJ6_bitCount_0f7a4_33 : decode cJ6_bitCount_0f7a4 33 = .ok (.istore_n 0, 1) := by decide +kernel
theorem dJ6_bitCount_0f7a4_34 : decode cJ6_bitCount_0f7a4 34 = .ok (.iload_n 0, 1) := by decide +kernel
theorem dJ6_bitCount_0f7a4_35 : decode cJ6_bitCount_0f7a4 35 = .ok (.iload_n 0, 1) := by decide +kernel
theorem dJ6_bitCount_0f7a4_36 : decode cJ6_bitCount_0f7a4 36 = .ok (.bipush 8, 2) := by decide +kernel
theorem dJ6_bitCount_0f7a4_38 : decode cJ6_bitCount_0f7a4 38 = .ok (.iushr, 1) := by decide +kernel
theorem dJ6_bitCount_0f7a4_39 : decode cJ6_bitCount_0f7a4 39 = .ok (.iadd, 1) := by decide +kernel
theorem dJ6_bitCount_0f7a4_40 : decode cJ6_bitCount_0f7a4 40 = .ok (.istore_n 0, 1) := by decide +kernel
theorem dJ6_bitCount_0f7a4_41 : decode cJ6_bitCount_0f7a4 41 = .ok (.iload_n 0, 1) := by decide +kernel
theorem dJ6_bitCount_0f7a4_42 : decode cJ6_bitCount_0f7a4 42 = .ok (.iload_n 0, 1) := by decide +kernel
theorem dJ6_bitCount_0f7a4_43 : decode cJ6_bitCount_0f7a4 43 = .ok (.bipush 16, 2) := by decide +kernel
theorem dJ6_bitCount_0f7a4_45 : decode cJ6_bitCount_0f7a4 45 = .ok (.iushr, 1) := by decide +kernel
theorem dJ6_bitCount_0f7a4_46 : decode cJ6_bitCount_0f7a4 46 = .ok (.iadd, 1) := by decide +kernel
theorem dJ6_bitCount_0f7a4_47 : decode cJ6_bitCount_0f7a4 47 = .ok (.istore_n 0, 1) := by decide +kernel
theorem dJ6_bitCount_0f7a4_48 : decode cJ6_bitCount_0f7a4 48 = .ok (.iload_n 0, 1) := by decide +kernel
theorem dJ6_bitCount_0f7a4_49 : decode cJ6_bitCount_0f7a4 49 = .ok (.bipush 63, 2) := by decide +kernel
theorem dJ6_bitCount_0f7a4_51 : decode cJ6_bitCount_0f7a4 51 = .ok (.iand, 1) := by decide +kernel
theorem dJ6_bitCount_0f7a4_52 : decode cJ6_bitCount_0f7a4 52 = .ok (.ireturn, 1) := by decide +kernel
theorem dJ9_max_7cf53_0 : decode cJ9_max_7cf53 0 = .ok (.iload_n 0, 1) := by decide +kernel
theorem dJ9_max_7cf53_1 : decode cJ9_max_7cf53 1 = .ok (.iload_n 1, 1) := by decide +kernel
theorem dJ9_max_7cf53_2 : decode cJ9_max_7cf53 2 = .ok (.if_icmp .lt 7, 3) := by decide +kernel
theorem dJ9_max_7cf53_5 : decode cJ9_max_7cf53 5 = .ok (.iload_n 0, 1) := by decide +kernel
theorem dJ9_max_7cf53_6 : decode cJ9_max_7cf53 6 = .ok (.goto 4, 3) := by decide +kernel
theorem dJ9_max_7cf53_9 : decode cJ9_max_7cf53 9 = .ok (.iload_n 1, 1) := by decide +kernel
theorem dJ9_max_7cf53_10 : decode cJ9_max_7cf53 10 = .ok (.ireturn, 1) := by decide +kernel
theorem dJ9_min_7cf53_0 : decode cJ9_min_7cf53 0 = .ok (.iload_n 0, 1) := by decide +kernel
theorem dJ9_min_7cf53_1 : decode cJ9_min_7cf53 1 = .ok (.iload_n 1, 1) := by decide +kernel
theorem dJ9_min_7cf53_2 : decode cJ9_min_7cf53 2 = .ok (.if_icmp .gt 7, 3) := by decide +kernel
theorem dJ9_min_7cf53_5 : decode cJ9_min_7cf53 5 = .ok (.iload_n 0, 1) := by decide +kernel
theorem dJ9_min_7cf53_6 : decode cJ9_min_7cf53 6 = .ok (.goto 4, 3) := by decide +kernel
theorem dJ9_min_7cf53_9 : decode cJ9_min_7cf53 9 = .ok (.iload_n 1, 1) := by decide +kernel
theorem dJ9_min_7cf53_10 : decode cJ9_min_7cf53 10 = .ok (.ireturn, 1) := by decide +kernel
theorem dJ7_fill_d0a16_0 : decode cJ7_fill_d0a16 0 = .ok (.iconst 0, 1) := by decide +kernel
theorem dJ7_fill_d0a16_1 : decode cJ7_fill_d0a16 1 = .ok (.istore_n 3, 1) := by decide +kernel
theorem dJ7_fill_d0a16_2 : decode cJ7_fill_d0a16 2 = .ok (.aload_n 0, 1) := by decide +kernel
theorem dJ7_fill_d0a16_3 : decode cJ7_fill_d0a16 3 = .ok (.arraylength, 1) := by decide +kernel
theorem dJ7_fill_d0a16_4 : decode cJ7_fill_d0a16 4 = .ok (.istore 4, 2) := by decide +kernel
theorem dJ7_fill_d0a16_6 : decode cJ7_fill_d0a16 6 = .ok (.iload_n 3, 1) := by decide +kernel
theorem dJ7_fill_d0a16_7 : decode cJ7_fill_d0a16 7 = .ok (.iload 4, 2) := by decide +kernel
theorem dJ7_fill_d0a16_9 : decode cJ7_fill_d0a16 9 = .ok (.if_icmp .ge 13, 3) := by decide +kernel
theorem dJ7_fill_d0a16_12 : decode cJ7_fill_d0a16 12 = .ok (.aload_n 0, 1) := by decide +kernel
theorem dJ7_fill_d0a16_13 : decode cJ7_fill_d0a16 13 = .ok (.iload_n 3, 1) := by decide +kernel
theorem dJ7_fill_d0a16_14 : decode cJ7_fill_d0a16 14 = .ok (.lload_n 1, 1) := by decide +kernel
theorem dJ7_fill_d0a16_15 : decode cJ7_fill_d0a16 15 = .ok (.lastore, 1) := by decide +kernel
theorem dJ7_fill_d0a16_16 : decode cJ7_fill_d0a16 16 = .ok (.iinc 3 1, 3) := by decide +kernel
theorem dJ7_fill_d0a16_19 : decode cJ7_fill_d0a16 19 = .ok (.goto (-13), 3) := by decide +kernel
theorem dJ7_fill_d0a16_22 : decode cJ7_fill_d0a16 22 = .ok (.return_, 1) := by decide +kernel
theorem dJ7_fill_53178_0 : decode cJ7_fill_53178 0 = .ok (.iconst 0, 1) := by decide +kernel
theorem dJ7_fill_53178_1 : decode cJ7_fill_53178 1 = .ok (.istore_n 2, 1) := by decide +kernel
theorem dJ7_fill_53178_2 : decode cJ7_fill_53178 2 = .ok (.aload_n 0, 1) := by decide +kernel
theorem dJ7_fill_53178_3 : decode cJ7_fill_53178 3 = .ok (.arraylength, 1) := by decide +kernel
theorem dJ7_fill_53178_4 : decode cJ7_fill_53178 4 = .ok (.istore_n 3, 1) := by decide +kernel
theorem dJ7_fill_53178_5 : decode cJ7_fill_53178 5 = .ok (.iload_n 2, 1) := by decide +kernel
theorem dJ7_fill_53178_6 : decode cJ7_fill_53178 6 = .ok (.iload_n 3, 1) := by decide +kernel
theorem dJ7_fill_53178_7 : decode cJ7_fill_53178 7 = .ok (.if_icmp .ge 13, 3) := by decide +kernel
theorem dJ7_fill_53178_10 : decode cJ7_fill_53178 10 = .ok (.aload_n 0, 1) := by decide +kernel
theorem dJ7_fill_53178_11 : decode cJ7_fill_53178 11 = .ok (.iload_n 2, 1) := by decide +kernel
theorem dJ7_fill_53178_12 : decode cJ7_fill_53178 12 = .ok (.iload_n 1, 1) := by decide +kernel
theorem dJ7_fill_53178_13 : decode cJ7_fill_53178 13 = .ok (.iastore, 1) := by decide +kernel
theorem dJ7_fill_53178_14 : decode cJ7_fill_53178 14 = .ok (.iinc 2 1, 3) := by decide +kernel
theorem dJ7_fill_53178_17 : decode cJ7_fill_53178 17 = .ok (.goto (-12), 3) := by decide +kernel
theorem dJ7_fill_53178_20 : decode cJ7_fill_53178 20 = .ok (.return_, 1) := by decide +kernel
end
section
/-! the world by places: cell k lies at the address ad k; ints, longs and references by (place of the cell, slot) -/
abbrev ih_Sg : Type := (Nat → Nat → Int32) × (Nat → Nat → Int64) × (Nat → Nat → Option Nat)
abbrev ih_Sh : Type := (Nat → Nat) × (Nat → Nat) × Nat
abbrev ih_Wd : Type := va_G × (Nat → ClassId) × (Nat → Nat)
def ih_rv (ad : Nat → Nat) (r : Option Nat) : Value := va_rf (r.map ad)
theorem ih_rv_some {ad : Nat → Nat} {i : Nat} : ih_rv ad (some i) = .ref (ad i) := rfl
/-- which fields of a class are references -/
def ih_fl (kd : Nat) : List Bool := match kd with
  | 0 => [true, false]
  | 1 => [true, true]
  | 2 => [true, true, true, false, true, true, true, true, true]
  | 3 => [true, true, false, false, false, false]
  | 4 => [true, true, true, true, false, true, true, false]
  | 5 => [true, false, false, false]
  | 6 => [true, false]
  | 7 => [true, true, false, true, true, true, true, true, false]
  | 8 => [false, false, true, true, true, false, true, false, true, true, true, true, true, true, true, false, false, false, false, true, true, false]
  | _ => []
def ih_fs (ad : Nat → Nat) (kd : Nat) (I : Nat → Int32) (R : Nat → Option Nat) : List Value := (List.range (ih_fl kd).length).map (fun j => if (ih_fl kd).getD j false = true then ih_rv ad (R j) else .int (I j))
theorem ih_fs_get {ad : Nat → Nat} {kd : Nat} {I : Nat → Int32} {R : Nat → Option Nat} {j : Nat} {b : Bool} (h : (ih_fl kd)[j]? = some b) : (ih_fs ad kd I R)[j]? = some (if b = true then ih_rv ad (R j) else .int (I j)) := by
  have hj : j < (ih_fl kd).length := by
    rcases Nat.lt_or_ge j (ih_fl kd).length with q | q
    · exact q
    · rw [List.getElem?_eq_none q] at h; cases h
  have hb : (ih_fl kd).getD j false = b := by rw [List.getD_eq_getElem?_getD, h]; rfl
  rw [ih_fs, List.getElem?_map, List.getElem?_range hj, Option.map_some, hb]
theorem ih_fs_len {ad : Nat → Nat} {kd : Nat} {I : Nat → Int32} {R : Nat → Option Nat} : (ih_fs ad kd I R).length = (ih_fl kd).length := by
  rw [ih_fs, List.length_map, List.length_range]
theorem ih_fs_ext {ad : Nat → Nat} {kd : Nat} {I I' : Nat → Int32} {R R' : Nat → Option Nat} {j : Nat} {v : Value} (hj : j < (ih_fl kd).length)
    (hv : (if (ih_fl kd).getD j false = true then ih_rv ad (R' j) else .int (I' j)) = v) (ho : ∀ i, i ≠ j → I' i = I i ∧ R' i = R i) : (ih_fs ad kd I R).set j v = ih_fs ad kd I' R' := by
  apply List.ext_getElem?
  intro i
  rw [List.getElem?_set, ih_fs_len]
  rcases Nat.lt_or_ge i (ih_fl kd).length with hi | hi
  · by_cases hij : j = i
    · subst hij
      rw [if_pos rfl, if_pos hj, ih_fs, List.getElem?_map, List.getElem?_range hj, Option.map_some, hv]
    · rw [if_neg hij, ih_fs, ih_fs, List.getElem?_map, List.getElem?_map, List.getElem?_range hi, Option.map_some, Option.map_some, (ho i (fun h => hij h.symm)).1, (ho i (fun h => hij h.symm)).2]
  · have h1 : (ih_fs ad kd I R)[i]? = none := List.getElem?_eq_none (by rw [ih_fs_len]; exact hi)
    have h2 : (ih_fs ad kd I' R')[i]? = none := List.getElem?_eq_none (by rw [ih_fs_len]; exact hi)
    by_cases hij : j = i
    · subst hij; omega
    · rw [if_neg hij, h1, h2]
def ih_ce (w : ih_Wd) (kd ln : Nat) (I : Nat → Int32) (J : Nat → Int64) (R : Nat → Option Nat) : va_E :=
  if kd < 9 then .inr (kd, ih_fs w.2.2 kd I R) else if kd = 9 then .inl (w.2.1 0, ln, .inl I) else if kd = 10 then .inl (w.2.1 1, ln, .inr (.inl J)) else .inl (w.2.1 (kd - 9), ln, .inr (.inr (.inr (.inr (fun j => (R j).map w.2.2)))))
def ih_wl (w : ih_Wd) (sh : ih_Sh) (S : ih_Sg) : va_W := (List.range sh.2.2).map (fun k => (w.2.2 k, ih_ce w (sh.1 k) (sh.2.1 k) (S.1 k) (S.2.1 k) (S.2.2 k)))
theorem ih_wl_get {w : ih_Wd} {sh : ih_Sh} {S : ih_Sg} {k : Nat} (h : k < sh.2.2) : (ih_wl w sh S)[k]? = some (w.2.2 k, ih_ce w (sh.1 k) (sh.2.1 k) (S.1 k) (S.2.1 k) (S.2.2 k)) := by
  rw [ih_wl, List.getElem?_map, List.getElem?_range h, Option.map_some]
theorem ih_wl_len {w : ih_Wd} {sh : ih_Sh} {S : ih_Sg} : (ih_wl w sh S).length = sh.2.2 := by
  rw [ih_wl, List.length_map, List.length_range]
theorem ih_wl_set {w : ih_Wd} {sh : ih_Sh} {S S' : ih_Sg} {k : Nat} {e : va_E} (he : e = ih_ce w (sh.1 k) (sh.2.1 k) (S'.1 k) (S'.2.1 k) (S'.2.2 k)) (ho : ∀ i, i ≠ k → S'.1 i = S.1 i ∧ S'.2.1 i = S.2.1 i ∧ S'.2.2 i = S.2.2 i) : (ih_wl w sh S).set k (w.2.2 k, e) = ih_wl w sh S' := by
  apply List.ext_getElem?
  intro i
  rw [List.getElem?_set, ih_wl_len]
  rcases Nat.lt_or_ge i sh.2.2 with hi | hi
  · by_cases hik : k = i
    · subst hik
      rw [if_pos rfl, if_pos hi, ih_wl_get hi, he]
    · obtain ⟨h1, h2, h3⟩ := ho i (fun h => hik h.symm)
      rw [if_neg hik, ih_wl_get hi, ih_wl_get hi, h1, h2, h3]
  · have h1 : (ih_wl w sh S)[i]? = none := List.getElem?_eq_none (by rw [ih_wl_len]; exact hi)
    have h2 : (ih_wl w sh S')[i]? = none := List.getElem?_eq_none (by rw [ih_wl_len]; exact hi)
    by_cases hik : k = i
    · subst hik; rw [if_pos rfl, if_neg (by omega), h2]
    · rw [if_neg hik, h1, h2]
/-- one place of a table of tables -/
def ih_u2 {α : Type} (f : Nat → Nat → α) (k j : Nat) (v : α) : Nat → Nat → α := fun a b => if a = k ∧ b = j then v else f a b
/-- one row of a table of tables -/
def ih_u1 {α : Type} (f : Nat → Nat → α) (k : Nat) (g : Nat → α) : Nat → Nat → α := fun a b => if a = k then g b else f a b
theorem ih_u2_s {α : Type} {f : Nat → Nat → α} {k j : Nat} {v : α} : ih_u2 f k j v k j = v := by simp [ih_u2]
theorem ih_u2_k {α : Type} {f : Nat → Nat → α} {k j a b : Nat} {v : α} (h : a ≠ k) : ih_u2 f k j v a b = f a b := by simp [ih_u2, h]
theorem ih_u2_j {α : Type} {f : Nat → Nat → α} {k j a b : Nat} {v : α} (h : b ≠ j) : ih_u2 f k j v a b = f a b := by simp [ih_u2, h]
theorem ih_u2_row {α : Type} {f : Nat → Nat → α} {k j a : Nat} {v : α} (h : a ≠ k) : ih_u2 f k j v a = f a := by funext b; simp [ih_u2, h]
theorem ih_u1_row {α : Type} {f : Nat → Nat → α} {k a : Nat} {g : Nat → α} (h : a ≠ k) : ih_u1 f k g a = f a := by funext b; simp [ih_u1, h]
theorem ih_u1_s {α : Type} {f : Nat → Nat → α} {k : Nat} {g : Nat → α} : ih_u1 f k g k = g := by funext b; simp [ih_u1]
def ih_sI (S : ih_Sg) (k j : Nat) (v : Int32) : ih_Sg := (ih_u2 S.1 k j v, S.2.1, S.2.2)
def ih_sJ (S : ih_Sg) (k j : Nat) (v : Int64) : ih_Sg := (S.1, ih_u2 S.2.1 k j v, S.2.2)
def ih_sR (S : ih_Sg) (k j : Nat) (v : Option Nat) : ih_Sg := (S.1, S.2.1, ih_u2 S.2.2 k j v)
def ih_sA (S : ih_Sg) (k : Nat) (g : Nat → Int32) : ih_Sg := (ih_u1 S.1 k g, S.2.1, S.2.2)
def ih_sL (S : ih_Sg) (k : Nat) (g : Nat → Int64) : ih_Sg := (S.1, ih_u1 S.2.1 k g, S.2.2)
/-- what the tables say: classes, array classes, the links between nest mates -/
def ih_K (w : ih_Wd) (U : State) : Prop := va_K w.1 vwCl [(w.2.1 0, .int), (w.2.1 1, .long), (w.2.1 2, .object RX5), (w.2.1 3, .object RX6)] U ∧
  va_Nw (.methodLinkNest RX7 15 yX5_init RX7) U ∧ va_Nw (.methodLinkNest RX7 22 yX6_init RX7) U ∧ va_Nw (.methodLinkNest RX7 61 yX0_init RX7) U ∧ va_Nw (.methodLinkNest RX3 43 yX7_within RX7) U ∧ va_Nw (.methodLinkNest RX7 217 yX0_sizeOf RX7) U ∧ va_Nw (.methodLinkNest RX7 221 yX0_markOf RX7) U
theorem ih_K.warm {w : ih_Wd} {s U : State} (hW : s.WarmedH U.vm) (h : ih_K w s) : ih_K w U := by
  obtain ⟨h0, h1, h2, h3, h4, h5, h6⟩ := h
  exact ⟨va_K.moved hW.alike h0, va_Nw.warmM hW h1, va_Nw.warmM hW h2, va_Nw.warmM hW h3, va_Nw.warmM hW h4, va_Nw.warmM hW h5, va_Nw.warmM hW h6⟩
theorem ih_K.same {w : ih_Wd} {u U : State} (hv : u.vm = U.vm) (h : ih_K w u) : ih_K w U := by
  obtain ⟨h0, h1, h2, h3, h4, h5, h6⟩ := h
  exact ⟨va_K.moved (by rw [hv]; exact Vm.Alike.refl _) h0, va_Nw.same rfl hv h1, va_Nw.same rfl hv h2, va_Nw.same rfl hv h3, va_Nw.same rfl hv h4, va_Nw.same rfl hv h5, va_Nw.same rfl hv h6⟩
/-- which cells a method may change -/
def ih_A (w : ih_Wd) (sh : ih_Sh) (sz : Nat) : Nat → Prop := fun q => (∃ k, k < sh.2.2 ∧ q = w.2.2 k) ∨ sz ≤ q
theorem ih_A_D {w : ih_Wd} {sh : ih_Sh} {S : ih_Sg} {sz : Nat} {B : Nat → Prop} (h : va_D B (ih_wl w sh S)) : va_D (ih_A w sh sz) (ih_wl w sh S) := by
  refine ⟨h.1, fun k q hk => ?_⟩
  rcases Nat.lt_or_ge k sh.2.2 with hi | hi
  · rw [ih_wl_get hi] at hk
    cases hk
    exact Or.inl ⟨k, hi, rfl⟩
  · rw [List.getElem?_eq_none (by rw [ih_wl_len]; exact hi)] at hk
    cases hk
/-- the machine's parts: program, launch, environment, room, the method's start, its id, its arguments, what lies below, the method, its code -/
abbrev ih_Cx : Type := Program × Launch × Env × Room × State × MethodId × Array Value × List Frame × Method × Code
def ih_W (x : ih_Cx) (H : Heap) (locs : List Loc) (cells slots : Nat) (Q : State → Prop) (g : JFrame) : Prop := W x.1 x.2.1 x.2.2.1 x.2.2.2.1 x.2.2.2.2.1 x.2.2.2.2.2.1 x.2.2.2.2.2.2.1 x.2.2.2.2.2.2.2.1 x.2.2.2.2.2.2.2.2.1 x.2.2.2.2.2.2.2.2.2 H locs cells slots Q g
def ih_F (x : ih_Cx) (pc : Nat) (ls : Array Slot) (st : List Value) : JFrame := F0 x.2.2.2.2.2.1 pc ls st
/-- the machine at pc with locals lv, stack st and the world S comes to Q -/
def ih_Mw (x : ih_Cx) (w : ih_Wd) (sh : ih_Sh) (A : Nat → Prop) (Q : State → Prop) (nL cells slots pc : Nat) (lv : List (Nat × Value)) (st : List Value) (S : ih_Sg) : Prop :=
  ∀ (H : Heap) (locs : List Loc) (ls : Array Slot), va_P w.1 vwCl (ih_wl w sh S) H → va_D A (ih_wl w sh S) → va_S A x.2.2.2.2.1.heap H locs → lv_has ls nL lv → ih_W x H locs cells slots Q (ih_F x pc ls st)
/-- what is known all along a method's body -/
def ih_Ok (x : ih_Cx) (w : ih_Wd) (A : Nat → Prop) (cc : ByteArray) (nL : Nat) (own : String) (Ts : List Cond) (rm : Room) (ret : Option FieldType) : Prop :=
  CallFix x.1 x.2.2.2.2.2.1 x.2.2.2.2.2.2.2.2.2 cc nL x.2.2.2.2.1 x.2.2.2.2.2.2.1 Ts own ∧ ih_K w x.2.2.2.2.1 ∧ (∀ q, x.2.2.2.2.1.heap.size ≤ q → A q) ∧ x.2.2.2.2.2.2.2.2.1.locks = false ∧ x.2.2.2.1 = rm ∧ x.2.2.2.2.2.2.2.2.1.sig.returnType = ret
end
section
/-! a row an instruction, over ih_Mw -/
section IhRows
variable {x : ih_Cx} {w : ih_Wd} {sh : ih_Sh} {A : Nat → Prop} {Q : State → Prop} {cc : ByteArray} {nL : Nat} {own : String} {Ts : List Cond} {rm : Room} {ret : Option FieldType} {cells slots pc : Nat} {lv : List (Nat × Value)} {st : List Value} {S : ih_Sg}
theorem s_iconst (C : ih_Ok x w A cc nL own Ts rm ret) {n : Int} {v : Int32} (hd : decode cc pc = .ok (.iconst n, 1)) (hv : Int32.ofInt n = v) (k : ih_Mw x w sh A Q nL cells slots (pc + 1) lv (.int v :: st) S) : ih_Mw x w sh A Q nL cells slots pc lv st S := fun H locs ls hP hD hS hl => lv_iconst C.1.1 C.1.2.1 hd hv (k H locs ls hP hD hS hl)
theorem s_bipush (C : ih_Ok x w A cc nL own Ts rm ret) {n : Int} {v : Int32} (hd : decode cc pc = .ok (.bipush n, 2)) (hv : (Int8.ofInt n).toInt32 = v) (k : ih_Mw x w sh A Q nL cells slots (pc + 2) lv (.int v :: st) S) : ih_Mw x w sh A Q nL cells slots pc lv st S := fun H locs ls hP hD hS hl => lv_bipush C.1.1 C.1.2.1 hd hv (k H locs ls hP hD hS hl)
theorem s_sipush (C : ih_Ok x w A cc nL own Ts rm ret) {n : Int} {v : Int32} (hd : decode cc pc = .ok (.sipush n, 3)) (hv : (Int16.ofInt n).toInt32 = v) (k : ih_Mw x w sh A Q nL cells slots (pc + 3) lv (.int v :: st) S) : ih_Mw x w sh A Q nL cells slots pc lv st S := fun H locs ls hP hD hS hl => lv_sipush C.1.1 C.1.2.1 hd hv (k H locs ls hP hD hS hl)
theorem s_lconst (C : ih_Ok x w A cc nL own Ts rm ret) {n : Fin 2} {v : Int64} (hd : decode cc pc = .ok (.lconst n, 1)) (hv : Int64.ofNat (n : Nat) = v) (k : ih_Mw x w sh A Q nL cells slots (pc + 1) lv (.long v :: st) S) : ih_Mw x w sh A Q nL cells slots pc lv st S := fun H locs ls hP hD hS hl => lv_lconst C.1.1 C.1.2.1 hd hv (k H locs ls hP hD hS hl)
theorem s_iload_n (C : ih_Ok x w A cc nL own Ts rm ret) {kk : Fin 4} (i : Nat) {v : Int32} (hd : decode cc pc = .ok (.iload_n kk, 1)) (hl0 : lv[i]? = some ((kk : Nat), .int v)) (k : ih_Mw x w sh A Q nL cells slots (pc + 1) lv (.int v :: st) S) : ih_Mw x w sh A Q nL cells slots pc lv st S := fun H locs ls hP hD hS hl => lv_iload_n C.1.1 C.1.2.1 hd rfl (lv_at hl i hl0) (k H locs ls hP hD hS hl)
theorem s_iload (C : ih_Ok x w A cc nL own Ts rm ret) {j : Nat} (i : Nat) {v : Int32} (hd : decode cc pc = .ok (.iload j, 2)) (hl0 : lv[i]? = some (j, .int v)) (k : ih_Mw x w sh A Q nL cells slots (pc + 2) lv (.int v :: st) S) : ih_Mw x w sh A Q nL cells slots pc lv st S := fun H locs ls hP hD hS hl => lv_iload C.1.1 C.1.2.1 hd (lv_at hl i hl0) (k H locs ls hP hD hS hl)
theorem s_istore_n (C : ih_Ok x w A cc nL own Ts rm ret) {kk : Fin 4} {i : Nat} {v : Int32} {lv' : List (Nat × Value)} (hd : decode cc pc = .ok (.istore_n kk, 1)) (hi : (kk : Nat) = i) (hn : i < nL) (hl0 : (i, Value.int v) :: lv.filter (fun q => !(q.1 == i) && !(q.1 + 1 == i && q.2.category == 2)) = lv') (k : ih_Mw x w sh A Q nL cells slots (pc + 1) lv' st S) : ih_Mw x w sh A Q nL cells slots pc lv (.int v :: st) S := fun H locs ls hP hD hS hl => lv_istore_n C.1.1 C.1.2.1 hd hi hl hn hl0 (fun ls' hl' => k H locs ls' hP hD hS hl')
theorem s_istore (C : ih_Ok x w A cc nL own Ts rm ret) {i : Nat} {v : Int32} {lv' : List (Nat × Value)} (hd : decode cc pc = .ok (.istore i, 2)) (hn : i < nL) (hl0 : (i, Value.int v) :: lv.filter (fun q => !(q.1 == i) && !(q.1 + 1 == i && q.2.category == 2)) = lv') (k : ih_Mw x w sh A Q nL cells slots (pc + 2) lv' st S) : ih_Mw x w sh A Q nL cells slots pc lv (.int v :: st) S := fun H locs ls hP hD hS hl => lv_istore C.1.1 C.1.2.1 hd hl hn hl0 (fun ls' hl' => k H locs ls' hP hD hS hl')
theorem s_lload_n (C : ih_Ok x w A cc nL own Ts rm ret) {kk : Fin 4} (i : Nat) {v : Int64} (hd : decode cc pc = .ok (.lload_n kk, 1)) (hl0 : lv[i]? = some ((kk : Nat), .long v)) (k : ih_Mw x w sh A Q nL cells slots (pc + 1) lv (.long v :: st) S) : ih_Mw x w sh A Q nL cells slots pc lv st S := fun H locs ls hP hD hS hl => lv_lload_n C.1.1 C.1.2.1 hd rfl (lv_at hl i hl0) (k H locs ls hP hD hS hl)
theorem s_lload (C : ih_Ok x w A cc nL own Ts rm ret) {j : Nat} (i : Nat) {v : Int64} (hd : decode cc pc = .ok (.lload j, 2)) (hl0 : lv[i]? = some (j, .long v)) (k : ih_Mw x w sh A Q nL cells slots (pc + 2) lv (.long v :: st) S) : ih_Mw x w sh A Q nL cells slots pc lv st S := fun H locs ls hP hD hS hl => lv_lload C.1.1 C.1.2.1 hd (lv_at hl i hl0) (k H locs ls hP hD hS hl)
theorem s_lstore_n (C : ih_Ok x w A cc nL own Ts rm ret) {kk : Fin 4} {i : Nat} {v : Int64} {lv' : List (Nat × Value)} (hd : decode cc pc = .ok (.lstore_n kk, 1)) (hi : (kk : Nat) = i) (hn : i + 1 < nL) (hl0 : (i, Value.long v) :: lv.filter (fun q => !(q.1 == i) && (!(q.1 == i + 1) && !(q.1 + 1 == i && q.2.category == 2))) = lv') (k : ih_Mw x w sh A Q nL cells slots (pc + 1) lv' st S) : ih_Mw x w sh A Q nL cells slots pc lv (.long v :: st) S := fun H locs ls hP hD hS hl => lv_lstore_n C.1.1 C.1.2.1 hd hi hl hn hl0 (fun ls' hl' => k H locs ls' hP hD hS hl')
theorem s_lstore (C : ih_Ok x w A cc nL own Ts rm ret) {i : Nat} {v : Int64} {lv' : List (Nat × Value)} (hd : decode cc pc = .ok (.lstore i, 2)) (hn : i + 1 < nL) (hl0 : (i, Value.long v) :: lv.filter (fun q => !(q.1 == i) && (!(q.1 == i + 1) && !(q.1 + 1 == i && q.2.category == 2))) = lv') (k : ih_Mw x w sh A Q nL cells slots (pc + 2) lv' st S) : ih_Mw x w sh A Q nL cells slots pc lv (.long v :: st) S := fun H locs ls hP hD hS hl => lv_lstore C.1.1 C.1.2.1 hd hl hn hl0 (fun ls' hl' => k H locs ls' hP hD hS hl')
theorem s_aload_n (C : ih_Ok x w A cc nL own Ts rm ret) {kk : Fin 4} (i : Nat) {v : Nat} (hd : decode cc pc = .ok (.aload_n kk, 1)) (hl0 : lv[i]? = some ((kk : Nat), .ref v)) (k : ih_Mw x w sh A Q nL cells slots (pc + 1) lv (.ref v :: st) S) : ih_Mw x w sh A Q nL cells slots pc lv st S := fun H locs ls hP hD hS hl => lv_aload_n C.1.1 C.1.2.1 hd rfl (lv_at hl i hl0) (k H locs ls hP hD hS hl)
theorem s_aload (C : ih_Ok x w A cc nL own Ts rm ret) {j : Nat} (i : Nat) {v : Nat} (hd : decode cc pc = .ok (.aload j, 2)) (hl0 : lv[i]? = some (j, .ref v)) (k : ih_Mw x w sh A Q nL cells slots (pc + 2) lv (.ref v :: st) S) : ih_Mw x w sh A Q nL cells slots pc lv st S := fun H locs ls hP hD hS hl => lv_aload C.1.1 C.1.2.1 hd (lv_at hl i hl0) (k H locs ls hP hD hS hl)
theorem s_astore_n (C : ih_Ok x w A cc nL own Ts rm ret) {kk : Fin 4} {i : Nat} {v : Nat} {lv' : List (Nat × Value)} (hd : decode cc pc = .ok (.astore_n kk, 1)) (hi : (kk : Nat) = i) (hn : i < nL) (hl0 : (i, Value.ref v) :: lv.filter (fun q => !(q.1 == i) && !(q.1 + 1 == i && q.2.category == 2)) = lv') (k : ih_Mw x w sh A Q nL cells slots (pc + 1) lv' st S) : ih_Mw x w sh A Q nL cells slots pc lv (.ref v :: st) S := fun H locs ls hP hD hS hl => lv_astore_n C.1.1 C.1.2.1 hd hi hl hn hl0 (fun ls' hl' => k H locs ls' hP hD hS hl')
theorem s_astore (C : ih_Ok x w A cc nL own Ts rm ret) {i : Nat} {v : Nat} {lv' : List (Nat × Value)} (hd : decode cc pc = .ok (.astore i, 2)) (hn : i < nL) (hl0 : (i, Value.ref v) :: lv.filter (fun q => !(q.1 == i) && !(q.1 + 1 == i && q.2.category == 2)) = lv') (k : ih_Mw x w sh A Q nL cells slots (pc + 2) lv' st S) : ih_Mw x w sh A Q nL cells slots pc lv (.ref v :: st) S := fun H locs ls hP hD hS hl => lv_astore C.1.1 C.1.2.1 hd hl hn hl0 (fun ls' hl' => k H locs ls' hP hD hS hl')
theorem s_iinc (C : ih_Ok x w A cc nL own Ts rm ret) (j : Nat) {i : Nat} {n : Int} {v u : Int32} {lv' : List (Nat × Value)} (hd : decode cc pc = .ok (.iinc i n, 3)) (hk : lv[j]? = some (i, .int v)) (hv : v + Int32.ofInt n = u) (hn : i < nL) (hl0 : (i, Value.int u) :: lv.filter (fun q => !(q.1 == i) && !(q.1 + 1 == i && q.2.category == 2)) = lv') (k : ih_Mw x w sh A Q nL cells slots (pc + 3) lv' st S) : ih_Mw x w sh A Q nL cells slots pc lv st S := fun H locs ls hP hD hS hl => lv_iinc C.1.1 C.1.2.1 hd hl hk hv hn hl0 (fun ls' hl' => k H locs ls' hP hD hS hl')
theorem s_iadd (C : ih_Ok x w A cc nL own Ts rm ret) {a b : Int32} (hd : decode cc pc = .ok (.iadd, 1))  (k : ih_Mw x w sh A Q nL cells slots (pc + 1) lv (.int (a + b) :: st) S) : ih_Mw x w sh A Q nL cells slots pc lv (.int b :: .int a :: st) S := fun H locs ls hP hD hS hl => lv_iadd C.1.1 C.1.2.1 hd  (k H locs ls hP hD hS hl)
theorem s_isub (C : ih_Ok x w A cc nL own Ts rm ret) {a b : Int32} (hd : decode cc pc = .ok (.isub, 1))  (k : ih_Mw x w sh A Q nL cells slots (pc + 1) lv (.int (a - b) :: st) S) : ih_Mw x w sh A Q nL cells slots pc lv (.int b :: .int a :: st) S := fun H locs ls hP hD hS hl => lv_isub C.1.1 C.1.2.1 hd  (k H locs ls hP hD hS hl)
theorem s_imul (C : ih_Ok x w A cc nL own Ts rm ret) {a b : Int32} (hd : decode cc pc = .ok (.imul, 1))  (k : ih_Mw x w sh A Q nL cells slots (pc + 1) lv (.int (a * b) :: st) S) : ih_Mw x w sh A Q nL cells slots pc lv (.int b :: .int a :: st) S := fun H locs ls hP hD hS hl => lv_imul C.1.1 C.1.2.1 hd  (k H locs ls hP hD hS hl)
theorem s_iand (C : ih_Ok x w A cc nL own Ts rm ret) {a b : Int32} (hd : decode cc pc = .ok (.iand, 1))  (k : ih_Mw x w sh A Q nL cells slots (pc + 1) lv (.int (a &&& b) :: st) S) : ih_Mw x w sh A Q nL cells slots pc lv (.int b :: .int a :: st) S := fun H locs ls hP hD hS hl => lv_iand C.1.1 C.1.2.1 hd  (k H locs ls hP hD hS hl)
theorem s_ior (C : ih_Ok x w A cc nL own Ts rm ret) {a b : Int32} (hd : decode cc pc = .ok (.ior, 1))  (k : ih_Mw x w sh A Q nL cells slots (pc + 1) lv (.int (a ||| b) :: st) S) : ih_Mw x w sh A Q nL cells slots pc lv (.int b :: .int a :: st) S := fun H locs ls hP hD hS hl => lv_ior C.1.1 C.1.2.1 hd  (k H locs ls hP hD hS hl)
theorem s_ishl (C : ih_Ok x w A cc nL own Ts rm ret) {a b : Int32} (hd : decode cc pc = .ok (.ishl, 1))  (k : ih_Mw x w sh A Q nL cells slots (pc + 1) lv (.int (a <<< (b &&& 31)) :: st) S) : ih_Mw x w sh A Q nL cells slots pc lv (.int b :: .int a :: st) S := fun H locs ls hP hD hS hl => lv_ishl C.1.1 C.1.2.1 hd  (k H locs ls hP hD hS hl)
theorem s_ishr (C : ih_Ok x w A cc nL own Ts rm ret) {a b : Int32} (hd : decode cc pc = .ok (.ishr, 1))  (k : ih_Mw x w sh A Q nL cells slots (pc + 1) lv (.int (a >>> (b &&& 31)) :: st) S) : ih_Mw x w sh A Q nL cells slots pc lv (.int b :: .int a :: st) S := fun H locs ls hP hD hS hl => lv_ishr C.1.1 C.1.2.1 hd  (k H locs ls hP hD hS hl)
theorem s_idiv (C : ih_Ok x w A cc nL own Ts rm ret) {a b : Int32} (hd : decode cc pc = .ok (.idiv, 1)) (hne : ¬ b = 0) (k : ih_Mw x w sh A Q nL cells slots (pc + 1) lv (.int (a / b) :: st) S) : ih_Mw x w sh A Q nL cells slots pc lv (.int b :: .int a :: st) S := fun H locs ls hP hD hS hl => lv_idiv C.1.1 C.1.2.1 hd hne (k H locs ls hP hD hS hl)
theorem s_irem (C : ih_Ok x w A cc nL own Ts rm ret) {a b : Int32} (hd : decode cc pc = .ok (.irem, 1)) (hne : ¬ b = 0) (k : ih_Mw x w sh A Q nL cells slots (pc + 1) lv (.int (a - a / b * b) :: st) S) : ih_Mw x w sh A Q nL cells slots pc lv (.int b :: .int a :: st) S := fun H locs ls hP hD hS hl => lv_irem C.1.1 C.1.2.1 hd hne (k H locs ls hP hD hS hl)
theorem s_ineg (C : ih_Ok x w A cc nL own Ts rm ret) {a : Int32} (hd : decode cc pc = .ok (.ineg, 1))  (k : ih_Mw x w sh A Q nL cells slots (pc + 1) lv (.int (-a) :: st) S) : ih_Mw x w sh A Q nL cells slots pc lv (.int a :: st) S := fun H locs ls hP hD hS hl => lv_ineg C.1.1 C.1.2.1 hd  (k H locs ls hP hD hS hl)
theorem s_ladd (C : ih_Ok x w A cc nL own Ts rm ret) {a b : Int64} (hd : decode cc pc = .ok (.ladd, 1))  (k : ih_Mw x w sh A Q nL cells slots (pc + 1) lv (.long (a + b) :: st) S) : ih_Mw x w sh A Q nL cells slots pc lv (.long b :: .long a :: st) S := fun H locs ls hP hD hS hl => lv_ladd C.1.1 C.1.2.1 hd  (k H locs ls hP hD hS hl)
theorem s_lsub (C : ih_Ok x w A cc nL own Ts rm ret) {a b : Int64} (hd : decode cc pc = .ok (.lsub, 1))  (k : ih_Mw x w sh A Q nL cells slots (pc + 1) lv (.long (a - b) :: st) S) : ih_Mw x w sh A Q nL cells slots pc lv (.long b :: .long a :: st) S := fun H locs ls hP hD hS hl => lv_lsub C.1.1 C.1.2.1 hd  (k H locs ls hP hD hS hl)
theorem s_lmul (C : ih_Ok x w A cc nL own Ts rm ret) {a b : Int64} (hd : decode cc pc = .ok (.lmul, 1))  (k : ih_Mw x w sh A Q nL cells slots (pc + 1) lv (.long (a * b) :: st) S) : ih_Mw x w sh A Q nL cells slots pc lv (.long b :: .long a :: st) S := fun H locs ls hP hD hS hl => lv_lmul C.1.1 C.1.2.1 hd  (k H locs ls hP hD hS hl)
theorem s_ldiv (C : ih_Ok x w A cc nL own Ts rm ret) {a b : Int64} (hd : decode cc pc = .ok (.ldiv, 1)) (hne : ¬ b = 0) (k : ih_Mw x w sh A Q nL cells slots (pc + 1) lv (.long (a / b) :: st) S) : ih_Mw x w sh A Q nL cells slots pc lv (.long b :: .long a :: st) S := fun H locs ls hP hD hS hl => lv_ldiv C.1.1 C.1.2.1 hd hne (k H locs ls hP hD hS hl)
theorem s_i2l (C : ih_Ok x w A cc nL own Ts rm ret) {a : Int32} (hd : decode cc pc = .ok (.i2l, 1))  (k : ih_Mw x w sh A Q nL cells slots (pc + 1) lv (.long a.toInt64 :: st) S) : ih_Mw x w sh A Q nL cells slots pc lv (.int a :: st) S := fun H locs ls hP hD hS hl => lv_i2l C.1.1 C.1.2.1 hd rfl (k H locs ls hP hD hS hl)
theorem s_l2i (C : ih_Ok x w A cc nL own Ts rm ret) {a : Int64} (hd : decode cc pc = .ok (.l2i, 1))  (k : ih_Mw x w sh A Q nL cells slots (pc + 1) lv (.int a.toInt32 :: st) S) : ih_Mw x w sh A Q nL cells slots pc lv (.long a :: st) S := fun H locs ls hP hD hS hl => lv_l2i C.1.1 C.1.2.1 hd rfl (k H locs ls hP hD hS hl)
theorem s_i2b (C : ih_Ok x w A cc nL own Ts rm ret) {a : Int32} (hd : decode cc pc = .ok (.i2b, 1))  (k : ih_Mw x w sh A Q nL cells slots (pc + 1) lv (.int a.toInt8.toInt32 :: st) S) : ih_Mw x w sh A Q nL cells slots pc lv (.int a :: st) S := fun H locs ls hP hD hS hl => lv_i2b C.1.1 C.1.2.1 hd rfl (k H locs ls hP hD hS hl)
theorem s_i2s (C : ih_Ok x w A cc nL own Ts rm ret) {a : Int32} (hd : decode cc pc = .ok (.i2s, 1))  (k : ih_Mw x w sh A Q nL cells slots (pc + 1) lv (.int a.toInt16.toInt32 :: st) S) : ih_Mw x w sh A Q nL cells slots pc lv (.int a :: st) S := fun H locs ls hP hD hS hl => lv_i2s C.1.1 C.1.2.1 hd rfl (k H locs ls hP hD hS hl)
theorem s_iushr (C : ih_Ok x w A cc nL own Ts rm ret) {a b v : Int32} (hd : decode cc pc = .ok (.iushr, 1)) (hv : (a.toUInt32 >>> (b.toUInt32 &&& Int32.toUInt32 31)).toInt32 = v) (k : ih_Mw x w sh A Q nL cells slots (pc + 1) lv (.int v :: st) S) : ih_Mw x w sh A Q nL cells slots pc lv (.int b :: .int a :: st) S := fun H locs ls hP hD hS hl => lv_iushr C.1.1 C.1.2.1 hd hv (k H locs ls hP hD hS hl)
theorem s_lcmp (C : ih_Ok x w A cc nL own Ts rm ret) {a b : Int64} (hd : decode cc pc = .ok (.lcmp, 1))  (k : ih_Mw x w sh A Q nL cells slots (pc + 1) lv (.int (lg_cmp a b) :: st) S) : ih_Mw x w sh A Q nL cells slots pc lv (.long b :: .long a :: st) S := fun H locs ls hP hD hS hl => W.lcmp C.1.1 C.1.2.1 hd  (k H locs ls hP hD hS hl)
theorem s_dup (C : ih_Ok x w A cc nL own Ts rm ret) {v : Value} (hd : decode cc pc = .ok (.dup, 1)) (hv : v.category = 1) (k : ih_Mw x w sh A Q nL cells slots (pc + 1) lv (v :: v :: st) S) : ih_Mw x w sh A Q nL cells slots pc lv (v :: st) S := fun H locs ls hP hD hS hl => lv_dup C.1.1 C.1.2.1 hd hv (k H locs ls hP hD hS hl)
theorem s_dup2 (C : ih_Ok x w A cc nL own Ts rm ret) {v u : Value} (hd : decode cc pc = .ok (.dup2, 1)) (hv : v.category = 1) (hu : u.category = 1) (k : ih_Mw x w sh A Q nL cells slots (pc + 1) lv (v :: u :: v :: u :: st) S) : ih_Mw x w sh A Q nL cells slots pc lv (v :: u :: st) S := fun H locs ls hP hD hS hl => lv_dup2_11 C.1.1 C.1.2.1 hd hv hu (k H locs ls hP hD hS hl)
theorem s_if_eq (C : ih_Ok x w A cc nL own Ts rm ret) {a : Int32} {off : Int} (tgt : Nat) (hd : decode cc pc = .ok (.ifCond .eq off, 3)) (ht : (pc : Int) + off = (tgt : Int)) (kt : a = 0 → ih_Mw x w sh A Q nL cells slots tgt lv st S) (kf : ¬ a = 0 → ih_Mw x w sh A Q nL cells slots (pc + 3) lv st S) : ih_Mw x w sh A Q nL cells slots pc lv (.int a :: st) S := fun H locs ls hP hD hS hl => lv_if_eq C.1.1 C.1.2.1 hd ht (fun h => kt h H locs ls hP hD hS hl) (fun h => kf h H locs ls hP hD hS hl)
theorem s_icmp_eq (C : ih_Ok x w A cc nL own Ts rm ret) {a b : Int32} {off : Int} (tgt : Nat) (hd : decode cc pc = .ok (.if_icmp .eq off, 3)) (ht : (pc : Int) + off = (tgt : Int)) (kt : a = b → ih_Mw x w sh A Q nL cells slots tgt lv st S) (kf : ¬ a = b → ih_Mw x w sh A Q nL cells slots (pc + 3) lv st S) : ih_Mw x w sh A Q nL cells slots pc lv (.int b :: .int a :: st) S := fun H locs ls hP hD hS hl => lv_icmp_eq C.1.1 C.1.2.1 hd ht (fun h => kt h H locs ls hP hD hS hl) (fun h => kf h H locs ls hP hD hS hl)
theorem s_if_ne (C : ih_Ok x w A cc nL own Ts rm ret) {a : Int32} {off : Int} (tgt : Nat) (hd : decode cc pc = .ok (.ifCond .ne off, 3)) (ht : (pc : Int) + off = (tgt : Int)) (kt : ¬ a = 0 → ih_Mw x w sh A Q nL cells slots tgt lv st S) (kf : a = 0 → ih_Mw x w sh A Q nL cells slots (pc + 3) lv st S) : ih_Mw x w sh A Q nL cells slots pc lv (.int a :: st) S := fun H locs ls hP hD hS hl => lv_if_ne C.1.1 C.1.2.1 hd ht (fun h => kt h H locs ls hP hD hS hl) (fun h => kf h H locs ls hP hD hS hl)
theorem s_icmp_ne (C : ih_Ok x w A cc nL own Ts rm ret) {a b : Int32} {off : Int} (tgt : Nat) (hd : decode cc pc = .ok (.if_icmp .ne off, 3)) (ht : (pc : Int) + off = (tgt : Int)) (kt : ¬ a = b → ih_Mw x w sh A Q nL cells slots tgt lv st S) (kf : a = b → ih_Mw x w sh A Q nL cells slots (pc + 3) lv st S) : ih_Mw x w sh A Q nL cells slots pc lv (.int b :: .int a :: st) S := fun H locs ls hP hD hS hl => lv_icmp_ne C.1.1 C.1.2.1 hd ht (fun h => kt h H locs ls hP hD hS hl) (fun h => kf h H locs ls hP hD hS hl)
theorem s_if_lt (C : ih_Ok x w A cc nL own Ts rm ret) {a : Int32} {off : Int} (tgt : Nat) (hd : decode cc pc = .ok (.ifCond .lt off, 3)) (ht : (pc : Int) + off = (tgt : Int)) (kt : a < 0 → ih_Mw x w sh A Q nL cells slots tgt lv st S) (kf : ¬ a < 0 → ih_Mw x w sh A Q nL cells slots (pc + 3) lv st S) : ih_Mw x w sh A Q nL cells slots pc lv (.int a :: st) S := fun H locs ls hP hD hS hl => lv_if_lt C.1.1 C.1.2.1 hd ht (fun h => kt h H locs ls hP hD hS hl) (fun h => kf h H locs ls hP hD hS hl)
theorem s_icmp_lt (C : ih_Ok x w A cc nL own Ts rm ret) {a b : Int32} {off : Int} (tgt : Nat) (hd : decode cc pc = .ok (.if_icmp .lt off, 3)) (ht : (pc : Int) + off = (tgt : Int)) (kt : a < b → ih_Mw x w sh A Q nL cells slots tgt lv st S) (kf : ¬ a < b → ih_Mw x w sh A Q nL cells slots (pc + 3) lv st S) : ih_Mw x w sh A Q nL cells slots pc lv (.int b :: .int a :: st) S := fun H locs ls hP hD hS hl => lv_icmp_lt C.1.1 C.1.2.1 hd ht (fun h => kt h H locs ls hP hD hS hl) (fun h => kf h H locs ls hP hD hS hl)
theorem s_if_ge (C : ih_Ok x w A cc nL own Ts rm ret) {a : Int32} {off : Int} (tgt : Nat) (hd : decode cc pc = .ok (.ifCond .ge off, 3)) (ht : (pc : Int) + off = (tgt : Int)) (kt : 0 ≤ a → ih_Mw x w sh A Q nL cells slots tgt lv st S) (kf : ¬ 0 ≤ a → ih_Mw x w sh A Q nL cells slots (pc + 3) lv st S) : ih_Mw x w sh A Q nL cells slots pc lv (.int a :: st) S := fun H locs ls hP hD hS hl => lv_if_ge C.1.1 C.1.2.1 hd ht (fun h => kt h H locs ls hP hD hS hl) (fun h => kf h H locs ls hP hD hS hl)
theorem s_icmp_ge (C : ih_Ok x w A cc nL own Ts rm ret) {a b : Int32} {off : Int} (tgt : Nat) (hd : decode cc pc = .ok (.if_icmp .ge off, 3)) (ht : (pc : Int) + off = (tgt : Int)) (kt : b ≤ a → ih_Mw x w sh A Q nL cells slots tgt lv st S) (kf : ¬ b ≤ a → ih_Mw x w sh A Q nL cells slots (pc + 3) lv st S) : ih_Mw x w sh A Q nL cells slots pc lv (.int b :: .int a :: st) S := fun H locs ls hP hD hS hl => lv_icmp_ge C.1.1 C.1.2.1 hd ht (fun h => kt h H locs ls hP hD hS hl) (fun h => kf h H locs ls hP hD hS hl)
theorem s_if_gt (C : ih_Ok x w A cc nL own Ts rm ret) {a : Int32} {off : Int} (tgt : Nat) (hd : decode cc pc = .ok (.ifCond .gt off, 3)) (ht : (pc : Int) + off = (tgt : Int)) (kt : 0 < a → ih_Mw x w sh A Q nL cells slots tgt lv st S) (kf : ¬ 0 < a → ih_Mw x w sh A Q nL cells slots (pc + 3) lv st S) : ih_Mw x w sh A Q nL cells slots pc lv (.int a :: st) S := fun H locs ls hP hD hS hl => lv_if_gt C.1.1 C.1.2.1 hd ht (fun h => kt h H locs ls hP hD hS hl) (fun h => kf h H locs ls hP hD hS hl)
theorem s_icmp_gt (C : ih_Ok x w A cc nL own Ts rm ret) {a b : Int32} {off : Int} (tgt : Nat) (hd : decode cc pc = .ok (.if_icmp .gt off, 3)) (ht : (pc : Int) + off = (tgt : Int)) (kt : b < a → ih_Mw x w sh A Q nL cells slots tgt lv st S) (kf : ¬ b < a → ih_Mw x w sh A Q nL cells slots (pc + 3) lv st S) : ih_Mw x w sh A Q nL cells slots pc lv (.int b :: .int a :: st) S := fun H locs ls hP hD hS hl => lv_icmp_gt C.1.1 C.1.2.1 hd ht (fun h => kt h H locs ls hP hD hS hl) (fun h => kf h H locs ls hP hD hS hl)
theorem s_if_le (C : ih_Ok x w A cc nL own Ts rm ret) {a : Int32} {off : Int} (tgt : Nat) (hd : decode cc pc = .ok (.ifCond .le off, 3)) (ht : (pc : Int) + off = (tgt : Int)) (kt : a ≤ 0 → ih_Mw x w sh A Q nL cells slots tgt lv st S) (kf : ¬ a ≤ 0 → ih_Mw x w sh A Q nL cells slots (pc + 3) lv st S) : ih_Mw x w sh A Q nL cells slots pc lv (.int a :: st) S := fun H locs ls hP hD hS hl => lv_if_le C.1.1 C.1.2.1 hd ht (fun h => kt h H locs ls hP hD hS hl) (fun h => kf h H locs ls hP hD hS hl)
theorem s_icmp_le (C : ih_Ok x w A cc nL own Ts rm ret) {a b : Int32} {off : Int} (tgt : Nat) (hd : decode cc pc = .ok (.if_icmp .le off, 3)) (ht : (pc : Int) + off = (tgt : Int)) (kt : a ≤ b → ih_Mw x w sh A Q nL cells slots tgt lv st S) (kf : ¬ a ≤ b → ih_Mw x w sh A Q nL cells slots (pc + 3) lv st S) : ih_Mw x w sh A Q nL cells slots pc lv (.int b :: .int a :: st) S := fun H locs ls hP hD hS hl => lv_icmp_le C.1.1 C.1.2.1 hd ht (fun h => kt h H locs ls hP hD hS hl) (fun h => kf h H locs ls hP hD hS hl)
theorem s_goto (C : ih_Ok x w A cc nL own Ts rm ret) {off : Int} (tgt : Nat) (hd : decode cc pc = .ok (.goto off, 3)) (ht : (pc : Int) + off = (tgt : Int)) (k : ih_Mw x w sh A Q nL cells slots tgt lv st S) : ih_Mw x w sh A Q nL cells slots pc lv st S := fun H locs ls hP hD hS hl => lv_goto C.1.1 C.1.2.1 hd ht (k H locs ls hP hD hS hl)
theorem s_tableIn (C : ih_Ok x w A cc nL own Ts rm ret) {dflt lo hi : Int} {offs : Array Int} {len : Nat} {a : Int32} {off : Int} (tgt : Nat) (hd : decode cc pc = .ok (.tableswitch dflt lo hi offs, len)) (h1 : ¬ a.toInt < lo) (h2 : ¬ hi < a.toInt) (ho : offs[(a.toInt - lo).toNat]? = some off) (ht : (pc : Int) + off = (tgt : Int)) (k : ih_Mw x w sh A Q nL cells slots tgt lv st S) : ih_Mw x w sh A Q nL cells slots pc lv (.int a :: st) S := fun H locs ls hP hD hS hl => lv_tableIn C.1.1 C.1.2.1 hd h1 h2 ho ht (k H locs ls hP hD hS hl)
theorem s_tableOut (C : ih_Ok x w A cc nL own Ts rm ret) {dflt lo hi : Int} {offs : Array Int} {len : Nat} {a : Int32} (tgt : Nat) (hd : decode cc pc = .ok (.tableswitch dflt lo hi offs, len)) (h : a.toInt < lo ∨ hi < a.toInt) (ht : (pc : Int) + dflt = (tgt : Int)) (k : ih_Mw x w sh A Q nL cells slots tgt lv st S) : ih_Mw x w sh A Q nL cells slots pc lv (.int a :: st) S := fun H locs ls hP hD hS hl => lv_tableOut C.1.1 C.1.2.1 hd h ht (k H locs ls hP hD hS hl)
theorem s_ldc (C : ih_Ok x w A cc nL own Ts rm ret) {index : Nat} {v : Int32} (hc : Jvm.Cond.constant own index v ∈ Ts) (hd : decode cc pc = .ok (.ldc index, 2)) (k : ih_Mw x w sh A Q nL cells slots (pc + 2) lv (.int v :: st) S) : ih_Mw x w sh A Q nL cells slots pc lv st S := fun H locs ls hP hD hS hl => lv_ldc C.1.1 C.1.2.1 C.1.2.2.2.1 (C.1.2.2.2.2 _ hc) hd (k H locs ls hP hD hS hl)
theorem s_ldc2 (C : ih_Ok x w A cc nL own Ts rm ret) {index : Nat} {v : Int64} (hc : Jvm.Cond.constantLong own index v ∈ Ts) (hd : decode cc pc = .ok (.ldc2_w index, 3)) (k : ih_Mw x w sh A Q nL cells slots (pc + 3) lv (.long v :: st) S) : ih_Mw x w sh A Q nL cells slots pc lv st S := fun H locs ls hP hD hS hl => lv_ldc2 C.1.1 C.1.2.1 C.1.2.2.2.1 (C.1.2.2.2.2 _ hc) hd (k H locs ls hP hD hS hl)
theorem s_topi {a : Int32} (k : ∀ y : Int32, y = a → ih_Mw x w sh A Q nL cells slots pc lv (.int y :: st) S) : ih_Mw x w sh A Q nL cells slots pc lv (.int a :: st) S := k a rfl
theorem s_topl {a : Int64} (k : ∀ y : Int64, y = a → ih_Mw x w sh A Q nL cells slots pc lv (.long y :: st) S) : ih_Mw x w sh A Q nL cells slots pc lv (.long a :: st) S := k a rfl
theorem s_toe {a b : Int32} (h : a = b) (k : ih_Mw x w sh A Q nL cells slots pc lv (.int b :: st) S) : ih_Mw x w sh A Q nL cells slots pc lv (.int a :: st) S := h ▸ k
theorem s_tol {a b : Int64} (h : a = b) (k : ih_Mw x w sh A Q nL cells slots pc lv (.long b :: st) S) : ih_Mw x w sh A Q nL cells slots pc lv (.long a :: st) S := h ▸ k
theorem s_toS {S' : ih_Sg} (h : S = S') (k : ih_Mw x w sh A Q nL cells slots pc lv st S') : ih_Mw x w sh A Q nL cells slots pc lv st S := h ▸ k
theorem ih_ce_o {w : ih_Wd} {kd ln : Nat} {I : Nat → Int32} {J : Nat → Int64} {R : Nat → Option Nat} (h : kd < 9) : ih_ce w kd ln I J R = .inr (kd, ih_fs w.2.2 kd I R) := by rw [ih_ce, if_pos h]
theorem ih_ce_I {w : ih_Wd} {kd ln : Nat} {I : Nat → Int32} {J : Nat → Int64} {R : Nat → Option Nat} (h : kd = 9) : ih_ce w kd ln I J R = .inl (w.2.1 0, ln, .inl I) := by subst h; rfl
theorem ih_ce_J {w : ih_Wd} {kd ln : Nat} {I : Nat → Int32} {J : Nat → Int64} {R : Nat → Option Nat} (h : kd = 10) : ih_ce w kd ln I J R = .inl (w.2.1 1, ln, .inr (.inl J)) := by subst h; rfl
theorem s_getI (C : ih_Ok x w A cc nL own Ts rm ret) {index : Nat} {Cn : String} {T : u_T} {N k : Nat} (ci j : Nat) (hk : k < sh.2.2) (hkd : sh.1 k = ci) (h9 : ci < 9) (hc : vwCl[ci]? = some (Cn, T, N)) (hin : ∀ w ∈ u_ws Cn T N, w ∈ Ts) (hj : j < N) (hb : (ih_fl ci)[j]? = some false) (hlink : Cond.fieldLink own index (T j).1 (T j).2.1 (T j).2.2.1 ∈ Ts) (hd : decode cc pc = .ok (.getfield index, 3)) (kk : ih_Mw x w sh A Q nL cells slots (pc + 3) lv (.int (S.1 k j) :: st) S) : ih_Mw x w sh A Q nL cells slots pc lv (.ref (w.2.2 k) :: st) S := by
  intro H locs ls hP hD hS hl
  have he := ih_wl_get (w := w) (S := S) hk
  rw [hkd, ih_ce_o h9] at he
  exact va_get C.1.1 C.1.2.1 C.1.2.2.2.2 hin C.1.2.2.2.1 C.2.1.1 hP k he hc j hj (C.1.2.2.2.2 _ hlink) (fun _ h => h) (ih_fs_get hb) hd (kk H locs ls hP hD hS hl)
theorem s_getR (C : ih_Ok x w A cc nL own Ts rm ret) {index : Nat} {Cn : String} {T : u_T} {N k i : Nat} (ci j : Nat) (hR : S.2.2 k j = some i) (hk : k < sh.2.2) (hkd : sh.1 k = ci) (h9 : ci < 9) (hc : vwCl[ci]? = some (Cn, T, N)) (hin : ∀ w ∈ u_ws Cn T N, w ∈ Ts) (hj : j < N) (hb : (ih_fl ci)[j]? = some true) (hlink : Cond.fieldLink own index (T j).1 (T j).2.1 (T j).2.2.1 ∈ Ts) (hd : decode cc pc = .ok (.getfield index, 3)) (kk : ih_Mw x w sh A Q nL cells slots (pc + 3) lv (.ref (w.2.2 i) :: st) S) : ih_Mw x w sh A Q nL cells slots pc lv (.ref (w.2.2 k) :: st) S := by
  intro H locs ls hP hD hS hl
  have he := ih_wl_get (w := w) (S := S) hk
  rw [hkd, ih_ce_o h9] at he
  have hv := ih_fs_get (ad := w.2.2) (I := S.1 k) (R := S.2.2 k) hb
  rw [hR] at hv
  exact va_get C.1.1 C.1.2.1 C.1.2.2.2.2 hin C.1.2.2.2.1 C.2.1.1 hP k he hc j hj (C.1.2.2.2.2 _ hlink) (fun _ h => h) hv hd (kk H locs ls hP hD hS hl)
theorem s_putI (C : ih_Ok x w A cc nL own Ts rm ret) {index : Nat} {Cn : String} {T : u_T} {N k : Nat} {v : Int32} {ty : FieldType} (ci j : Nat) (ty0 : Nat → FieldType) (hty : ∀ k, k < N → parseFieldDescriptor (T k).2.2.1 = some (ty0 k)) (hnm : ∀ a, a < N → ∀ b, b < N → a ≠ b → (T a).2.1 ≠ (T b).2.1) (hk : k < sh.2.2) (hkd : sh.1 k = ci) (h9 : ci < 9) (hc : vwCl[ci]? = some (Cn, T, N)) (hin : ∀ w ∈ u_ws Cn T N, w ∈ Ts) (hj : j < N) (hb : (ih_fl ci)[j]? = some false) (hlink : Cond.fieldLink own index (T j).1 (T j).2.1 (T j).2.2.1 ∈ Ts) (hfin : (T j).2.2.2 = false) (hde : parseFieldDescriptor (T j).2.2.1 = some ty) (hn : narrow ty (.int v) = .int v) (hfit : fits ty (.int v) = true) (hd : decode cc pc = .ok (.putfield index, 3)) (kk : ih_Mw x w sh A Q nL cells slots (pc + 3) lv st (ih_sI S k j v)) : ih_Mw x w sh A Q nL cells slots pc lv (.int v :: .ref (w.2.2 k) :: st) S := by
  intro H locs ls hP hD hS hl
  have he := ih_wl_get (w := w) (S := S) hk
  rw [hkd, ih_ce_o h9] at he
  have hjl : j < (ih_fl ci).length := by
    rcases Nat.lt_or_ge j (ih_fl ci).length with q | q
    · exact q
    · rw [List.getElem?_eq_none q] at hb; cases hb
  have hset : (ih_wl w sh S).set k (w.2.2 k, .inr (ci, (ih_fs w.2.2 ci (S.1 k) (S.2.2 k)).set j (.int v))) = ih_wl w sh (ih_sI S k j v) := by
    refine ih_wl_set ?_ (fun i hi => ⟨ih_u2_row hi, rfl, rfl⟩)
    rw [hkd, ih_ce_o h9]
    refine congrArg (fun l => Sum.inr (ci, l)) (ih_fs_ext hjl ?_ (fun i hi => ⟨ih_u2_j hi, rfl⟩))
    rw [List.getD_eq_getElem?_getD, hb]
    show Value.int (ih_u2 S.1 k j v k j) = _
    rw [ih_u2_s]
  refine va_put C.1.1 C.1.2.1 C.1.2.2.2.2 hin ty0 hty hnm C.1.2.2.2.1 C.2.1.1 hP hD hS k he hc j hj (C.1.2.2.2.2 _ hlink) (fun _ h => h) hfin hde hn hfit (by rw [ih_fs_len]; exact hjl) hd (fun H1 locs1 hP1 hD1 hS1 => ?_)
  rw [hset] at hP1 hD1
  exact kk H1 locs1 ls hP1 hD1 hS1 hl
theorem s_putR (C : ih_Ok x w A cc nL own Ts rm ret) {index : Nat} {Cn : String} {T : u_T} {N k i : Nat} {ty : FieldType} (ci j : Nat) (ty0 : Nat → FieldType) (hty : ∀ k, k < N → parseFieldDescriptor (T k).2.2.1 = some (ty0 k)) (hnm : ∀ a, a < N → ∀ b, b < N → a ≠ b → (T a).2.1 ≠ (T b).2.1) (hk : k < sh.2.2) (hkd : sh.1 k = ci) (h9 : ci < 9) (hc : vwCl[ci]? = some (Cn, T, N)) (hin : ∀ w ∈ u_ws Cn T N, w ∈ Ts) (hj : j < N) (hb : (ih_fl ci)[j]? = some true) (hlink : Cond.fieldLink own index (T j).1 (T j).2.1 (T j).2.2.1 ∈ Ts) (hfin : (T j).2.2.2 = false) (hde : parseFieldDescriptor (T j).2.2.1 = some ty) (hn : narrow ty (.ref (w.2.2 i)) = .ref (w.2.2 i)) (hfit : fits ty (.ref (w.2.2 i)) = true) (hd : decode cc pc = .ok (.putfield index, 3)) (kk : ih_Mw x w sh A Q nL cells slots (pc + 3) lv st (ih_sR S k j (some i))) : ih_Mw x w sh A Q nL cells slots pc lv (.ref (w.2.2 i) :: .ref (w.2.2 k) :: st) S := by
  intro H locs ls hP hD hS hl
  have he := ih_wl_get (w := w) (S := S) hk
  rw [hkd, ih_ce_o h9] at he
  have hjl : j < (ih_fl ci).length := by
    rcases Nat.lt_or_ge j (ih_fl ci).length with q | q
    · exact q
    · rw [List.getElem?_eq_none q] at hb; cases hb
  have hset : (ih_wl w sh S).set k (w.2.2 k, .inr (ci, (ih_fs w.2.2 ci (S.1 k) (S.2.2 k)).set j (.ref (w.2.2 i)))) = ih_wl w sh (ih_sR S k j (some i)) := by
    refine ih_wl_set ?_ (fun i hi => ⟨rfl, rfl, ih_u2_row hi⟩)
    rw [hkd, ih_ce_o h9]
    refine congrArg (fun l => Sum.inr (ci, l)) (ih_fs_ext hjl ?_ (fun i hi => ⟨rfl, ih_u2_j hi⟩))
    rw [List.getD_eq_getElem?_getD, hb]
    show ih_rv w.2.2 (ih_u2 S.2.2 k j (some i) k j) = _
    rw [ih_u2_s]; rfl
  refine va_put C.1.1 C.1.2.1 C.1.2.2.2.2 hin ty0 hty hnm C.1.2.2.2.1 C.2.1.1 hP hD hS k he hc j hj (C.1.2.2.2.2 _ hlink) (fun _ h => h) hfin hde hn hfit (by rw [ih_fs_len]; exact hjl) hd (fun H1 locs1 hP1 hD1 hS1 => ?_)
  rw [hset] at hP1 hD1
  exact kk H1 locs1 ls hP1 hD1 hS1 hl
theorem s_iaload (C : ih_Ok x w A cc nL own Ts rm ret) {k : Nat} {a : Int32} (i : Nat) (ha : a = nI i) (hi : i < sh.2.1 k) (hs : sh.2.1 k < 2147483648) (hk : k < sh.2.2) (hkd : sh.1 k = 9) (hd : decode cc pc = .ok (.iaload, 1)) (kk : ih_Mw x w sh A Q nL cells slots (pc + 1) lv (.int (S.1 k i) :: st) S) : ih_Mw x w sh A Q nL cells slots pc lv (.int a :: .ref (w.2.2 k) :: st) S := by
  subst ha
  intro H locs ls hP hD hS hl
  have he := ih_wl_get (w := w) (S := S) hk
  rw [ih_ce_I hkd] at he
  refine va_iald C.1.1 C.1.2.1 C.2.1.1 hP k 0 he rfl (vp_in_nI hi hs) hd ?_
  rw [nI_clamp (by omega)]
  exact kk H locs ls hP hD hS hl
theorem s_iastore (C : ih_Ok x w A cc nL own Ts rm ret) {k : Nat} {a v : Int32} (i : Nat) (ha : a = nI i) (hi : i < sh.2.1 k) (hs : sh.2.1 k < 2147483648) (hk : k < sh.2.2) (hkd : sh.1 k = 9) (hd : decode cc pc = .ok (.iastore, 1)) (kk : ih_Mw x w sh A Q nL cells slots (pc + 1) lv st (ih_sI S k i v)) : ih_Mw x w sh A Q nL cells slots pc lv (.int v :: .int a :: .ref (w.2.2 k) :: st) S := by
  subst ha
  intro H locs ls hP hD hS hl
  have he := ih_wl_get (w := w) (S := S) hk
  rw [ih_ce_I hkd] at he
  have hset : (ih_wl w sh S).set k (w.2.2 k, .inl (w.2.1 0, sh.2.1 k, .inl (upd (S.1 k) i v))) = ih_wl w sh (ih_sI S k i v) := by
    refine ih_wl_set ?_ (fun i hi => ⟨ih_u2_row hi, rfl, rfl⟩)
    rw [ih_ce_I hkd]
    refine congrArg (fun f => Sum.inl (w.2.1 0, sh.2.1 k, Sum.inl f)) ?_
    funext b
    show upd (S.1 k) i v b = ih_u2 S.1 k i v k b
    by_cases hbi : b = i
    · subst hbi; rw [ih_u2_s, pk_us]
    · rw [ih_u2_j hbi, pk_un hbi]
  refine va_iast C.1.1 C.1.2.1 C.2.1.1 hP hD hS k 0 he rfl (vp_in_nI hi hs) hd (fun H1 locs1 hP1 hD1 hS1 => ?_)
  rw [nI_clamp (by omega), hset] at hP1 hD1
  exact kk H1 locs1 ls hP1 hD1 hS1 hl
theorem s_laload (C : ih_Ok x w A cc nL own Ts rm ret) {k : Nat} {a : Int32} (i : Nat) (ha : a = nI i) (hi : i < sh.2.1 k) (hs : sh.2.1 k < 2147483648) (hk : k < sh.2.2) (hkd : sh.1 k = 10) (hd : decode cc pc = .ok (.laload, 1)) (kk : ih_Mw x w sh A Q nL cells slots (pc + 1) lv (.long (S.2.1 k i) :: st) S) : ih_Mw x w sh A Q nL cells slots pc lv (.int a :: .ref (w.2.2 k) :: st) S := by
  subst ha
  intro H locs ls hP hD hS hl
  have he := ih_wl_get (w := w) (S := S) hk
  rw [ih_ce_J hkd] at he
  refine va_lald C.1.1 C.1.2.1 C.2.1.1 hP k 1 he rfl (vp_in_nI hi hs) hd ?_
  rw [nI_clamp (by omega)]
  exact kk H locs ls hP hD hS hl
theorem s_lastore (C : ih_Ok x w A cc nL own Ts rm ret) {k : Nat} {a : Int32} {v : Int64} (i : Nat) (ha : a = nI i) (hi : i < sh.2.1 k) (hs : sh.2.1 k < 2147483648) (hk : k < sh.2.2) (hkd : sh.1 k = 10) (hd : decode cc pc = .ok (.lastore, 1)) (kk : ih_Mw x w sh A Q nL cells slots (pc + 1) lv st (ih_sJ S k i v)) : ih_Mw x w sh A Q nL cells slots pc lv (.long v :: .int a :: .ref (w.2.2 k) :: st) S := by
  subst ha
  intro H locs ls hP hD hS hl
  have he := ih_wl_get (w := w) (S := S) hk
  rw [ih_ce_J hkd] at he
  have hset : (ih_wl w sh S).set k (w.2.2 k, .inl (w.2.1 1, sh.2.1 k, .inr (.inl (vp_updL (S.2.1 k) i v)))) = ih_wl w sh (ih_sJ S k i v) := by
    refine ih_wl_set ?_ (fun i hi => ⟨rfl, ih_u2_row hi, rfl⟩)
    rw [ih_ce_J hkd]
    refine congrArg (fun f => Sum.inl (w.2.1 1, sh.2.1 k, Sum.inr (Sum.inl f))) ?_
    funext b
    show vp_updL (S.2.1 k) i v b = ih_u2 S.2.1 k i v k b
    by_cases hbi : b = i
    · subst hbi; rw [ih_u2_s, pk_uLs]
    · rw [ih_u2_j hbi, pk_uLn hbi]
  refine va_last C.1.1 C.1.2.1 C.2.1.1 hP hD hS k 1 he rfl (vp_in_nI hi hs) hd (fun H1 locs1 hP1 hD1 hS1 => ?_)
  rw [nI_clamp (by omega), hset] at hP1 hD1
  exact kk H1 locs1 ls hP1 hD1 hS1 hl
theorem s_aaload (C : ih_Ok x w A cc nL own Ts rm ret) {k kd j : Nat} {a : Int32} (i : Nat) (hR : S.2.2 k i = some j) (ha : a = nI i) (hi : i < sh.2.1 k) (hs : sh.2.1 k < 2147483648) (hk : k < sh.2.2) (hkd : sh.1 k = kd) (hk2 : kd = 11 ∨ kd = 12) (hd : decode cc pc = .ok (.aaload, 1)) (kk : ih_Mw x w sh A Q nL cells slots (pc + 1) lv (.ref (w.2.2 j) :: st) S) : ih_Mw x w sh A Q nL cells slots pc lv (.int a :: .ref (w.2.2 k) :: st) S := by
  subst ha
  intro H locs ls hP hD hS hl
  have he := ih_wl_get (w := w) (S := S) hk
  rcases hk2 with rfl | rfl
  · rw [hkd] at he
    refine va_aldq (C := RX5) C.1.1 C.1.2.1 C.2.1.1 hP k 2 (f := fun j => (S.2.2 k j).map w.2.2) he rfl (vp_in_nI hi hs) hd ?_
    rw [nI_clamp (by omega), hR]
    exact kk H locs ls hP hD hS hl
  · rw [hkd] at he
    refine va_aldq (C := RX6) C.1.1 C.1.2.1 C.2.1.1 hP k 3 (f := fun j => (S.2.2 k j).map w.2.2) he rfl (vp_in_nI hi hs) hd ?_
    rw [nI_clamp (by omega), hR]
    exact kk H locs ls hP hD hS hl
theorem s_alen (C : ih_Ok x w A cc nL own Ts rm ret) {k : Nat} {v : Int32} (t0 : Nat) (hv : nI (sh.2.1 k) = v) (hk : k < sh.2.2) (hkd : (sh.1 k = 9 ∧ t0 = 0) ∨ (sh.1 k = 10 ∧ t0 = 1)) (hd : decode cc pc = .ok (.arraylength, 1)) (kk : ih_Mw x w sh A Q nL cells slots (pc + 1) lv (.int v :: st) S) : ih_Mw x w sh A Q nL cells slots pc lv (.ref (w.2.2 k) :: st) S := by
  intro H locs ls hP hD hS hl
  have he := ih_wl_get (w := w) (S := S) hk
  rcases hkd with ⟨h, rfl⟩ | ⟨h, rfl⟩
  · rw [ih_ce_I h] at he
    exact va_alen C.1.1 C.1.2.1 C.2.1.1 hP k 0 he (ty := .int) rfl hv hd (kk H locs ls hP hD hS hl)
  · rw [ih_ce_J h] at he
    exact va_alen C.1.1 C.1.2.1 C.2.1.1 hP k 1 he (ty := .long) rfl hv hd (kk H locs ls hP hD hS hl)
end IhRows
end
section
/-! contracts over the world by places, and calls -/
def ih_rm (d : Nat) : Room := { frames := d, cells := 0, slots := 0, locals := 60 * d }
def ih_Pre (w : ih_Wd) (sh : ih_Sh) (S : ih_Sg) (sz : Nat) : State → Prop := fun U => U.heap.size = sz ∧ va_P w.1 vwCl (ih_wl w sh S) U.heap ∧ ih_K w U ∧ va_D (fun _ => True) (ih_wl w sh S)
def ih_B (w : ih_Wd) (sh : ih_Sh) (sz : Nat) : ih_Sg → State → Prop := fun S t => va_P w.1 vwCl (ih_wl w sh S) t.heap ∧ va_D (ih_A w sh sz) (ih_wl w sh S)
def ih_Br (w : ih_Wd) (sh : ih_Sh) (sz : Nat) : ih_Sg × Nat → Nat → State → Prop := fun u a t => a = w.2.2 u.2 ∧ va_P w.1 vwCl (ih_wl w sh u.1) t.heap ∧ va_D (ih_A w sh sz) (ih_wl w sh u.1)
/-- a contract: with the world S the method ends, its answer and the new world as post says -/
def ih_Ci (l : Launch) (y : MethodName) (ws : List Cond) (d : Nat) (w : ih_Wd) (sh : ih_Sh) (av : List Value) (S : ih_Sg) (post : Int32 → ih_Sg → Prop) : Prop := ∀ sz, Met l y ws (ih_rm d) (va_Pc av (ih_Pre w sh S sz)) (va_Qi post (ih_B w sh sz) (ih_A w sh sz)) 0 0 (ih_A w sh sz)
def ih_Cv (l : Launch) (y : MethodName) (ws : List Cond) (d : Nat) (w : ih_Wd) (sh : ih_Sh) (av : List Value) (S : ih_Sg) (post : ih_Sg → Prop) : Prop := ∀ sz, Met l y ws (ih_rm d) (va_Pc av (ih_Pre w sh S sz)) (va_Qv post (ih_B w sh sz) (ih_A w sh sz)) 0 0 (ih_A w sh sz)
def ih_Cr (l : Launch) (y : MethodName) (ws : List Cond) (d : Nat) (w : ih_Wd) (sh : ih_Sh) (av : List Value) (S : ih_Sg) (post : ih_Sg × Nat → Prop) : Prop := ∀ sz, Met l y ws (ih_rm d) (va_Pc av (ih_Pre w sh S sz)) (va_Qr post (ih_Br w sh sz) (ih_A w sh sz)) 0 0 (ih_A w sh sz)
theorem ih_blind {w : ih_Wd} {sh : ih_Sh} {S : ih_Sg} {sz : Nat} {av : List Value} : FrameBlind (va_Pc av (ih_Pre w sh S sz)) := fun a U g mk q => by
  obtain ⟨q0, q1, q2, q3, q4⟩ := q
  exact ⟨q0, q1, q2, ih_K.same (u := U) (U := U.calling g mk a) rfl q3, q4⟩
theorem ih_A_in {x : ih_Cx} {w : ih_Wd} {sh : ih_Sh} {S : ih_Sg} {A : Nat → Prop} {H : Heap} {locs : List Loc} (hD : va_D A (ih_wl w sh S)) (hA : ∀ q, x.2.2.2.2.1.heap.size ≤ q → A q) (hS : va_S A x.2.2.2.2.1.heap H locs) : ∀ q, ih_A w sh H.size q → A q := by
  intro q h
  rcases h with ⟨k, hk, rfl⟩ | h
  · exact hD.2 k _ (ih_wl_get hk)
  · exact hA q (Nat.le_trans hS.1 h)
theorem ih_body {l : Launch} {y : MethodName} {ws ws' : List Cond} {d : Nat} {w : ih_Wd} {sh : ih_Sh} {av : List Value} {S : ih_Sg} {cc : ByteArray} {maxL : Nat} {ret : Option FieldType} {Qc : Nat → Array Value → State → Outcome → State → Prop} (hy : plainName y.cls = true) (hw : ws = .code y cc maxL ret :: ws') (hav : (lg_sl av).length ≤ maxL)
    (body : ∀ (x : ih_Cx) (A : Nat → Prop), A = ih_A w sh x.2.2.2.2.1.heap.size → ih_Ok x w A cc maxL y.cls ws (ih_rm d) ret → ih_Mw x w sh A (MQ x.2.2.2.2.2.2.2.1 (Qc x.2.2.2.2.1.heap.size) x.2.2.2.2.2.2.1 x.2.2.2.2.1 0 0 A) maxL 0 0 0 (lv_args 0 av) [] S) :
    ∀ sz, Met l y ws (ih_rm d) (va_Pc av (ih_Pre w sh S sz)) (Qc sz) 0 0 (ih_A w sh sz) := by
  intro sz
  refine Met.ofW (cc := cc) (maxL := maxL) (ret := ret) hy hw ?_
  intro p e s m args below meth c s₁ B hml hv
  obtain ⟨rfl, hsz, hP, hK, hD0⟩ := hv
  have hts := atoms_spec (ws := ws) B.pre
  have hown : s.vm.findClass y.cls = some m.cls := findClass_of_methodNamed B.named
  subst hsz
  have hl := lv_entry av (n := maxL) hav
  rw [lg_entry_eq]
  generalize (lg_sl av ++ List.replicate (maxL - (lg_sl av).length) Slot.unset).toArray = ls at hl ⊢
  exact body (p, l, e, (headSpec ws (ih_rm d)).room, s, m, av.toArray, below, meth, c) _ rfl ⟨⟨B.exec, B.bytes, hml, hown, hts⟩, hK, fun q h => Or.inr h, B.notSynchronized, rfl, B.returns⟩ s.heap [] ls hP (ih_A_D hD0) va_S.rf hl
section IhCalls
variable {x : ih_Cx} {w : ih_Wd} {sh : ih_Sh} {A : Nat → Prop} {Q : State → Prop} {cc : ByteArray} {nL : Nat} {own : String} {Ts : List Cond} {rm : Room} {ret : Option FieldType} {pc : Nat} {lv : List (Nat × Value)} {st : List Value} {S : ih_Sg}
theorem s_ireturn {post : Int32 → ih_Sg → Prop} {v : Int32} (C : ih_Ok x w A cc nL own Ts rm (some .int)) (hA : A = ih_A w sh x.2.2.2.2.1.heap.size) (hd : decode cc pc = .ok (.ireturn, 1)) (hp : post v S) : ih_Mw x w sh A (MQ x.2.2.2.2.2.2.2.1 (va_Qi post (ih_B w sh x.2.2.2.2.1.heap.size) (ih_A w sh x.2.2.2.2.1.heap.size)) x.2.2.2.2.2.2.1 x.2.2.2.2.1 0 0 A) nL 0 0 pc lv [.int v] S := by
  subst hA
  intro H locs ls hP hD hS hl
  exact W.iret (hlocks := C.2.2.2.1) C.1.1 C.1.2.1 C.2.2.2.2.2 (fun t ht hW => ⟨⟨v, S, rfl, hp, by rw [ht]; exact hP, hD⟩, hS.F ht⟩) hS.2.2 hd
theorem s_zreturn {post : Int32 → ih_Sg → Prop} {v : Int32} (C : ih_Ok x w A cc nL own Ts rm (some .boolean)) (hA : A = ih_A w sh x.2.2.2.2.1.heap.size) (hd : decode cc pc = .ok (.ireturn, 1)) (hv : v = 0 ∨ v = 1) (hp : post v S) : ih_Mw x w sh A (MQ x.2.2.2.2.2.2.2.1 (va_Qi post (ih_B w sh x.2.2.2.2.1.heap.size) (ih_A w sh x.2.2.2.2.1.heap.size)) x.2.2.2.2.2.2.1 x.2.2.2.2.1 0 0 A) nL 0 0 pc lv [.int v] S := by
  subst hA
  intro H locs ls hP hD hS hl
  refine W.zret (hlocks := C.2.2.2.1) C.1.1 C.1.2.1 C.2.2.2.2.2 (by rcases hv with rfl | rfl <;> decide) (fun t ht hW => ⟨⟨v, S, rfl, hp, by rw [ht]; exact hP, hD⟩, hS.F ht⟩) hS.2.2 hd
theorem s_vreturn {post : ih_Sg → Prop} (C : ih_Ok x w A cc nL own Ts rm none) (hA : A = ih_A w sh x.2.2.2.2.1.heap.size) (hd : decode cc pc = .ok (.return_, 1)) (hp : post S) : ih_Mw x w sh A (MQ x.2.2.2.2.2.2.2.1 (va_Qv post (ih_B w sh x.2.2.2.2.1.heap.size) (ih_A w sh x.2.2.2.2.1.heap.size)) x.2.2.2.2.2.2.1 x.2.2.2.2.1 0 0 A) nL 0 0 pc lv [] S := by
  subst hA
  intro H locs ls hP hD hS hl
  exact W.vret (hlocks := C.2.2.2.1) C.1.1 C.1.2.1 C.2.2.2.2.2 (fun t ht hW => ⟨⟨S, rfl, hp, by rw [ht]; exact hP, hD⟩, hS.F ht⟩) hS.2.2 hd
theorem s_areturn {post : ih_Sg × Nat → Prop} {k : Nat} {t0 : FieldType} (C : ih_Ok x w A cc nL own Ts rm (some (.array t0))) (hA : A = ih_A w sh x.2.2.2.2.1.heap.size) (hd : decode cc pc = .ok (.areturn, 1)) (hp : post (S, k)) : ih_Mw x w sh A (MQ x.2.2.2.2.2.2.2.1 (va_Qr post (ih_Br w sh x.2.2.2.2.1.heap.size) (ih_A w sh x.2.2.2.2.1.heap.size)) x.2.2.2.2.2.2.1 x.2.2.2.2.1 0 0 A) nL 0 0 pc lv [.ref (w.2.2 k)] S := by
  subst hA
  intro H locs ls hP hD hS hl
  exact W.aret (hlocks := C.2.2.2.1) C.1.1 C.1.2.1 C.2.2.2.2.2 (Or.inr ⟨_, rfl⟩) (Or.inr ⟨_, rfl⟩) (fun t ht hW => ⟨⟨(S, k), w.2.2 k, rfl, hp, rfl, by rw [ht]; exact hP, hD⟩, hS.F ht⟩) hS.2.2 hd
theorem ih_goi {post : Int32 → ih_Sg → Prop} {H : Heap} {locs : List Loc} {ls : Array Slot} {stk : List Value} {a : Array Value} {cells slots : Nat} (C : ih_Ok x w A cc nL own Ts rm ret)
    (hr : va_Run x.1 x.2.1 x.2.2.1 x.2.2.2.1 x.2.2.2.2.1 x.2.2.2.2.2.1 x.2.2.2.2.2.2.1 x.2.2.2.2.2.2.2.1 x.2.2.2.2.2.2.2.2.1 x.2.2.2.2.2.2.2.2.2 H locs cells slots 0 0 (F0 x.2.2.2.2.2.1 pc ls stk) st (va_Qi post (ih_B w sh H.size) (ih_A w sh H.size) a) (ih_A w sh H.size))
    (hD : va_D A (ih_wl w sh S)) (hS : va_S A x.2.2.2.2.1.heap H locs) (hl : lv_has ls nL lv) (kk : ∀ (r : Int32) (S' : ih_Sg), post r S' → ih_Mw x w sh A Q nL cells slots (pc + 3) lv (.int r :: st) S') : ih_W x H locs cells slots Q (ih_F x pc ls stk) := by
  have hF := ih_A_in hD C.2.2.1 hS
  refine va_calli hr hS (fun q _ h => hF q h) hF (fun r u t H1 locs1 ht hvm hpost hB hz1 hk1 hS1 => ?_)
  exact kk r u hpost H1 locs1 ls (by rw [← ht]; exact hB.1) (hB.2.weaken (fun _ q _ h => hF q.1 h)) hS1 hl
theorem ih_gov {post : ih_Sg → Prop} {H : Heap} {locs : List Loc} {ls : Array Slot} {stk : List Value} {a : Array Value} {cells slots : Nat} (C : ih_Ok x w A cc nL own Ts rm ret)
    (hr : va_Run x.1 x.2.1 x.2.2.1 x.2.2.2.1 x.2.2.2.2.1 x.2.2.2.2.2.1 x.2.2.2.2.2.2.1 x.2.2.2.2.2.2.2.1 x.2.2.2.2.2.2.2.2.1 x.2.2.2.2.2.2.2.2.2 H locs cells slots 0 0 (F0 x.2.2.2.2.2.1 pc ls stk) st (va_Qv post (ih_B w sh H.size) (ih_A w sh H.size) a) (ih_A w sh H.size))
    (hD : va_D A (ih_wl w sh S)) (hS : va_S A x.2.2.2.2.1.heap H locs) (hl : lv_has ls nL lv) (kk : ∀ (S' : ih_Sg), post S' → ih_Mw x w sh A Q nL cells slots (pc + 3) lv st S') : ih_W x H locs cells slots Q (ih_F x pc ls stk) := by
  have hF := ih_A_in hD C.2.2.1 hS
  refine va_callv hr hS (fun q _ h => hF q h) hF (fun u t H1 locs1 ht hvm hpost hB hz1 hk1 hS1 => ?_)
  exact kk u hpost H1 locs1 ls (by rw [← ht]; exact hB.1) (hB.2.weaken (fun _ q _ h => hF q.1 h)) hS1 hl
theorem ih_gor {post : ih_Sg × Nat → Prop} {H : Heap} {locs : List Loc} {ls : Array Slot} {stk : List Value} {a : Array Value} {cells slots : Nat} (C : ih_Ok x w A cc nL own Ts rm ret)
    (hr : va_Run x.1 x.2.1 x.2.2.1 x.2.2.2.1 x.2.2.2.2.1 x.2.2.2.2.2.1 x.2.2.2.2.2.2.1 x.2.2.2.2.2.2.2.1 x.2.2.2.2.2.2.2.2.1 x.2.2.2.2.2.2.2.2.2 H locs cells slots 0 0 (F0 x.2.2.2.2.2.1 pc ls stk) st (va_Qr post (ih_Br w sh H.size) (ih_A w sh H.size) a) (ih_A w sh H.size))
    (hD : va_D A (ih_wl w sh S)) (hS : va_S A x.2.2.2.2.1.heap H locs) (hl : lv_has ls nL lv) (kk : ∀ (S' : ih_Sg) (i : Nat), post (S', i) → ih_Mw x w sh A Q nL cells slots (pc + 3) lv (.ref (w.2.2 i) :: st) S') : ih_W x H locs cells slots Q (ih_F x pc ls stk) := by
  have hF := ih_A_in hD C.2.2.1 hS
  refine va_callr hr hS (fun q _ h => hF q h) hF (fun u ra t H1 locs1 ht hvm hpost hB hz1 hk1 hS1 => ?_)
  obtain ⟨rfl, hB1, hB2⟩ := hB
  exact kk u.1 u.2 hpost H1 locs1 ls (by rw [← ht]; exact hB1) (hB2.weaken (fun _ q _ h => hF q.1 h)) hS1 hl
variable {y : MethodName} {bytes : ByteArray} {maxL index d ci N k cells slots : Nat} {rt : Option FieldType} {ws ws' : List Cond} {Cn : String} {T : u_T}
theorem s_callVi {post : Int32 → ih_Sg → Prop} (n : Nat) {As stk : List Value} (C : ih_Ok x w A cc nL own Ts rm ret) (hM : ih_Ci x.2.1 y ws d w sh (.ref (w.2.2 k) :: As) S post) (hG : GoodIn Ts (wsV own index Cn y ws)) (hw : ws = Cond.code y bytes maxL rt :: ws') (hdd : y.cls = Cn ∧ y.cls ≠ "java/lang/invoke/MethodHandle" ∧ y.cls ≠ "java/lang/invoke/VarHandle" ∧ (parseMethodDescriptor y.desc).map (fun d => d.parameters.length) = some n) (hR : d + 1 ≤ rm.frames ∧ 8 + (maxL + 11) + 60 * d ≤ rm.locals) (hcs : cells ≤ rm.cells ∧ slots ≤ rm.slots) (hk : k < sh.2.2) (hkd : sh.1 k = ci) (h9 : ci < 9) (hc : vwCl[ci]? = some (Cn, T, N)) (hn : As.length = n) (hstk : stk = As.reverse ++ .ref (w.2.2 k) :: st) (hst : (st.map fun v => v.category).sum ≤ 8) (hd : decode cc pc = .ok (.invokevirtual index, 3)) (kk : ∀ (r : Int32) (S' : ih_Sg), post r S' → ih_Mw x w sh A Q nL cells slots (pc + 3) lv (.int r :: st) S') : ih_Mw x w sh A Q nL cells slots pc lv stk S := by
  intro H locs ls hP hD hS hl
  have he := ih_wl_get (w := w) (S := S) hk
  rw [hkd, ih_ce_o h9] at he
  have hR' : (ih_rm d).frames + 1 ≤ x.2.2.2.1.frames ∧ 8 + (maxL + 11) + (ih_rm d).locals ≤ x.2.2.2.1.locals := by rw [C.2.2.2.2.1]; exact hR
  exact ih_goi C (va_runV (As := As) (rest := st) C.1 (hM H.size) (cwV n C.1.2.2.2.2 hG hw rfl rfl hdd hR') ⟨ih_blind, va_recv C.2.1.1 hP hc he, fun U hU hW => ⟨rfl, by rw [hU], by rw [hU]; exact hP, ih_K.warm hW C.2.1, hD.weaken (fun _ _ _ _ => trivial)⟩⟩ rfl hn hl.1 hstk (lv_room hst) hd (by rw [C.2.2.2.2.1]; exact hcs)) hD hS hl kk
theorem s_callSi {post : Int32 → ih_Sg → Prop} (n : Nat) {As stk : List Value} (C : ih_Ok x w A cc nL own Ts rm ret) (hM : ih_Ci x.2.1 y ws d w sh As S post) (hG : GoodIn Ts (va_wsS own index y ws)) (hw : ws = Cond.code y bytes maxL rt :: ws') (hdd : y.cls ≠ "java/lang/invoke/MethodHandle" ∧ y.cls ≠ "java/lang/invoke/VarHandle" ∧ (parseMethodDescriptor y.desc).map (fun d => d.parameters.length) = some n) (hR : d + 1 ≤ rm.frames ∧ 8 + (maxL + 11) + 60 * d ≤ rm.locals) (hcs : cells ≤ rm.cells ∧ slots ≤ rm.slots) (hn : As.length = n) (hstk : stk = As.reverse ++ st) (hst : (st.map fun v => v.category).sum ≤ 8) (hd : decode cc pc = .ok (.invokestatic index, 3)) (kk : ∀ (r : Int32) (S' : ih_Sg), post r S' → ih_Mw x w sh A Q nL cells slots (pc + 3) lv (.int r :: st) S') : ih_Mw x w sh A Q nL cells slots pc lv stk S := by
  intro H locs ls hP hD hS hl
  have hR' : (ih_rm d).frames + 1 ≤ x.2.2.2.1.frames ∧ 8 + (maxL + 11) + (ih_rm d).locals ≤ x.2.2.2.1.locals := by rw [C.2.2.2.2.1]; exact hR
  exact ih_goi C (va_runS (As := As) (rest := st) C.1 (hM H.size) (va_cwS n C.1.2.2.2.2 hG hw rfl rfl hdd hR') ⟨ih_blind, fun U hU hW => ⟨rfl, by rw [hU], by rw [hU]; exact hP, ih_K.warm hW C.2.1, hD.weaken (fun _ _ _ _ => trivial)⟩⟩ rfl hn hl.1 hstk (lv_room hst) hd (by rw [C.2.2.2.2.1]; exact hcs)) hD hS hl kk
theorem s_callVv {post : ih_Sg → Prop} (n : Nat) {As stk : List Value} (C : ih_Ok x w A cc nL own Ts rm ret) (hM : ih_Cv x.2.1 y ws d w sh (.ref (w.2.2 k) :: As) S post) (hG : GoodIn Ts (wsV own index Cn y ws)) (hw : ws = Cond.code y bytes maxL rt :: ws') (hdd : y.cls = Cn ∧ y.cls ≠ "java/lang/invoke/MethodHandle" ∧ y.cls ≠ "java/lang/invoke/VarHandle" ∧ (parseMethodDescriptor y.desc).map (fun d => d.parameters.length) = some n) (hR : d + 1 ≤ rm.frames ∧ 8 + (maxL + 11) + 60 * d ≤ rm.locals) (hcs : cells ≤ rm.cells ∧ slots ≤ rm.slots) (hk : k < sh.2.2) (hkd : sh.1 k = ci) (h9 : ci < 9) (hc : vwCl[ci]? = some (Cn, T, N)) (hn : As.length = n) (hstk : stk = As.reverse ++ .ref (w.2.2 k) :: st) (hst : (st.map fun v => v.category).sum ≤ 8) (hd : decode cc pc = .ok (.invokevirtual index, 3)) (kk : ∀ (S' : ih_Sg), post S' → ih_Mw x w sh A Q nL cells slots (pc + 3) lv st S') : ih_Mw x w sh A Q nL cells slots pc lv stk S := by
  intro H locs ls hP hD hS hl
  have he := ih_wl_get (w := w) (S := S) hk
  rw [hkd, ih_ce_o h9] at he
  have hR' : (ih_rm d).frames + 1 ≤ x.2.2.2.1.frames ∧ 8 + (maxL + 11) + (ih_rm d).locals ≤ x.2.2.2.1.locals := by rw [C.2.2.2.2.1]; exact hR
  exact ih_gov C (va_runV (As := As) (rest := st) C.1 (hM H.size) (cwV n C.1.2.2.2.2 hG hw rfl rfl hdd hR') ⟨ih_blind, va_recv C.2.1.1 hP hc he, fun U hU hW => ⟨rfl, by rw [hU], by rw [hU]; exact hP, ih_K.warm hW C.2.1, hD.weaken (fun _ _ _ _ => trivial)⟩⟩ rfl hn hl.1 hstk (lv_room hst) hd (by rw [C.2.2.2.2.1]; exact hcs)) hD hS hl kk
theorem s_callSv {post : ih_Sg → Prop} (n : Nat) {As stk : List Value} (C : ih_Ok x w A cc nL own Ts rm ret) (hM : ih_Cv x.2.1 y ws d w sh As S post) (hG : GoodIn Ts (va_wsS own index y ws)) (hw : ws = Cond.code y bytes maxL rt :: ws') (hdd : y.cls ≠ "java/lang/invoke/MethodHandle" ∧ y.cls ≠ "java/lang/invoke/VarHandle" ∧ (parseMethodDescriptor y.desc).map (fun d => d.parameters.length) = some n) (hR : d + 1 ≤ rm.frames ∧ 8 + (maxL + 11) + 60 * d ≤ rm.locals) (hcs : cells ≤ rm.cells ∧ slots ≤ rm.slots) (hn : As.length = n) (hstk : stk = As.reverse ++ st) (hst : (st.map fun v => v.category).sum ≤ 8) (hd : decode cc pc = .ok (.invokestatic index, 3)) (kk : ∀ (S' : ih_Sg), post S' → ih_Mw x w sh A Q nL cells slots (pc + 3) lv st S') : ih_Mw x w sh A Q nL cells slots pc lv stk S := by
  intro H locs ls hP hD hS hl
  have hR' : (ih_rm d).frames + 1 ≤ x.2.2.2.1.frames ∧ 8 + (maxL + 11) + (ih_rm d).locals ≤ x.2.2.2.1.locals := by rw [C.2.2.2.2.1]; exact hR
  exact ih_gov C (va_runS (As := As) (rest := st) C.1 (hM H.size) (va_cwS n C.1.2.2.2.2 hG hw rfl rfl hdd hR') ⟨ih_blind, fun U hU hW => ⟨rfl, by rw [hU], by rw [hU]; exact hP, ih_K.warm hW C.2.1, hD.weaken (fun _ _ _ _ => trivial)⟩⟩ rfl hn hl.1 hstk (lv_room hst) hd (by rw [C.2.2.2.2.1]; exact hcs)) hD hS hl kk
theorem s_callVr {post : ih_Sg × Nat → Prop} (n : Nat) {As stk : List Value} (C : ih_Ok x w A cc nL own Ts rm ret) (hM : ih_Cr x.2.1 y ws d w sh (.ref (w.2.2 k) :: As) S post) (hG : GoodIn Ts (wsV own index Cn y ws)) (hw : ws = Cond.code y bytes maxL rt :: ws') (hdd : y.cls = Cn ∧ y.cls ≠ "java/lang/invoke/MethodHandle" ∧ y.cls ≠ "java/lang/invoke/VarHandle" ∧ (parseMethodDescriptor y.desc).map (fun d => d.parameters.length) = some n) (hR : d + 1 ≤ rm.frames ∧ 8 + (maxL + 11) + 60 * d ≤ rm.locals) (hcs : cells ≤ rm.cells ∧ slots ≤ rm.slots) (hk : k < sh.2.2) (hkd : sh.1 k = ci) (h9 : ci < 9) (hc : vwCl[ci]? = some (Cn, T, N)) (hn : As.length = n) (hstk : stk = As.reverse ++ .ref (w.2.2 k) :: st) (hst : (st.map fun v => v.category).sum ≤ 8) (hd : decode cc pc = .ok (.invokevirtual index, 3)) (kk : ∀ (S' : ih_Sg) (i : Nat), post (S', i) → ih_Mw x w sh A Q nL cells slots (pc + 3) lv (.ref (w.2.2 i) :: st) S') : ih_Mw x w sh A Q nL cells slots pc lv stk S := by
  intro H locs ls hP hD hS hl
  have he := ih_wl_get (w := w) (S := S) hk
  rw [hkd, ih_ce_o h9] at he
  have hR' : (ih_rm d).frames + 1 ≤ x.2.2.2.1.frames ∧ 8 + (maxL + 11) + (ih_rm d).locals ≤ x.2.2.2.1.locals := by rw [C.2.2.2.2.1]; exact hR
  exact ih_gor C (va_runV (As := As) (rest := st) C.1 (hM H.size) (cwV n C.1.2.2.2.2 hG hw rfl rfl hdd hR') ⟨ih_blind, va_recv C.2.1.1 hP hc he, fun U hU hW => ⟨rfl, by rw [hU], by rw [hU]; exact hP, ih_K.warm hW C.2.1, hD.weaken (fun _ _ _ _ => trivial)⟩⟩ rfl hn hl.1 hstk (lv_room hst) hd (by rw [C.2.2.2.2.1]; exact hcs)) hD hS hl kk
theorem s_callSr {post : ih_Sg × Nat → Prop} (n : Nat) {As stk : List Value} (C : ih_Ok x w A cc nL own Ts rm ret) (hM : ih_Cr x.2.1 y ws d w sh As S post) (hG : GoodIn Ts (va_wsS own index y ws)) (hw : ws = Cond.code y bytes maxL rt :: ws') (hdd : y.cls ≠ "java/lang/invoke/MethodHandle" ∧ y.cls ≠ "java/lang/invoke/VarHandle" ∧ (parseMethodDescriptor y.desc).map (fun d => d.parameters.length) = some n) (hR : d + 1 ≤ rm.frames ∧ 8 + (maxL + 11) + 60 * d ≤ rm.locals) (hcs : cells ≤ rm.cells ∧ slots ≤ rm.slots) (hn : As.length = n) (hstk : stk = As.reverse ++ st) (hst : (st.map fun v => v.category).sum ≤ 8) (hd : decode cc pc = .ok (.invokestatic index, 3)) (kk : ∀ (S' : ih_Sg) (i : Nat), post (S', i) → ih_Mw x w sh A Q nL cells slots (pc + 3) lv (.ref (w.2.2 i) :: st) S') : ih_Mw x w sh A Q nL cells slots pc lv stk S := by
  intro H locs ls hP hD hS hl
  have hR' : (ih_rm d).frames + 1 ≤ x.2.2.2.1.frames ∧ 8 + (maxL + 11) + (ih_rm d).locals ≤ x.2.2.2.1.locals := by rw [C.2.2.2.2.1]; exact hR
  exact ih_gor C (va_runS (As := As) (rest := st) C.1 (hM H.size) (va_cwS n C.1.2.2.2.2 hG hw rfl rfl hdd hR') ⟨ih_blind, fun U hU hW => ⟨rfl, by rw [hU], by rw [hU]; exact hP, ih_K.warm hW C.2.1, hD.weaken (fun _ _ _ _ => trivial)⟩⟩ rfl hn hl.1 hstk (lv_room hst) hd (by rw [C.2.2.2.2.1]; exact hcs)) hD hS hl kk
theorem s_callVNi {post : Int32 → ih_Sg → Prop} (n : Nat) {As stk : List Value} {host : String} (C : ih_Ok x w A cc nL own Ts rm ret) (hM : ih_Ci x.2.1 y ws d w sh (.ref (w.2.2 k) :: As) S post) (hG : GoodIn Ts ws) (hN : va_Nw (.methodLinkNest own index y host) x.2.2.2.2.1) (hini : Cond.initialized y.cls ∈ Ts) (him : Cond.instanceMethod y ∈ Ts) (hse : Cond.selects Cn y y ∈ Ts) (hw : ws = Cond.code y bytes maxL rt :: ws') (hdd : y.cls ≠ "java/lang/invoke/MethodHandle" ∧ y.cls ≠ "java/lang/invoke/VarHandle" ∧ (parseMethodDescriptor y.desc).map (fun d => d.parameters.length) = some n) (hR : d + 1 ≤ rm.frames ∧ 8 + (maxL + 11) + 60 * d ≤ rm.locals) (hcs : cells ≤ rm.cells ∧ slots ≤ rm.slots) (hk : k < sh.2.2) (hkd : sh.1 k = ci) (h9 : ci < 9) (hc : vwCl[ci]? = some (Cn, T, N)) (hn : As.length = n) (hstk : stk = As.reverse ++ .ref (w.2.2 k) :: st) (hst : (st.map fun v => v.category).sum ≤ 8) (hd : decode cc pc = .ok (.invokevirtual index, 3)) (kk : ∀ (r : Int32) (S' : ih_Sg), post r S' → ih_Mw x w sh A Q nL cells slots (pc + 3) lv (.int r :: st) S') : ih_Mw x w sh A Q nL cells slots pc lv stk S := by
  intro H locs ls hP hD hS hl
  have he := ih_wl_get (w := w) (S := S) hk
  rw [hkd, ih_ce_o h9] at he
  have hR' : (ih_rm d).frames + 1 ≤ x.2.2.2.1.frames ∧ 8 + (maxL + 11) + (ih_rm d).locals ≤ x.2.2.2.1.locals := by rw [C.2.2.2.2.1]; exact hR
  exact ih_goi C (va_runVN (As := As) (rest := st) C.1 (hM H.size) ⟨va_cnB n C.1.2.2.2.2 hG hw rfl rfl hN (C.1.2.2.2.2 _ hini) hdd hR', C.1.2.2.2.2 _ him, C.1.2.2.2.2 _ hse⟩ ⟨ih_blind, va_recv C.2.1.1 hP hc he, fun U hU hW => ⟨rfl, by rw [hU], by rw [hU]; exact hP, ih_K.warm hW C.2.1, hD.weaken (fun _ _ _ _ => trivial)⟩⟩ rfl hn hl.1 hstk (lv_room hst) hd (by rw [C.2.2.2.2.1]; exact hcs)) hD hS hl kk
theorem s_callSNi {post : Int32 → ih_Sg → Prop} (n : Nat) {As stk : List Value} {host : String} (C : ih_Ok x w A cc nL own Ts rm ret) (hM : ih_Ci x.2.1 y ws d w sh As S post) (hG : GoodIn Ts ws) (hN : va_Nw (.methodLinkNest own index y host) x.2.2.2.2.1) (hini : Cond.initialized y.cls ∈ Ts) (hsm : Cond.static y ∈ Ts) (hw : ws = Cond.code y bytes maxL rt :: ws') (hdd : y.cls ≠ "java/lang/invoke/MethodHandle" ∧ y.cls ≠ "java/lang/invoke/VarHandle" ∧ (parseMethodDescriptor y.desc).map (fun d => d.parameters.length) = some n) (hR : d + 1 ≤ rm.frames ∧ 8 + (maxL + 11) + 60 * d ≤ rm.locals) (hcs : cells ≤ rm.cells ∧ slots ≤ rm.slots) (hn : As.length = n) (hstk : stk = As.reverse ++ st) (hst : (st.map fun v => v.category).sum ≤ 8) (hd : decode cc pc = .ok (.invokestatic index, 3)) (kk : ∀ (r : Int32) (S' : ih_Sg), post r S' → ih_Mw x w sh A Q nL cells slots (pc + 3) lv (.int r :: st) S') : ih_Mw x w sh A Q nL cells slots pc lv stk S := by
  intro H locs ls hP hD hS hl
  have hR' : (ih_rm d).frames + 1 ≤ x.2.2.2.1.frames ∧ 8 + (maxL + 11) + (ih_rm d).locals ≤ x.2.2.2.1.locals := by rw [C.2.2.2.2.1]; exact hR
  exact ih_goi C (va_runSN (As := As) (rest := st) C.1 (hM H.size) ⟨va_cnB n C.1.2.2.2.2 hG hw rfl rfl hN (C.1.2.2.2.2 _ hini) hdd hR', C.1.2.2.2.2 _ hsm, trivial⟩ ⟨ih_blind, fun U hU hW => ⟨rfl, by rw [hU], by rw [hU]; exact hP, ih_K.warm hW C.2.1, hD.weaken (fun _ _ _ _ => trivial)⟩⟩ rfl hn hl.1 hstk (lv_room hst) hd (by rw [C.2.2.2.2.1]; exact hcs)) hD hS hl kk
end IhCalls
end
section
theorem zz_probe : True := trivial
end
