-- ===== PART A: goes FIRST, ahead of the names: the tables' words, and 'selects' of the private methods out of them =====
/-- a private method of a class that the tables say can be made, by its rows of tables_1 -/
def lw_okq (q : MethodName × Nat) : Prop := (q.1.cls ≠ "java/lang/invoke/MethodHandle" ∧ q.1.cls ≠ "java/lang/invoke/VarHandle") ∧ Cond.instantiable q.1.cls q.2 ∈ tables_1 ∧ Cond.privateMethod q.1 ∈ tables_1 ∧ Cond.instanceMethod q.1 ∈ tables_1
theorem lw_p0 : lw_okq (⟨"BentGrounds", "refuse", "(I)I"⟩, 18) := ⟨⟨by decide +kernel, by decide +kernel⟩, List.mem_of_getElem? (i := 13) (by decide +kernel), List.mem_of_getElem? (i := 251) (by decide +kernel), List.mem_of_getElem? (i := 252) (by decide +kernel)⟩
theorem lw_p1 : lw_okq (⟨"BentGrounds$Table", "minor2", "(II)J"⟩, 6) := ⟨⟨by decide +kernel, by decide +kernel⟩, List.mem_of_getElem? (i := 25) (by decide +kernel), List.mem_of_getElem? (i := 322) (by decide +kernel), List.mem_of_getElem? (i := 323) (by decide +kernel)⟩
theorem lw_p2 : lw_okq (⟨"BentGrounds$Table", "pairOf", "(III)J"⟩, 6) := ⟨⟨by decide +kernel, by decide +kernel⟩, List.mem_of_getElem? (i := 25) (by decide +kernel), List.mem_of_getElem? (i := 334) (by decide +kernel), List.mem_of_getElem? (i := 335) (by decide +kernel)⟩
theorem lw_p3 : lw_okq (⟨"BentGrounds$Ground", "kindBySigns", "()I"⟩, 3) := ⟨⟨by decide +kernel, by decide +kernel⟩, List.mem_of_getElem? (i := 168) (by decide +kernel), List.mem_of_getElem? (i := 357) (by decide +kernel), List.mem_of_getElem? (i := 358) (by decide +kernel)⟩
theorem lw_p4 : lw_okq (⟨"BentGrounds", "refusedGround", "(I)I"⟩, 18) := ⟨⟨by decide +kernel, by decide +kernel⟩, List.mem_of_getElem? (i := 13) (by decide +kernel), List.mem_of_getElem? (i := 381) (by decide +kernel), List.mem_of_getElem? (i := 382) (by decide +kernel)⟩
theorem lw_p5 : lw_okq (⟨"BentGrounds", "refusedPair", "(II)I"⟩, 18) := ⟨⟨by decide +kernel, by decide +kernel⟩, List.mem_of_getElem? (i := 13) (by decide +kernel), List.mem_of_getElem? (i := 385) (by decide +kernel), List.mem_of_getElem? (i := 386) (by decide +kernel)⟩
theorem lw_p6 : lw_okq (⟨"BentGrounds$Table", "exchange", "(II)V"⟩, 6) := ⟨⟨by decide +kernel, by decide +kernel⟩, List.mem_of_getElem? (i := 25) (by decide +kernel), List.mem_of_getElem? (i := 456) (by decide +kernel), List.mem_of_getElem? (i := 457) (by decide +kernel)⟩
theorem lw_p7 : lw_okq (⟨"BentGrounds", "refusedAt", "(II)I"⟩, 18) := ⟨⟨by decide +kernel, by decide +kernel⟩, List.mem_of_getElem? (i := 13) (by decide +kernel), List.mem_of_getElem? (i := 476) (by decide +kernel), List.mem_of_getElem? (i := 477) (by decide +kernel)⟩
theorem lw_p8 : lw_okq (⟨"BentGrounds", "placesFinding", "(LBentGrounds$Sheet;LBentGrounds$Sheet;)I"⟩, 18) := ⟨⟨by decide +kernel, by decide +kernel⟩, List.mem_of_getElem? (i := 13) (by decide +kernel), List.mem_of_getElem? (i := 480) (by decide +kernel), List.mem_of_getElem? (i := 481) (by decide +kernel)⟩
theorem lw_p9 : lw_okq (⟨"BentGrounds", "tellFraction", "(JJ)V"⟩, 18) := ⟨⟨by decide +kernel, by decide +kernel⟩, List.mem_of_getElem? (i := 13) (by decide +kernel), List.mem_of_getElem? (i := 544) (by decide +kernel), List.mem_of_getElem? (i := 545) (by decide +kernel)⟩
theorem lw_p10 : lw_okq (⟨"BentGrounds", "refusedPencil", "(II)I"⟩, 18) := ⟨⟨by decide +kernel, by decide +kernel⟩, List.mem_of_getElem? (i := 13) (by decide +kernel), List.mem_of_getElem? (i := 558) (by decide +kernel), List.mem_of_getElem? (i := 559) (by decide +kernel)⟩
theorem lw_p11 : lw_okq (⟨"BentGrounds$Form", "worthOf", "(LBentGrounds$Table;ILBentGrounds$Table;I)J"⟩, 10) := ⟨⟨by decide +kernel, by decide +kernel⟩, List.mem_of_getElem? (i := 57) (by decide +kernel), List.mem_of_getElem? (i := 566) (by decide +kernel), List.mem_of_getElem? (i := 567) (by decide +kernel)⟩
theorem lw_p12 : lw_okq (⟨"BentGrounds$Form", "figuresOfFour", "()I"⟩, 10) := ⟨⟨by decide +kernel, by decide +kernel⟩, List.mem_of_getElem? (i := 57) (by decide +kernel), List.mem_of_getElem? (i := 605) (by decide +kernel), List.mem_of_getElem? (i := 606) (by decide +kernel)⟩
theorem lw_p13 : lw_okq (⟨"BentGrounds$Form", "signOfApartness", "()I"⟩, 10) := ⟨⟨by decide +kernel, by decide +kernel⟩, List.mem_of_getElem? (i := 57) (by decide +kernel), List.mem_of_getElem? (i := 609) (by decide +kernel), List.mem_of_getElem? (i := 610) (by decide +kernel)⟩
theorem lw_p14 : lw_okq (⟨"BentGrounds$Form", "eightACLessThreeBB", "()J"⟩, 10) := ⟨⟨by decide +kernel, by decide +kernel⟩, List.mem_of_getElem? (i := 57) (by decide +kernel), List.mem_of_getElem? (i := 627) (by decide +kernel), List.mem_of_getElem? (i := 628) (by decide +kernel)⟩
theorem lw_p15 : lw_okq (⟨"BentGrounds$Form", "signOfSpread", "()I"⟩, 10) := ⟨⟨by decide +kernel, by decide +kernel⟩, List.mem_of_getElem? (i := 57) (by decide +kernel), List.mem_of_getElem? (i := 632) (by decide +kernel), List.mem_of_getElem? (i := 633) (by decide +kernel)⟩
def lw_privs_1 : List (MethodName × Nat) := [(⟨"BentGrounds", "refuse", "(I)I"⟩, 18), (⟨"BentGrounds$Table", "minor2", "(II)J"⟩, 6), (⟨"BentGrounds$Table", "pairOf", "(III)J"⟩, 6), (⟨"BentGrounds$Ground", "kindBySigns", "()I"⟩, 3), (⟨"BentGrounds", "refusedGround", "(I)I"⟩, 18), (⟨"BentGrounds", "refusedPair", "(II)I"⟩, 18), (⟨"BentGrounds$Table", "exchange", "(II)V"⟩, 6), (⟨"BentGrounds", "refusedAt", "(II)I"⟩, 18), (⟨"BentGrounds", "placesFinding", "(LBentGrounds$Sheet;LBentGrounds$Sheet;)I"⟩, 18), (⟨"BentGrounds", "tellFraction", "(JJ)V"⟩, 18), (⟨"BentGrounds", "refusedPencil", "(II)I"⟩, 18), (⟨"BentGrounds$Form", "worthOf", "(LBentGrounds$Table;ILBentGrounds$Table;I)J"⟩, 10), (⟨"BentGrounds$Form", "figuresOfFour", "()I"⟩, 10), (⟨"BentGrounds$Form", "signOfApartness", "()I"⟩, 10), (⟨"BentGrounds$Form", "eightACLessThreeBB", "()J"⟩, 10), (⟨"BentGrounds$Form", "signOfSpread", "()I"⟩, 10)]
theorem lw_r1 : ∀ q ∈ lw_privs_1, lw_okq q := List.forall_mem_cons.mpr ⟨lw_p0, List.forall_mem_cons.mpr ⟨lw_p1, List.forall_mem_cons.mpr ⟨lw_p2, List.forall_mem_cons.mpr ⟨lw_p3, List.forall_mem_cons.mpr ⟨lw_p4, List.forall_mem_cons.mpr ⟨lw_p5, List.forall_mem_cons.mpr ⟨lw_p6, List.forall_mem_cons.mpr ⟨lw_p7, List.forall_mem_cons.mpr ⟨lw_p8, List.forall_mem_cons.mpr ⟨lw_p9, List.forall_mem_cons.mpr ⟨lw_p10, List.forall_mem_cons.mpr ⟨lw_p11, List.forall_mem_cons.mpr ⟨lw_p12, List.forall_mem_cons.mpr ⟨lw_p13, List.forall_mem_cons.mpr ⟨lw_p14, List.forall_mem_cons.mpr ⟨lw_p15, fun _ h => absurd h List.not_mem_nil⟩⟩⟩⟩⟩⟩⟩⟩⟩⟩⟩⟩⟩⟩⟩⟩
theorem lw_p16 : lw_okq (⟨"BentGrounds$Form", "leaning", "()J"⟩, 10) := ⟨⟨by decide +kernel, by decide +kernel⟩, List.mem_of_getElem? (i := 57) (by decide +kernel), List.mem_of_getElem? (i := 636) (by decide +kernel), List.mem_of_getElem? (i := 637) (by decide +kernel)⟩
theorem lw_p17 : lw_okq (⟨"BentGrounds$Form", "figuresOfThree", "()I"⟩, 10) := ⟨⟨by decide +kernel, by decide +kernel⟩, List.mem_of_getElem? (i := 57) (by decide +kernel), List.mem_of_getElem? (i := 641) (by decide +kernel), List.mem_of_getElem? (i := 642) (by decide +kernel)⟩
theorem lw_p18 : lw_okq (⟨"BentGrounds$Form", "figuresOfTwo", "()I"⟩, 10) := ⟨⟨by decide +kernel, by decide +kernel⟩, List.mem_of_getElem? (i := 57) (by decide +kernel), List.mem_of_getElem? (i := 645) (by decide +kernel), List.mem_of_getElem? (i := 646) (by decide +kernel)⟩
theorem lw_p19 : lw_okq (⟨"BentGrounds$Form", "findFractionsBy", "(I)V"⟩, 10) := ⟨⟨by decide +kernel, by decide +kernel⟩, List.mem_of_getElem? (i := 57) (by decide +kernel), List.mem_of_getElem? (i := 662) (by decide +kernel), List.mem_of_getElem? (i := 663) (by decide +kernel)⟩
theorem lw_p20 : lw_okq (⟨"BentGrounds$Form", "keepFraction", "(II)V"⟩, 10) := ⟨⟨by decide +kernel, by decide +kernel⟩, List.mem_of_getElem? (i := 57) (by decide +kernel), List.mem_of_getElem? (i := 674) (by decide +kernel), List.mem_of_getElem? (i := 675) (by decide +kernel)⟩
theorem lw_p21 : lw_okq (⟨"BentGrounds", "meeting", "(LBentGrounds$Ground;LBentGrounds$Ground;LBentGrounds$Table;)I"⟩, 18) := ⟨⟨by decide +kernel, by decide +kernel⟩, List.mem_of_getElem? (i := 13) (by decide +kernel), List.mem_of_getElem? (i := 708) (by decide +kernel), List.mem_of_getElem? (i := 709) (by decide +kernel)⟩
theorem lw_p22 : lw_okq (⟨"BentGrounds$Search", "keep", "(III)V"⟩, 2) := ⟨⟨by decide +kernel, by decide +kernel⟩, List.mem_of_getElem? (i := 140) (by decide +kernel), List.mem_of_getElem? (i := 743) (by decide +kernel), List.mem_of_getElem? (i := 744) (by decide +kernel)⟩
theorem lw_p23 : lw_okq (⟨"BentGrounds", "sheetsThere", "()I"⟩, 18) := ⟨⟨by decide +kernel, by decide +kernel⟩, List.mem_of_getElem? (i := 13) (by decide +kernel), List.mem_of_getElem? (i := 771) (by decide +kernel), List.mem_of_getElem? (i := 772) (by decide +kernel)⟩
theorem lw_p24 : lw_okq (⟨"BentGrounds", "groundsThere", "(I)I"⟩, 18) := ⟨⟨by decide +kernel, by decide +kernel⟩, List.mem_of_getElem? (i := 13) (by decide +kernel), List.mem_of_getElem? (i := 775) (by decide +kernel), List.mem_of_getElem? (i := 776) (by decide +kernel)⟩
theorem lw_p25 : lw_okq (⟨"BentGroundsModel", "meets", "(I)I"⟩, 48) := ⟨⟨by decide +kernel, by decide +kernel⟩, List.mem_of_getElem? (i := 806) (by decide +kernel), List.mem_of_getElem? (i := 968) (by decide +kernel), List.mem_of_getElem? (i := 969) (by decide +kernel)⟩
theorem lw_p26 : lw_okq (⟨"BentGroundsModel", "clear", "(II)V"⟩, 48) := ⟨⟨by decide +kernel, by decide +kernel⟩, List.mem_of_getElem? (i := 806) (by decide +kernel), List.mem_of_getElem? (i := 972) (by decide +kernel), List.mem_of_getElem? (i := 973) (by decide +kernel)⟩
theorem lw_p27 : lw_okq (⟨"BentGroundsModel", "looked", "(I)I"⟩, 48) := ⟨⟨by decide +kernel, by decide +kernel⟩, List.mem_of_getElem? (i := 806) (by decide +kernel), List.mem_of_getElem? (i := 980) (by decide +kernel), List.mem_of_getElem? (i := 981) (by decide +kernel)⟩
theorem lw_p28 : lw_okq (⟨"BentGroundsModel", "setFacts", "(I)I"⟩, 48) := ⟨⟨by decide +kernel, by decide +kernel⟩, List.mem_of_getElem? (i := 806) (by decide +kernel), List.mem_of_getElem? (i := 1008) (by decide +kernel), List.mem_of_getElem? (i := 1009) (by decide +kernel)⟩
theorem lw_p29 : lw_okq (⟨"BentGroundsModel", "layTable", "(I)V"⟩, 48) := ⟨⟨by decide +kernel, by decide +kernel⟩, List.mem_of_getElem? (i := 806) (by decide +kernel), List.mem_of_getElem? (i := 1012) (by decide +kernel), List.mem_of_getElem? (i := 1013) (by decide +kernel)⟩
theorem lw_p30 : lw_okq (⟨"BentGroundsModel", "layFour", "()V"⟩, 48) := ⟨⟨by decide +kernel, by decide +kernel⟩, List.mem_of_getElem? (i := 806) (by decide +kernel), List.mem_of_getElem? (i := 1016) (by decide +kernel), List.mem_of_getElem? (i := 1017) (by decide +kernel)⟩
theorem lw_p31 : lw_okq (⟨"BentGroundsModel", "two", "(II)J"⟩, 48) := ⟨⟨by decide +kernel, by decide +kernel⟩, List.mem_of_getElem? (i := 806) (by decide +kernel), List.mem_of_getElem? (i := 1020) (by decide +kernel), List.mem_of_getElem? (i := 1021) (by decide +kernel)⟩
def lw_privs_2 : List (MethodName × Nat) := [(⟨"BentGrounds$Form", "leaning", "()J"⟩, 10), (⟨"BentGrounds$Form", "figuresOfThree", "()I"⟩, 10), (⟨"BentGrounds$Form", "figuresOfTwo", "()I"⟩, 10), (⟨"BentGrounds$Form", "findFractionsBy", "(I)V"⟩, 10), (⟨"BentGrounds$Form", "keepFraction", "(II)V"⟩, 10), (⟨"BentGrounds", "meeting", "(LBentGrounds$Ground;LBentGrounds$Ground;LBentGrounds$Table;)I"⟩, 18), (⟨"BentGrounds$Search", "keep", "(III)V"⟩, 2), (⟨"BentGrounds", "sheetsThere", "()I"⟩, 18), (⟨"BentGrounds", "groundsThere", "(I)I"⟩, 18), (⟨"BentGroundsModel", "meets", "(I)I"⟩, 48), (⟨"BentGroundsModel", "clear", "(II)V"⟩, 48), (⟨"BentGroundsModel", "looked", "(I)I"⟩, 48), (⟨"BentGroundsModel", "setFacts", "(I)I"⟩, 48), (⟨"BentGroundsModel", "layTable", "(I)V"⟩, 48), (⟨"BentGroundsModel", "layFour", "()V"⟩, 48), (⟨"BentGroundsModel", "two", "(II)J"⟩, 48)]
theorem lw_r2 : ∀ q ∈ lw_privs_2, lw_okq q := List.forall_mem_cons.mpr ⟨lw_p16, List.forall_mem_cons.mpr ⟨lw_p17, List.forall_mem_cons.mpr ⟨lw_p18, List.forall_mem_cons.mpr ⟨lw_p19, List.forall_mem_cons.mpr ⟨lw_p20, List.forall_mem_cons.mpr ⟨lw_p21, List.forall_mem_cons.mpr ⟨lw_p22, List.forall_mem_cons.mpr ⟨lw_p23, List.forall_mem_cons.mpr ⟨lw_p24, List.forall_mem_cons.mpr ⟨lw_p25, List.forall_mem_cons.mpr ⟨lw_p26, List.forall_mem_cons.mpr ⟨lw_p27, List.forall_mem_cons.mpr ⟨lw_p28, List.forall_mem_cons.mpr ⟨lw_p29, List.forall_mem_cons.mpr ⟨lw_p30, List.forall_mem_cons.mpr ⟨lw_p31, fun _ h => absurd h List.not_mem_nil⟩⟩⟩⟩⟩⟩⟩⟩⟩⟩⟩⟩⟩⟩⟩⟩
theorem lw_p32 : lw_okq (⟨"BentGroundsModel", "three", "(III)J"⟩, 48) := ⟨⟨by decide +kernel, by decide +kernel⟩, List.mem_of_getElem? (i := 806) (by decide +kernel), List.mem_of_getElem? (i := 1024) (by decide +kernel), List.mem_of_getElem? (i := 1025) (by decide +kernel)⟩
theorem lw_p33 : lw_okq (⟨"BentGroundsModel", "laySigns", "(IJJJJ)V"⟩, 48) := ⟨⟨by decide +kernel, by decide +kernel⟩, List.mem_of_getElem? (i := 806) (by decide +kernel), List.mem_of_getElem? (i := 1034) (by decide +kernel), List.mem_of_getElem? (i := 1035) (by decide +kernel)⟩
theorem lw_p34 : lw_okq (⟨"BentGroundsModel", "layThree", "()V"⟩, 48) := ⟨⟨by decide +kernel, by decide +kernel⟩, List.mem_of_getElem? (i := 806) (by decide +kernel), List.mem_of_getElem? (i := 1041) (by decide +kernel), List.mem_of_getElem? (i := 1042) (by decide +kernel)⟩
theorem lw_p35 : lw_okq (⟨"BentGroundsModel", "askedFor", "(I)I"⟩, 48) := ⟨⟨by decide +kernel, by decide +kernel⟩, List.mem_of_getElem? (i := 806) (by decide +kernel), List.mem_of_getElem? (i := 1052) (by decide +kernel), List.mem_of_getElem? (i := 1053) (by decide +kernel)⟩
theorem lw_p36 : lw_okq (⟨"BentGroundsModel", "ask", "(II)I"⟩, 48) := ⟨⟨by decide +kernel, by decide +kernel⟩, List.mem_of_getElem? (i := 806) (by decide +kernel), List.mem_of_getElem? (i := 1060) (by decide +kernel), List.mem_of_getElem? (i := 1061) (by decide +kernel)⟩
theorem lw_p37 : lw_okq (⟨"BentGroundsModel", "changes", "(I)Z"⟩, 48) := ⟨⟨by decide +kernel, by decide +kernel⟩, List.mem_of_getElem? (i := 806) (by decide +kernel), List.mem_of_getElem? (i := 1072) (by decide +kernel), List.mem_of_getElem? (i := 1073) (by decide +kernel)⟩
theorem lw_p38 : lw_okq (⟨"BentGroundsModel", "askedTwo", "(II)I"⟩, 48) := ⟨⟨by decide +kernel, by decide +kernel⟩, List.mem_of_getElem? (i := 806) (by decide +kernel), List.mem_of_getElem? (i := 1098) (by decide +kernel), List.mem_of_getElem? (i := 1099) (by decide +kernel)⟩
theorem lw_p39 : lw_okq (⟨"BentGroundsModel", "askedPlace", "(II)I"⟩, 48) := ⟨⟨by decide +kernel, by decide +kernel⟩, List.mem_of_getElem? (i := 806) (by decide +kernel), List.mem_of_getElem? (i := 1110) (by decide +kernel), List.mem_of_getElem? (i := 1111) (by decide +kernel)⟩
theorem lw_p40 : lw_okq (⟨"BentGroundsModel", "readFour", "(I[I)I"⟩, 48) := ⟨⟨by decide +kernel, by decide +kernel⟩, List.mem_of_getElem? (i := 806) (by decide +kernel), List.mem_of_getElem? (i := 1114) (by decide +kernel), List.mem_of_getElem? (i := 1115) (by decide +kernel)⟩
theorem lw_p41 : lw_okq (⟨"BentGroundsModel", "both", "(I[I[I)I"⟩, 48) := ⟨⟨by decide +kernel, by decide +kernel⟩, List.mem_of_getElem? (i := 806) (by decide +kernel), List.mem_of_getElem? (i := 1118) (by decide +kernel), List.mem_of_getElem? (i := 1119) (by decide +kernel)⟩
theorem lw_p42 : lw_okq (⟨"BentGroundsModel", "tangentAt", "(II[I)I"⟩, 48) := ⟨⟨by decide +kernel, by decide +kernel⟩, List.mem_of_getElem? (i := 806) (by decide +kernel), List.mem_of_getElem? (i := 1122) (by decide +kernel), List.mem_of_getElem? (i := 1123) (by decide +kernel)⟩
theorem lw_p43 : lw_okq (⟨"BentGroundsModel", "layCut", "(I)V"⟩, 48) := ⟨⟨by decide +kernel, by decide +kernel⟩, List.mem_of_getElem? (i := 806) (by decide +kernel), List.mem_of_getElem? (i := 1142) (by decide +kernel), List.mem_of_getElem? (i := 1143) (by decide +kernel)⟩
theorem lw_p44 : lw_okq (⟨"BentGroundsModel", "share", "(JJI)I"⟩, 48) := ⟨⟨by decide +kernel, by decide +kernel⟩, List.mem_of_getElem? (i := 806) (by decide +kernel), List.mem_of_getElem? (i := 1158) (by decide +kernel), List.mem_of_getElem? (i := 1159) (by decide +kernel)⟩
theorem lw_p45 : lw_okq (⟨"BentGroundsModel", "layPair", "(II)V"⟩, 48) := ⟨⟨by decide +kernel, by decide +kernel⟩, List.mem_of_getElem? (i := 806) (by decide +kernel), List.mem_of_getElem? (i := 1172) (by decide +kernel), List.mem_of_getElem? (i := 1173) (by decide +kernel)⟩
theorem lw_p46 : lw_okq (⟨"BentGroundsModel", "layForm", "()V"⟩, 48) := ⟨⟨by decide +kernel, by decide +kernel⟩, List.mem_of_getElem? (i := 806) (by decide +kernel), List.mem_of_getElem? (i := 1176) (by decide +kernel), List.mem_of_getElem? (i := 1177) (by decide +kernel)⟩
theorem lw_p47 : lw_okq (⟨"BentGroundsModel", "partsPair", "(II)Z"⟩, 48) := ⟨⟨by decide +kernel, by decide +kernel⟩, List.mem_of_getElem? (i := 806) (by decide +kernel), List.mem_of_getElem? (i := 1188) (by decide +kernel), List.mem_of_getElem? (i := 1189) (by decide +kernel)⟩
def lw_privs_3 : List (MethodName × Nat) := [(⟨"BentGroundsModel", "three", "(III)J"⟩, 48), (⟨"BentGroundsModel", "laySigns", "(IJJJJ)V"⟩, 48), (⟨"BentGroundsModel", "layThree", "()V"⟩, 48), (⟨"BentGroundsModel", "askedFor", "(I)I"⟩, 48), (⟨"BentGroundsModel", "ask", "(II)I"⟩, 48), (⟨"BentGroundsModel", "changes", "(I)Z"⟩, 48), (⟨"BentGroundsModel", "askedTwo", "(II)I"⟩, 48), (⟨"BentGroundsModel", "askedPlace", "(II)I"⟩, 48), (⟨"BentGroundsModel", "readFour", "(I[I)I"⟩, 48), (⟨"BentGroundsModel", "both", "(I[I[I)I"⟩, 48), (⟨"BentGroundsModel", "tangentAt", "(II[I)I"⟩, 48), (⟨"BentGroundsModel", "layCut", "(I)V"⟩, 48), (⟨"BentGroundsModel", "share", "(JJI)I"⟩, 48), (⟨"BentGroundsModel", "layPair", "(II)V"⟩, 48), (⟨"BentGroundsModel", "layForm", "()V"⟩, 48), (⟨"BentGroundsModel", "partsPair", "(II)Z"⟩, 48)]
theorem lw_r3 : ∀ q ∈ lw_privs_3, lw_okq q := List.forall_mem_cons.mpr ⟨lw_p32, List.forall_mem_cons.mpr ⟨lw_p33, List.forall_mem_cons.mpr ⟨lw_p34, List.forall_mem_cons.mpr ⟨lw_p35, List.forall_mem_cons.mpr ⟨lw_p36, List.forall_mem_cons.mpr ⟨lw_p37, List.forall_mem_cons.mpr ⟨lw_p38, List.forall_mem_cons.mpr ⟨lw_p39, List.forall_mem_cons.mpr ⟨lw_p40, List.forall_mem_cons.mpr ⟨lw_p41, List.forall_mem_cons.mpr ⟨lw_p42, List.forall_mem_cons.mpr ⟨lw_p43, List.forall_mem_cons.mpr ⟨lw_p44, List.forall_mem_cons.mpr ⟨lw_p45, List.forall_mem_cons.mpr ⟨lw_p46, List.forall_mem_cons.mpr ⟨lw_p47, fun _ h => absurd h List.not_mem_nil⟩⟩⟩⟩⟩⟩⟩⟩⟩⟩⟩⟩⟩⟩⟩⟩
theorem lw_p48 : lw_okq (⟨"BentGroundsModel", "parts", "()Z"⟩, 48) := ⟨⟨by decide +kernel, by decide +kernel⟩, List.mem_of_getElem? (i := 806) (by decide +kernel), List.mem_of_getElem? (i := 1192) (by decide +kernel), List.mem_of_getElem? (i := 1193) (by decide +kernel)⟩
theorem lw_p49 : lw_okq (⟨"BentGroundsModel", "takeRoot", "(JJ)V"⟩, 48) := ⟨⟨by decide +kernel, by decide +kernel⟩, List.mem_of_getElem? (i := 806) (by decide +kernel), List.mem_of_getElem? (i := 1196) (by decide +kernel), List.mem_of_getElem? (i := 1197) (by decide +kernel)⟩
theorem lw_p50 : lw_okq (⟨"BentGroundsModel", "at", "(JJ)J"⟩, 48) := ⟨⟨by decide +kernel, by decide +kernel⟩, List.mem_of_getElem? (i := 806) (by decide +kernel), List.mem_of_getElem? (i := 1200) (by decide +kernel), List.mem_of_getElem? (i := 1201) (by decide +kernel)⟩
theorem lw_p51 : lw_okq (⟨"BentGroundsModel", "divide", "(JJ)V"⟩, 48) := ⟨⟨by decide +kernel, by decide +kernel⟩, List.mem_of_getElem? (i := 806) (by decide +kernel), List.mem_of_getElem? (i := 1204) (by decide +kernel), List.mem_of_getElem? (i := 1205) (by decide +kernel)⟩
theorem lw_p52 : lw_okq (⟨"BentGroundsModel", "tryRoot", "(JJ)V"⟩, 48) := ⟨⟨by decide +kernel, by decide +kernel⟩, List.mem_of_getElem? (i := 806) (by decide +kernel), List.mem_of_getElem? (i := 1208) (by decide +kernel), List.mem_of_getElem? (i := 1209) (by decide +kernel)⟩
theorem lw_p53 : lw_okq (⟨"BentGroundsModel", "slopeAt", "(JJ)J"⟩, 48) := ⟨⟨by decide +kernel, by decide +kernel⟩, List.mem_of_getElem? (i := 806) (by decide +kernel), List.mem_of_getElem? (i := 1212) (by decide +kernel), List.mem_of_getElem? (i := 1213) (by decide +kernel)⟩
theorem lw_p54 : lw_okq (⟨"BentGroundsModel", "sortRoots", "()V"⟩, 48) := ⟨⟨by decide +kernel, by decide +kernel⟩, List.mem_of_getElem? (i := 806) (by decide +kernel), List.mem_of_getElem? (i := 1216) (by decide +kernel), List.mem_of_getElem? (i := 1217) (by decide +kernel)⟩
theorem lw_p55 : lw_okq (⟨"BentGroundsModel", "layLeft", "()V"⟩, 48) := ⟨⟨by decide +kernel, by decide +kernel⟩, List.mem_of_getElem? (i := 806) (by decide +kernel), List.mem_of_getElem? (i := 1220) (by decide +kernel), List.mem_of_getElem? (i := 1221) (by decide +kernel)⟩
theorem lw_p56 : lw_okq (⟨"BentGroundsModel", "threeRoots", "()Z"⟩, 48) := ⟨⟨by decide +kernel, by decide +kernel⟩, List.mem_of_getElem? (i := 806) (by decide +kernel), List.mem_of_getElem? (i := 1225) (by decide +kernel), List.mem_of_getElem? (i := 1226) (by decide +kernel)⟩
theorem lw_p57 : lw_okq (⟨"BentGroundsModel", "layQuartic", "()V"⟩, 48) := ⟨⟨by decide +kernel, by decide +kernel⟩, List.mem_of_getElem? (i := 806) (by decide +kernel), List.mem_of_getElem? (i := 1231) (by decide +kernel), List.mem_of_getElem? (i := 1232) (by decide +kernel)⟩
theorem lw_p58 : lw_okq (⟨"BentGroundsModel", "times", "([JJ)V"⟩, 48) := ⟨⟨by decide +kernel, by decide +kernel⟩, List.mem_of_getElem? (i := 806) (by decide +kernel), List.mem_of_getElem? (i := 1244) (by decide +kernel), List.mem_of_getElem? (i := 1245) (by decide +kernel)⟩
theorem lw_p59 : lw_okq (⟨"BentGroundsModel", "compare", "()I"⟩, 48) := ⟨⟨by decide +kernel, by decide +kernel⟩, List.mem_of_getElem? (i := 806) (by decide +kernel), List.mem_of_getElem? (i := 1249) (by decide +kernel), List.mem_of_getElem? (i := 1250) (by decide +kernel)⟩
theorem lw_p60 : lw_okq (⟨"BentGroundsModel", "patternOf", "()I"⟩, 48) := ⟨⟨by decide +kernel, by decide +kernel⟩, List.mem_of_getElem? (i := 806) (by decide +kernel), List.mem_of_getElem? (i := 1258) (by decide +kernel), List.mem_of_getElem? (i := 1259) (by decide +kernel)⟩
theorem lw_p61 : lw_okq (⟨"BentGroundsModel", "leftBelow", "(JJ)I"⟩, 48) := ⟨⟨by decide +kernel, by decide +kernel⟩, List.mem_of_getElem? (i := 806) (by decide +kernel), List.mem_of_getElem? (i := 1262) (by decide +kernel), List.mem_of_getElem? (i := 1263) (by decide +kernel)⟩
theorem lw_p62 : lw_okq (⟨"BentGroundsModel", "timesOf", "(JJ)I"⟩, 48) := ⟨⟨by decide +kernel, by decide +kernel⟩, List.mem_of_getElem? (i := 806) (by decide +kernel), List.mem_of_getElem? (i := 1270) (by decide +kernel), List.mem_of_getElem? (i := 1271) (by decide +kernel)⟩
theorem lw_p63 : lw_okq (⟨"BentGroundsModel", "layTree", "(I)I"⟩, 48) := ⟨⟨by decide +kernel, by decide +kernel⟩, List.mem_of_getElem? (i := 806) (by decide +kernel), List.mem_of_getElem? (i := 1278) (by decide +kernel), List.mem_of_getElem? (i := 1279) (by decide +kernel)⟩
def lw_privs_4 : List (MethodName × Nat) := [(⟨"BentGroundsModel", "parts", "()Z"⟩, 48), (⟨"BentGroundsModel", "takeRoot", "(JJ)V"⟩, 48), (⟨"BentGroundsModel", "at", "(JJ)J"⟩, 48), (⟨"BentGroundsModel", "divide", "(JJ)V"⟩, 48), (⟨"BentGroundsModel", "tryRoot", "(JJ)V"⟩, 48), (⟨"BentGroundsModel", "slopeAt", "(JJ)J"⟩, 48), (⟨"BentGroundsModel", "sortRoots", "()V"⟩, 48), (⟨"BentGroundsModel", "layLeft", "()V"⟩, 48), (⟨"BentGroundsModel", "threeRoots", "()Z"⟩, 48), (⟨"BentGroundsModel", "layQuartic", "()V"⟩, 48), (⟨"BentGroundsModel", "times", "([JJ)V"⟩, 48), (⟨"BentGroundsModel", "compare", "()I"⟩, 48), (⟨"BentGroundsModel", "patternOf", "()I"⟩, 48), (⟨"BentGroundsModel", "leftBelow", "(JJ)I"⟩, 48), (⟨"BentGroundsModel", "timesOf", "(JJ)I"⟩, 48), (⟨"BentGroundsModel", "layTree", "(I)I"⟩, 48)]
theorem lw_r4 : ∀ q ∈ lw_privs_4, lw_okq q := List.forall_mem_cons.mpr ⟨lw_p48, List.forall_mem_cons.mpr ⟨lw_p49, List.forall_mem_cons.mpr ⟨lw_p50, List.forall_mem_cons.mpr ⟨lw_p51, List.forall_mem_cons.mpr ⟨lw_p52, List.forall_mem_cons.mpr ⟨lw_p53, List.forall_mem_cons.mpr ⟨lw_p54, List.forall_mem_cons.mpr ⟨lw_p55, List.forall_mem_cons.mpr ⟨lw_p56, List.forall_mem_cons.mpr ⟨lw_p57, List.forall_mem_cons.mpr ⟨lw_p58, List.forall_mem_cons.mpr ⟨lw_p59, List.forall_mem_cons.mpr ⟨lw_p60, List.forall_mem_cons.mpr ⟨lw_p61, List.forall_mem_cons.mpr ⟨lw_p62, List.forall_mem_cons.mpr ⟨lw_p63, fun _ h => absurd h List.not_mem_nil⟩⟩⟩⟩⟩⟩⟩⟩⟩⟩⟩⟩⟩⟩⟩⟩
theorem lw_p64 : lw_okq (⟨"BentGroundsModel", "isBall", "(I)Z"⟩, 48) := ⟨⟨by decide +kernel, by decide +kernel⟩, List.mem_of_getElem? (i := 806) (by decide +kernel), List.mem_of_getElem? (i := 1286) (by decide +kernel), List.mem_of_getElem? (i := 1287) (by decide +kernel)⟩
theorem lw_p65 : lw_okq (⟨"BentGroundsModel", "layMoved", "(I[IIII)V"⟩, 48) := ⟨⟨by decide +kernel, by decide +kernel⟩, List.mem_of_getElem? (i := 806) (by decide +kernel), List.mem_of_getElem? (i := 1290) (by decide +kernel), List.mem_of_getElem? (i := 1291) (by decide +kernel)⟩
theorem lw_p66 : lw_okq (⟨"BentGroundsModel", "apartOf", "()I"⟩, 48) := ⟨⟨by decide +kernel, by decide +kernel⟩, List.mem_of_getElem? (i := 806) (by decide +kernel), List.mem_of_getElem? (i := 1294) (by decide +kernel), List.mem_of_getElem? (i := 1295) (by decide +kernel)⟩
theorem lw_p67 : lw_okq (⟨"BentGroundsModel", "leftAbove", "()I"⟩, 48) := ⟨⟨by decide +kernel, by decide +kernel⟩, List.mem_of_getElem? (i := 806) (by decide +kernel), List.mem_of_getElem? (i := 1298) (by decide +kernel), List.mem_of_getElem? (i := 1299) (by decide +kernel)⟩
theorem lw_p68 : lw_okq (⟨"BentGroundsModel", "goThrough", "(IIII)I"⟩, 48) := ⟨⟨by decide +kernel, by decide +kernel⟩, List.mem_of_getElem? (i := 806) (by decide +kernel), List.mem_of_getElem? (i := 1310) (by decide +kernel), List.mem_of_getElem? (i := 1311) (by decide +kernel)⟩
theorem lw_p69 : lw_okq (⟨"BentGroundsModel", "mix", "(I)V"⟩, 48) := ⟨⟨by decide +kernel, by decide +kernel⟩, List.mem_of_getElem? (i := 806) (by decide +kernel), List.mem_of_getElem? (i := 1351) (by decide +kernel), List.mem_of_getElem? (i := 1352) (by decide +kernel)⟩
def lw_privs_5 : List (MethodName × Nat) := [(⟨"BentGroundsModel", "isBall", "(I)Z"⟩, 48), (⟨"BentGroundsModel", "layMoved", "(I[IIII)V"⟩, 48), (⟨"BentGroundsModel", "apartOf", "()I"⟩, 48), (⟨"BentGroundsModel", "leftAbove", "()I"⟩, 48), (⟨"BentGroundsModel", "goThrough", "(IIII)I"⟩, 48), (⟨"BentGroundsModel", "mix", "(I)V"⟩, 48)]
theorem lw_r5 : ∀ q ∈ lw_privs_5, lw_okq q := List.forall_mem_cons.mpr ⟨lw_p64, List.forall_mem_cons.mpr ⟨lw_p65, List.forall_mem_cons.mpr ⟨lw_p66, List.forall_mem_cons.mpr ⟨lw_p67, List.forall_mem_cons.mpr ⟨lw_p68, List.forall_mem_cons.mpr ⟨lw_p69, fun _ h => absurd h List.not_mem_nil⟩⟩⟩⟩⟩⟩
def lw_privs : List (MethodName × Nat) := lw_privs_1 ++ (lw_privs_2 ++ (lw_privs_3 ++ (lw_privs_4 ++ (lw_privs_5))))
def lw_tbl : List Cond := k2_sels lw_privs ++ tables_1
theorem lw_privs_ok : ∀ q ∈ lw_privs, lw_okq q := by
  show ∀ q ∈ lw_privs_1 ++ (lw_privs_2 ++ (lw_privs_3 ++ (lw_privs_4 ++ (lw_privs_5)))), lw_okq q
  exact List.forall_mem_append.mpr ⟨lw_r1, List.forall_mem_append.mpr ⟨lw_r2, List.forall_mem_append.mpr ⟨lw_r3, List.forall_mem_append.mpr ⟨lw_r4, lw_r5⟩⟩⟩⟩
def RX0 : String := "BentGrounds$Form"
def TX0 : u_T := fun k => match k with
  | 0 => ("BentGrounds$Form", "at", "[J", true)
  | 1 => ("BentGrounds$Form", "rest", "[J", true)
  | 2 => ("BentGrounds$Form", "sum", "LBentGrounds$Table;", true)
  | 3 => ("BentGrounds$Form", "left", "LBentGrounds$Wide;", true)
  | 4 => ("BentGrounds$Form", "right", "LBentGrounds$Wide;", true)
  | 5 => ("BentGrounds$Form", "invariantI", "J", false)
  | 6 => ("BentGrounds$Form", "invariantJ", "J", false)
  | 7 => ("BentGrounds$Form", "over", "[I", true)
  | 8 => ("BentGrounds$Form", "under", "[I", true)
  | _ => ("BentGrounds$Form", "fractions", "I", false)
def tyX0 : Nat → FieldType := fun k => match k with
  | 0 => .array .long
  | 1 => .array .long
  | 2 => .object "BentGrounds$Table"
  | 3 => .object "BentGrounds$Wide"
  | 4 => .object "BentGrounds$Wide"
  | 5 => .long
  | 6 => .long
  | 7 => .array .int
  | 8 => .array .int
  | _ => .int
theorem nmX0 : ∀ a, a < 10 → ∀ b, b < 10 → a ≠ b → (TX0 a).2.1 ≠ (TX0 b).2.1 := by decide +kernel
theorem tyX0_ok : ∀ k, k < 10 → parseFieldDescriptor (TX0 k).2.2.1 = some (tyX0 k) := by decide +kernel
abbrev cX0_init : ByteArray := prog_2_method_1_code
def yX0_init : MethodName := ⟨RX0, "<init>", "()V"⟩
abbrev cX0_read : ByteArray := prog_2_method_2_code
def yX0_read : MethodName := ⟨RX0, "read", "(LBentGrounds$Table;ILBentGrounds$Table;I)V"⟩
abbrev cX0_worthOf : ByteArray := prog_2_method_3_code
def yX0_worthOf : MethodName := ⟨RX0, "worthOf", "(LBentGrounds$Table;ILBentGrounds$Table;I)J"⟩
abbrev cX0_degree : ByteArray := prog_2_method_4_code
def yX0_degree : MethodName := ⟨RX0, "degree", "()I"⟩
abbrev cX0_isNought : ByteArray := prog_2_method_5_code
def yX0_isNought : MethodName := ⟨RX0, "isNought", "()Z"⟩
abbrev cX0_figures : ByteArray := prog_2_method_6_code
def yX0_figures : MethodName := ⟨RX0, "figures", "()I"⟩
abbrev cX0_figuresOfTwo : ByteArray := prog_2_method_7_code
def yX0_figuresOfTwo : MethodName := ⟨RX0, "figuresOfTwo", "()I"⟩
abbrev cX0_figuresOfThree : ByteArray := prog_2_method_8_code
def yX0_figuresOfThree : MethodName := ⟨RX0, "figuresOfThree", "()I"⟩
abbrev cX0_figuresOfFour : ByteArray := prog_2_method_9_code
def yX0_figuresOfFour : MethodName := ⟨RX0, "figuresOfFour", "()I"⟩
abbrev cX0_signOfApartness : ByteArray := prog_2_method_10_code
def yX0_signOfApartness : MethodName := ⟨RX0, "signOfApartness", "()I"⟩
abbrev cX0_eightACLessThreeBB : ByteArray := prog_2_method_11_code
def yX0_eightACLessThreeBB : MethodName := ⟨RX0, "eightACLessThreeBB", "()J"⟩
abbrev cX0_signOfSpread : ByteArray := prog_2_method_12_code
def yX0_signOfSpread : MethodName := ⟨RX0, "signOfSpread", "()I"⟩
abbrev cX0_leaning : ByteArray := prog_2_method_13_code
def yX0_leaning : MethodName := ⟨RX0, "leaning", "()J"⟩
abbrev cX0_realRoots : ByteArray := prog_2_method_14_code
def yX0_realRoots : MethodName := ⟨RX0, "realRoots", "()I"⟩
abbrev cX0_singleRoots : ByteArray := prog_2_method_15_code
def yX0_singleRoots : MethodName := ⟨RX0, "singleRoots", "()I"⟩
abbrev cX0_meetingOfBalls : ByteArray := prog_2_method_16_code
def yX0_meetingOfBalls : MethodName := ⟨RX0, "meetingOfBalls", "()I"⟩
abbrev cX0_worthAt : ByteArray := prog_2_method_17_code
def yX0_worthAt : MethodName := ⟨RX0, "worthAt", "(JJ)J"⟩
abbrev cX0_valueBy : ByteArray := prog_2_method_18_code
def yX0_valueBy : MethodName := ⟨RX0, "valueBy", "([JIJJ)J"⟩
abbrev cX0_findFractions : ByteArray := prog_2_method_19_code
def yX0_findFractions : MethodName := ⟨RX0, "findFractions", "()V"⟩
abbrev cX0_findFractionsBy : ByteArray := prog_2_method_20_code
def yX0_findFractionsBy : MethodName := ⟨RX0, "findFractionsBy", "(I)V"⟩
abbrev cX0_keepFraction : ByteArray := prog_2_method_21_code
def yX0_keepFraction : MethodName := ⟨RX0, "keepFraction", "(II)V"⟩
abbrev cX0_timesAt : ByteArray := prog_2_method_22_code
def yX0_timesAt : MethodName := ⟨RX0, "timesAt", "(JJ)I"⟩
def RX1 : String := "BentGrounds$Ground"
def TX1 : u_T := fun k => match k with
  | 0 => ("BentGrounds$Ground", "there", "Z", false)
  | 1 => ("BentGrounds$Ground", "numbers", "LBentGrounds$Table;", true)
  | _ => ("BentGrounds$Ground", "facts", "[I", true)
def tyX1 : Nat → FieldType := fun k => match k with
  | 0 => .boolean
  | 1 => .object "BentGrounds$Table"
  | _ => .array .int
theorem nmX1 : ∀ a, a < 3 → ∀ b, b < 3 → a ≠ b → (TX1 a).2.1 ≠ (TX1 b).2.1 := by decide +kernel
theorem tyX1_ok : ∀ k, k < 3 → parseFieldDescriptor (TX1 k).2.2.1 = some (tyX1 k) := by decide +kernel
abbrev cX1_init : ByteArray := prog_3_method_1_code
def yX1_init : MethodName := ⟨RX1, "<init>", "()V"⟩
abbrev cX1_kind : ByteArray := prog_3_method_2_code
def yX1_kind : MethodName := ⟨RX1, "kind", "()I"⟩
abbrev cX1_above : ByteArray := prog_3_method_3_code
def yX1_above : MethodName := ⟨RX1, "above", "()I"⟩
abbrev cX1_below : ByteArray := prog_3_method_4_code
def yX1_below : MethodName := ⟨RX1, "below", "()I"⟩
abbrev cX1_nought : ByteArray := prog_3_method_5_code
def yX1_nought : MethodName := ⟨RX1, "nought", "()I"⟩
abbrev cX1_worth : ByteArray := prog_3_method_6_code
def yX1_worth : MethodName := ⟨RX1, "worth", "()I"⟩
abbrev cX1_lesserWorth : ByteArray := prog_3_method_7_code
def yX1_lesserWorth : MethodName := ⟨RX1, "lesserWorth", "()I"⟩
abbrev cX1_name : ByteArray := prog_3_method_8_code
def yX1_name : MethodName := ⟨RX1, "name", "()I"⟩
abbrev cX1_changesSign : ByteArray := prog_3_method_9_code
def yX1_changesSign : MethodName := ⟨RX1, "changesSign", "()Z"⟩
abbrev cX1_is : ByteArray := prog_3_method_10_code
def yX1_is : MethodName := ⟨RX1, "is", "(I)Z"⟩
abbrev cX1_becomes : ByteArray := prog_3_method_11_code
def yX1_becomes : MethodName := ⟨RX1, "becomes", "(LBentGrounds$Table;LBentGrounds$Table;)I"⟩
abbrev cX1_nameBy : ByteArray := prog_3_method_12_code
def yX1_nameBy : MethodName := ⟨RX1, "nameBy", "(IIII)I"⟩
abbrev cX1_kindBySigns : ByteArray := prog_3_method_13_code
def yX1_kindBySigns : MethodName := ⟨RX1, "kindBySigns", "()I"⟩
abbrev cX1_addTo : ByteArray := prog_3_method_14_code
def yX1_addTo : MethodName := ⟨RX1, "addTo", "(J)J"⟩
def RX2 : String := "BentGrounds$Search"
def TX2 : u_T := fun k => match k with
  | 0 => ("BentGrounds$Search", "kept", "[I", true)
  | _ => ("BentGrounds$Search", "found", "I", false)
def tyX2 : Nat → FieldType := fun k => match k with
  | 0 => .array .int
  | _ => .int
theorem nmX2 : ∀ a, a < 2 → ∀ b, b < 2 → a ≠ b → (TX2 a).2.1 ≠ (TX2 b).2.1 := by decide +kernel
theorem tyX2_ok : ∀ k, k < 2 → parseFieldDescriptor (TX2 k).2.2.1 = some (tyX2 k) := by decide +kernel
abbrev cX2_init : ByteArray := prog_4_method_1_code
def yX2_init : MethodName := ⟨RX2, "<init>", "()V"⟩
abbrev cX2_seek : ByteArray := prog_4_method_2_code
def yX2_seek : MethodName := ⟨RX2, "seek", "(LBentGrounds$Table;LBentGrounds$Table;LBentGrounds$Table;I)I"⟩
abbrev cX2_keep : ByteArray := prog_4_method_3_code
def yX2_keep : MethodName := ⟨RX2, "keep", "(III)V"⟩
def RX3 : String := "BentGrounds$Sheet"
def TX3 : u_T := fun k => match k with
  | 0 => ("BentGrounds$Sheet", "row", "[I", true)
  | _ => ("BentGrounds$Sheet", "size", "I", false)
def tyX3 : Nat → FieldType := fun k => match k with
  | 0 => .array .int
  | _ => .int
theorem nmX3 : ∀ a, a < 2 → ∀ b, b < 2 → a ≠ b → (TX3 a).2.1 ≠ (TX3 b).2.1 := by decide +kernel
theorem tyX3_ok : ∀ k, k < 2 → parseFieldDescriptor (TX3 k).2.2.1 = some (tyX3 k) := by decide +kernel
abbrev cX3_init : ByteArray := prog_5_method_1_code
def yX3_init : MethodName := ⟨RX3, "<init>", "()V"⟩
abbrev cX3_missing : ByteArray := prog_5_method_2_code
def yX3_missing : MethodName := ⟨RX3, "missing", "()Z"⟩
abbrev cX3_begin : ByteArray := prog_5_method_3_code
def yX3_begin : MethodName := ⟨RX3, "begin", "(I)V"⟩
abbrev cX3_end : ByteArray := prog_5_method_4_code
def yX3_end : MethodName := ⟨RX3, "end", "()V"⟩
abbrev cX3_hasFrom : ByteArray := prog_5_method_5_code
def yX3_hasFrom : MethodName := ⟨RX3, "hasFrom", "(II)Z"⟩
abbrev cX3_goesBeyond : ByteArray := prog_5_method_6_code
def yX3_goesBeyond : MethodName := ⟨RX3, "goesBeyond", "(II)Z"⟩
abbrev cX3_isBlank : ByteArray := prog_5_method_7_code
def yX3_isBlank : MethodName := ⟨RX3, "isBlank", "(I)Z"⟩
abbrev cX3_addTo : ByteArray := prog_5_method_8_code
def yX3_addTo : MethodName := ⟨RX3, "addTo", "(J)J"⟩
def RX4 : String := "BentGrounds$Table"
def TX4 : u_T := fun k => match k with
  | 0 => ("BentGrounds$Table", "at", "[J", true)
  | 1 => ("BentGrounds$Table", "own", "[J", true)
  | 2 => ("BentGrounds$Table", "above", "I", false)
  | 3 => ("BentGrounds$Table", "below", "I", false)
  | 4 => ("BentGrounds$Table", "level", "J", false)
  | _ => ("BentGrounds$Table", "slope", "J", false)
def tyX4 : Nat → FieldType := fun k => match k with
  | 0 => .array .long
  | 1 => .array .long
  | 2 => .int
  | 3 => .int
  | 4 => .long
  | _ => .long
theorem nmX4 : ∀ a, a < 6 → ∀ b, b < 6 → a ≠ b → (TX4 a).2.1 ≠ (TX4 b).2.1 := by decide +kernel
theorem tyX4_ok : ∀ k, k < 6 → parseFieldDescriptor (TX4 k).2.2.1 = some (tyX4 k) := by decide +kernel
abbrev cX4_init : ByteArray := prog_6_method_1_code
def yX4_init : MethodName := ⟨RX4, "<init>", "()V"⟩
abbrev cX4_become : ByteArray := prog_6_method_2_code
def yX4_become : MethodName := ⟨RX4, "become", "(LBentGrounds$Table;)V"⟩
abbrev cX4_readTen : ByteArray := prog_6_method_3_code
def yX4_readTen : MethodName := ⟨RX4, "readTen", "([I)V"⟩
abbrev cX4_ten : ByteArray := prog_6_method_4_code
def yX4_ten : MethodName := ⟨RX4, "ten", "(I)J"⟩
abbrev cX4_sumOf : ByteArray := prog_6_method_5_code
def yX4_sumOf : MethodName := ⟨RX4, "sumOf", "(LBentGrounds$Table;JLBentGrounds$Table;J)V"⟩
abbrev cX4_goesBeyond : ByteArray := prog_6_method_6_code
def yX4_goesBeyond : MethodName := ⟨RX4, "goesBeyond", "(I)Z"⟩
abbrev cX4_shearBy : ByteArray := prog_6_method_7_code
def yX4_shearBy : MethodName := ⟨RX4, "shearBy", "(III)V"⟩
abbrev cX4_moveBy : ByteArray := prog_6_method_8_code
def yX4_moveBy : MethodName := ⟨RX4, "moveBy", "([II)V"⟩
abbrev cX4_swapLetters : ByteArray := prog_6_method_9_code
def yX4_swapLetters : MethodName := ⟨RX4, "swapLetters", "(II)V"⟩
abbrev cX4_exchange : ByteArray := prog_6_method_10_code
def yX4_exchange : MethodName := ⟨RX4, "exchange", "(II)V"⟩
abbrev cX4_poleNumber : ByteArray := prog_6_method_11_code
def yX4_poleNumber : MethodName := ⟨RX4, "poleNumber", "(I[J)J"⟩
abbrev cX4_isPoleless : ByteArray := prog_6_method_12_code
def yX4_isPoleless : MethodName := ⟨RX4, "isPoleless", "([J)Z"⟩
abbrev cX4_product : ByteArray := prog_6_method_13_code
def yX4_product : MethodName := ⟨RX4, "product", "([J[J)J"⟩
abbrev cX4_readLesser : ByteArray := prog_6_method_14_code
def yX4_readLesser : MethodName := ⟨RX4, "readLesser", "(LBentGrounds$Table;)V"⟩
abbrev cX4_cutBy : ByteArray := prog_6_method_15_code
def yX4_cutBy : MethodName := ⟨RX4, "cutBy", "(LBentGrounds$Table;[J)V"⟩
abbrev cX4_putFarColumnAt : ByteArray := prog_6_method_16_code
def yX4_putFarColumnAt : MethodName := ⟨RX4, "putFarColumnAt", "(I)V"⟩
abbrev cX4_minor2 : ByteArray := prog_6_method_17_code
def yX4_minor2 : MethodName := ⟨RX4, "minor2", "(II)J"⟩
abbrev cX4_minor3 : ByteArray := prog_6_method_18_code
def yX4_minor3 : MethodName := ⟨RX4, "minor3", "(III)J"⟩
abbrev cX4_worth : ByteArray := prog_6_method_19_code
def yX4_worth : MethodName := ⟨RX4, "worth", "()J"⟩
abbrev cX4_pairOf : ByteArray := prog_6_method_20_code
def yX4_pairOf : MethodName := ⟨RX4, "pairOf", "(III)J"⟩
abbrev cX4_readSigns : ByteArray := prog_6_method_21_code
def yX4_readSigns : MethodName := ⟨RX4, "readSigns", "()V"⟩
abbrev cX4_tellAlong : ByteArray := prog_6_method_22_code
def yX4_tellAlong : MethodName := ⟨RX4, "tellAlong", "(JJ)V"⟩
abbrev cX4_isOnAt : ByteArray := prog_6_method_23_code
def yX4_isOnAt : MethodName := ⟨RX4, "isOnAt", "(J)Z"⟩
def RX5 : String := "BentGrounds$Tree"
def TX5 : u_T := fun k => match k with
  | 0 => ("BentGrounds$Tree", "over", "[I", true)
  | 1 => ("BentGrounds$Tree", "under", "[I", true)
  | 2 => ("BentGrounds$Tree", "sum", "LBentGrounds$Table;", true)
  | 3 => ("BentGrounds$Tree", "row", "I", false)
  | _ => ("BentGrounds$Tree", "changes", "I", false)
def tyX5 : Nat → FieldType := fun k => match k with
  | 0 => .array .int
  | 1 => .array .int
  | 2 => .object "BentGrounds$Table"
  | 3 => .int
  | _ => .int
theorem nmX5 : ∀ a, a < 5 → ∀ b, b < 5 → a ≠ b → (TX5 a).2.1 ≠ (TX5 b).2.1 := by decide +kernel
theorem tyX5_ok : ∀ k, k < 5 → parseFieldDescriptor (TX5 k).2.2.1 = some (tyX5 k) := by decide +kernel
abbrev cX5_init : ByteArray := prog_7_method_1_code
def yX5_init : MethodName := ⟨RX5, "<init>", "()V"⟩
abbrev cX5_walk : ByteArray := prog_7_method_2_code
def yX5_walk : MethodName := ⟨RX5, "walk", "(LBentGrounds$Form;LBentGrounds$Table;LBentGrounds$Table;I)V"⟩
def RX6 : String := "BentGrounds$Wide"
def TX6 : u_T := fun k => match k with
  | 0 => ("BentGrounds$Wide", "part", "[J", true)
  | _ => ("BentGrounds$Wide", "product", "[J", true)
def tyX6 : Nat → FieldType := fun k => match k with
  | 0 => .array .long
  | _ => .array .long
theorem nmX6 : ∀ a, a < 2 → ∀ b, b < 2 → a ≠ b → (TX6 a).2.1 ≠ (TX6 b).2.1 := by decide +kernel
theorem tyX6_ok : ∀ k, k < 2 → parseFieldDescriptor (TX6 k).2.2.1 = some (tyX6 k) := by decide +kernel
abbrev cX6_init : ByteArray := prog_8_method_1_code
def yX6_init : MethodName := ⟨RX6, "<init>", "()V"⟩
abbrev cX6_begin : ByteArray := prog_8_method_2_code
def yX6_begin : MethodName := ⟨RX6, "begin", "(J)V"⟩
abbrev cX6_multiply : ByteArray := prog_8_method_3_code
def yX6_multiply : MethodName := ⟨RX6, "multiply", "(J)V"⟩
abbrev cX6_against : ByteArray := prog_8_method_4_code
def yX6_against : MethodName := ⟨RX6, "against", "(LBentGrounds$Wide;)I"⟩
def RX7 : String := "BentGrounds"
def TX7 : u_T := fun k => match k with
  | 0 => ("BentGrounds", "sheets", "[LBentGrounds$Sheet;", true)
  | 1 => ("BentGrounds", "grounds", "[LBentGrounds$Ground;", true)
  | 2 => ("BentGrounds", "work", "LBentGrounds$Table;", true)
  | 3 => ("BentGrounds", "lesser", "LBentGrounds$Table;", true)
  | 4 => ("BentGrounds", "pencil", "LBentGrounds$Form;", true)
  | 5 => ("BentGrounds", "tree", "LBentGrounds$Tree;", true)
  | 6 => ("BentGrounds", "search", "LBentGrounds$Search;", true)
  | 7 => ("BentGrounds", "placeU", "[J", true)
  | 8 => ("BentGrounds", "placeV", "[J", true)
  | 9 => ("BentGrounds", "lineNumbers", "[I", true)
  | 10 => ("BentGrounds", "lineKnown", "Z", false)
  | 11 => ("BentGrounds", "formNumbers", "[I", true)
  | 12 => ("BentGrounds", "formKnown", "Z", false)
  | 13 => ("BentGrounds", "latestAsked", "I", false)
  | 14 => ("BentGrounds", "latestUpper", "J", false)
  | 15 => ("BentGrounds", "latestLower", "J", false)
  | 16 => ("BentGrounds", "latestFinding", "I", false)
  | _ => ("BentGrounds", "findingCounts", "[I", true)
def tyX7 : Nat → FieldType := fun k => match k with
  | 0 => .array (.object "BentGrounds$Sheet")
  | 1 => .array (.object "BentGrounds$Ground")
  | 2 => .object "BentGrounds$Table"
  | 3 => .object "BentGrounds$Table"
  | 4 => .object "BentGrounds$Form"
  | 5 => .object "BentGrounds$Tree"
  | 6 => .object "BentGrounds$Search"
  | 7 => .array .long
  | 8 => .array .long
  | 9 => .array .int
  | 10 => .boolean
  | 11 => .array .int
  | 12 => .boolean
  | 13 => .int
  | 14 => .long
  | 15 => .long
  | 16 => .int
  | _ => .array .int
theorem nmX7 : ∀ a, a < 18 → ∀ b, b < 18 → a ≠ b → (TX7 a).2.1 ≠ (TX7 b).2.1 := by decide +kernel
theorem tyX7_ok : ∀ k, k < 18 → parseFieldDescriptor (TX7 k).2.2.1 = some (tyX7 k) := by decide +kernel
abbrev cX7_init : ByteArray := prog_1_method_1_code
def yX7_init : MethodName := ⟨RX7, "<init>", "()V"⟩
abbrev cX7_sheet : ByteArray := prog_1_method_2_code
def yX7_sheet : MethodName := ⟨RX7, "sheet", "(II)I"⟩
abbrev cX7_lay : ByteArray := prog_1_method_3_code
def yX7_lay : MethodName := ⟨RX7, "lay", "(III)I"⟩
abbrev cX7_tear : ByteArray := prog_1_method_4_code
def yX7_tear : MethodName := ⟨RX7, "tear", "(I)I"⟩
abbrev cX7_copy : ByteArray := prog_1_method_5_code
def yX7_copy : MethodName := ⟨RX7, "copy", "(IIIII)I"⟩
abbrev cX7_ground : ByteArray := prog_1_method_6_code
def yX7_ground : MethodName := ⟨RX7, "ground", "(II)I"⟩
abbrev cX7_drop : ByteArray := prog_1_method_7_code
def yX7_drop : MethodName := ⟨RX7, "drop", "(I)I"⟩
abbrev cX7_table : ByteArray := prog_1_method_8_code
def yX7_table : MethodName := ⟨RX7, "table", "(III)I"⟩
abbrev cX7_told : ByteArray := prog_1_method_9_code
def yX7_told : MethodName := ⟨RX7, "told", "(II)I"⟩
abbrev cX7_mark : ByteArray := prog_1_method_10_code
def yX7_mark : MethodName := ⟨RX7, "mark", "(II)I"⟩
abbrev cX7_turn : ByteArray := prog_1_method_11_code
def yX7_turn : MethodName := ⟨RX7, "turn", "(I)I"⟩
abbrev cX7_shear : ByteArray := prog_1_method_12_code
def yX7_shear : MethodName := ⟨RX7, "shear", "(IIII)I"⟩
abbrev cX7_swap : ByteArray := prog_1_method_13_code
def yX7_swap : MethodName := ⟨RX7, "swap", "(III)I"⟩
abbrev cX7_same : ByteArray := prog_1_method_14_code
def yX7_same : MethodName := ⟨RX7, "same", "(II)I"⟩
abbrev cX7_alike : ByteArray := prog_1_method_15_code
def yX7_alike : MethodName := ⟨RX7, "alike", "(II)I"⟩
abbrev cX7_value : ByteArray := prog_1_method_16_code
def yX7_value : MethodName := ⟨RX7, "value", "(II)I"⟩
abbrev cX7_tangent : ByteArray := prog_1_method_17_code
def yX7_tangent : MethodName := ⟨RX7, "tangent", "(III)I"⟩
abbrev cX7_line : ByteArray := prog_1_method_18_code
def yX7_line : MethodName := ⟨RX7, "line", "(III)I"⟩
abbrev cX7_lineTold : ByteArray := prog_1_method_19_code
def yX7_lineTold : MethodName := ⟨RX7, "lineTold", "(I)I"⟩
abbrev cX7_cut : ByteArray := prog_1_method_20_code
def yX7_cut : MethodName := ⟨RX7, "cut", "(II)I"⟩
abbrev cX7_touches : ByteArray := prog_1_method_21_code
def yX7_touches : MethodName := ⟨RX7, "touches", "(II)I"⟩
abbrev cX7_lines : ByteArray := prog_1_method_22_code
def yX7_lines : MethodName := ⟨RX7, "lines", "(II)I"⟩
abbrev cX7_middle : ByteArray := prog_1_method_23_code
def yX7_middle : MethodName := ⟨RX7, "middle", "(II)I"⟩
abbrev cX7_form : ByteArray := prog_1_method_24_code
def yX7_form : MethodName := ⟨RX7, "form", "(II)I"⟩
abbrev cX7_formTold : ByteArray := prog_1_method_25_code
def yX7_formTold : MethodName := ⟨RX7, "formTold", "(I)I"⟩
abbrev cX7_roots : ByteArray := prog_1_method_26_code
def yX7_roots : MethodName := ⟨RX7, "roots", "(II)I"⟩
abbrev cX7_pattern : ByteArray := prog_1_method_27_code
def yX7_pattern : MethodName := ⟨RX7, "pattern", "(II)I"⟩
abbrev cX7_rational : ByteArray := prog_1_method_28_code
def yX7_rational : MethodName := ⟨RX7, "rational", "(III)I"⟩
abbrev cX7_between : ByteArray := prog_1_method_29_code
def yX7_between : MethodName := ⟨RX7, "between", "(III)I"⟩
abbrev cX7_apart : ByteArray := prog_1_method_30_code
def yX7_apart : MethodName := ⟨RX7, "apart", "(II)I"⟩
abbrev cX7_first : ByteArray := prog_1_method_31_code
def yX7_first : MethodName := ⟨RX7, "first", "(IIII)I"⟩
abbrev cX7_shared : ByteArray := prog_1_method_32_code
def yX7_shared : MethodName := ⟨RX7, "shared", "(III)I"⟩
abbrev cX7_place : ByteArray := prog_1_method_33_code
def yX7_place : MethodName := ⟨RX7, "place", "(II)I"⟩
abbrev cX7_shared3 : ByteArray := prog_1_method_34_code
def yX7_shared3 : MethodName := ⟨RX7, "shared3", "(IIII)I"⟩
abbrev cX7_asked : ByteArray := prog_1_method_35_code
def yX7_asked : MethodName := ⟨RX7, "asked", "()I"⟩
abbrev cX7_upper : ByteArray := prog_1_method_36_code
def yX7_upper : MethodName := ⟨RX7, "upper", "()J"⟩
abbrev cX7_lower : ByteArray := prog_1_method_37_code
def yX7_lower : MethodName := ⟨RX7, "lower", "()J"⟩
abbrev cX7_count : ByteArray := prog_1_method_38_code
def yX7_count : MethodName := ⟨RX7, "count", "(I)I"⟩
abbrev cX7_finding : ByteArray := prog_1_method_39_code
def yX7_finding : MethodName := ⟨RX7, "finding", "()I"⟩
abbrev cX7_findings : ByteArray := prog_1_method_40_code
def yX7_findings : MethodName := ⟨RX7, "findings", "(I)I"⟩
abbrev cX7_digest : ByteArray := prog_1_method_41_code
def yX7_digest : MethodName := ⟨RX7, "digest", "()J"⟩
abbrev cX7_noSheet : ByteArray := prog_1_method_42_code
def yX7_noSheet : MethodName := ⟨RX7, "noSheet", "(I)Z"⟩
abbrev cX7_noGround : ByteArray := prog_1_method_43_code
def yX7_noGround : MethodName := ⟨RX7, "noGround", "(I)Z"⟩
abbrev cX7_noLetter : ByteArray := prog_1_method_44_code
def yX7_noLetter : MethodName := ⟨RX7, "noLetter", "(I)Z"⟩
abbrev cX7_refuse : ByteArray := prog_1_method_45_code
def yX7_refuse : MethodName := ⟨RX7, "refuse", "(I)I"⟩
abbrev cX7_refusedGround : ByteArray := prog_1_method_46_code
def yX7_refusedGround : MethodName := ⟨RX7, "refusedGround", "(I)I"⟩
abbrev cX7_refusedPair : ByteArray := prog_1_method_47_code
def yX7_refusedPair : MethodName := ⟨RX7, "refusedPair", "(II)I"⟩
abbrev cX7_refusedPencil : ByteArray := prog_1_method_48_code
def yX7_refusedPencil : MethodName := ⟨RX7, "refusedPencil", "(II)I"⟩
abbrev cX7_refusedAt : ByteArray := prog_1_method_49_code
def yX7_refusedAt : MethodName := ⟨RX7, "refusedAt", "(II)I"⟩
abbrev cX7_placesFinding : ByteArray := prog_1_method_50_code
def yX7_placesFinding : MethodName := ⟨RX7, "placesFinding", "(LBentGrounds$Sheet;LBentGrounds$Sheet;)I"⟩
abbrev cX7_onePlaceAlone : ByteArray := prog_1_method_51_code
def yX7_onePlaceAlone : MethodName := ⟨RX7, "onePlaceAlone", "([J[J)Z"⟩
abbrev cX7_meeting : ByteArray := prog_1_method_52_code
def yX7_meeting : MethodName := ⟨RX7, "meeting", "(LBentGrounds$Ground;LBentGrounds$Ground;LBentGrounds$Table;)I"⟩
abbrev cX7_tellFraction : ByteArray := prog_1_method_53_code
def yX7_tellFraction : MethodName := ⟨RX7, "tellFraction", "(JJ)V"⟩
abbrev cX7_sheetsThere : ByteArray := prog_1_method_54_code
def yX7_sheetsThere : MethodName := ⟨RX7, "sheetsThere", "()I"⟩
abbrev cX7_groundsThere : ByteArray := prog_1_method_55_code
def yX7_groundsThere : MethodName := ⟨RX7, "groundsThere", "(I)I"⟩
abbrev cX7_oneIf : ByteArray := prog_1_method_56_code
def yX7_oneIf : MethodName := ⟨RX7, "oneIf", "(Z)I"⟩
abbrev cX7_signOf : ByteArray := prog_1_method_57_code
def yX7_signOf : MethodName := ⟨RX7, "signOf", "(J)I"⟩
abbrev cX7_isSquare : ByteArray := prog_1_method_58_code
def yX7_isSquare : MethodName := ⟨RX7, "isSquare", "(I)Z"⟩
abbrev cX7_commonPart : ByteArray := prog_1_method_59_code
def yX7_commonPart : MethodName := ⟨RX7, "commonPart", "(JJ)J"⟩
abbrev cX7_signChanges : ByteArray := prog_1_method_60_code
def yX7_signChanges : MethodName := ⟨RX7, "signChanges", "([J)I"⟩
def RX8 : String := "BentGroundsModel"
def TX8 : u_T := fun k => match k with
  | 0 => ("BentGroundsModel", "finding", "I", false)
  | 1 => ("BentGroundsModel", "findings", "[I", true)
  | 2 => ("BentGroundsModel", "asked", "I", false)
  | 3 => ("BentGroundsModel", "upper", "J", false)
  | 4 => ("BentGroundsModel", "lower", "J", false)
  | 5 => ("BentGroundsModel", "sizes", "[I", true)
  | 6 => ("BentGroundsModel", "sheets", "[I", true)
  | 7 => ("BentGroundsModel", "moving", "[I", true)
  | 8 => ("BentGroundsModel", "t", "[J", true)
  | 9 => ("BentGroundsModel", "above", "I", false)
  | 10 => ("BentGroundsModel", "below", "I", false)
  | 11 => ("BentGroundsModel", "signRow", "[I", true)
  | 12 => ("BentGroundsModel", "isThere", "[Z", true)
  | 13 => ("BentGroundsModel", "tables", "[I", true)
  | 14 => ("BentGroundsModel", "facts", "[I", true)
  | 15 => ("BentGroundsModel", "next", "[I", true)
  | 16 => ("BentGroundsModel", "place", "[I", true)
  | 17 => ("BentGroundsModel", "other", "[I", true)
  | 18 => ("BentGroundsModel", "isLine", "Z", false)
  | 19 => ("BentGroundsModel", "lineRow", "[I", true)
  | 20 => ("BentGroundsModel", "span", "[I", true)
  | 21 => ("BentGroundsModel", "first", "[I", true)
  | 22 => ("BentGroundsModel", "second", "[I", true)
  | 23 => ("BentGroundsModel", "f", "[J", true)
  | 24 => ("BentGroundsModel", "one", "[I", true)
  | 25 => ("BentGroundsModel", "two", "[I", true)
  | 26 => ("BentGroundsModel", "isForm", "Z", false)
  | 27 => ("BentGroundsModel", "formRow", "[J", true)
  | 28 => ("BentGroundsModel", "great", "[J", true)
  | 29 => ("BentGroundsModel", "greater", "[J", true)
  | 30 => ("BentGroundsModel", "product", "[J", true)
  | 31 => ("BentGroundsModel", "roots", "I", false)
  | 32 => ("BentGroundsModel", "rootUp", "[J", true)
  | 33 => ("BentGroundsModel", "rootLow", "[J", true)
  | 34 => ("BentGroundsModel", "rootTimes", "[I", true)
  | 35 => ("BentGroundsModel", "beyondTimes", "I", false)
  | 36 => ("BentGroundsModel", "degree", "I", false)
  | 37 => ("BentGroundsModel", "left", "[J", true)
  | 38 => ("BentGroundsModel", "realLeft", "I", false)
  | 39 => ("BentGroundsModel", "isTwice", "Z", false)
  | 40 => ("BentGroundsModel", "fractionUp", "[I", true)
  | 41 => ("BentGroundsModel", "fractionLow", "[I", true)
  | 42 => ("BentGroundsModel", "fractionTimes", "[I", true)
  | 43 => ("BentGroundsModel", "treeUp", "[I", true)
  | 44 => ("BentGroundsModel", "treeLow", "[I", true)
  | 45 => ("BentGroundsModel", "kept", "I", false)
  | 46 => ("BentGroundsModel", "keptPlaces", "[I", true)
  | _ => ("BentGroundsModel", "h", "J", false)
def tyX8 : Nat → FieldType := fun k => match k with
  | 0 => .int
  | 1 => .array .int
  | 2 => .int
  | 3 => .long
  | 4 => .long
  | 5 => .array .int
  | 6 => .array .int
  | 7 => .array .int
  | 8 => .array .long
  | 9 => .int
  | 10 => .int
  | 11 => .array .int
  | 12 => .array .boolean
  | 13 => .array .int
  | 14 => .array .int
  | 15 => .array .int
  | 16 => .array .int
  | 17 => .array .int
  | 18 => .boolean
  | 19 => .array .int
  | 20 => .array .int
  | 21 => .array .int
  | 22 => .array .int
  | 23 => .array .long
  | 24 => .array .int
  | 25 => .array .int
  | 26 => .boolean
  | 27 => .array .long
  | 28 => .array .long
  | 29 => .array .long
  | 30 => .array .long
  | 31 => .int
  | 32 => .array .long
  | 33 => .array .long
  | 34 => .array .int
  | 35 => .int
  | 36 => .int
  | 37 => .array .long
  | 38 => .int
  | 39 => .boolean
  | 40 => .array .int
  | 41 => .array .int
  | 42 => .array .int
  | 43 => .array .int
  | 44 => .array .int
  | 45 => .int
  | 46 => .array .int
  | _ => .long
theorem nmX8 : ∀ a, a < 48 → ∀ b, b < 48 → a ≠ b → (TX8 a).2.1 ≠ (TX8 b).2.1 := by decide +kernel
theorem tyX8_ok : ∀ k, k < 48 → parseFieldDescriptor (TX8 k).2.2.1 = some (tyX8 k) := by decide +kernel
abbrev cX8_init : ByteArray := prog_10_method_1_code
def yX8_init : MethodName := ⟨RX8, "<init>", "()V"⟩
abbrev cX8_in : ByteArray := prog_10_method_3_code
def yX8_in : MethodName := ⟨RX8, "in", "(III)Z"⟩
abbrev cX8_meets : ByteArray := prog_10_method_4_code
def yX8_meets : MethodName := ⟨RX8, "meets", "(I)I"⟩
abbrev cX8_ask : ByteArray := prog_10_method_5_code
def yX8_ask : MethodName := ⟨RX8, "ask", "(II)I"⟩
abbrev cX8_size : ByteArray := prog_10_method_6_code
def yX8_size : MethodName := ⟨RX8, "size", "(J)J"⟩
abbrev cX8_sign : ByteArray := prog_10_method_7_code
def yX8_sign : MethodName := ⟨RX8, "sign", "(J)I"⟩
abbrev cX8_divisor : ByteArray := prog_10_method_8_code
def yX8_divisor : MethodName := ⟨RX8, "divisor", "(JJ)J"⟩
abbrev cX8_share : ByteArray := prog_10_method_9_code
def yX8_share : MethodName := ⟨RX8, "share", "(JJI)I"⟩
abbrev cX8_isSheet : ByteArray := prog_10_method_10_code
def yX8_isSheet : MethodName := ⟨RX8, "isSheet", "(I)Z"⟩
abbrev cX8_looked : ByteArray := prog_10_method_11_code
def yX8_looked : MethodName := ⟨RX8, "looked", "(I)I"⟩
abbrev cX8_clear : ByteArray := prog_10_method_12_code
def yX8_clear : MethodName := ⟨RX8, "clear", "(II)V"⟩
abbrev cX8_sheet : ByteArray := prog_10_method_13_code
def yX8_sheet : MethodName := ⟨RX8, "sheet", "(II)I"⟩
abbrev cX8_lay : ByteArray := prog_10_method_14_code
def yX8_lay : MethodName := ⟨RX8, "lay", "(III)I"⟩
abbrev cX8_tear : ByteArray := prog_10_method_15_code
def yX8_tear : MethodName := ⟨RX8, "tear", "(I)I"⟩
abbrev cX8_copy : ByteArray := prog_10_method_16_code
def yX8_copy : MethodName := ⟨RX8, "copy", "(IIIII)I"⟩
abbrev cX8_two : ByteArray := prog_10_method_17_code
def yX8_two : MethodName := ⟨RX8, "two", "(II)J"⟩
abbrev cX8_three : ByteArray := prog_10_method_18_code
def yX8_three : MethodName := ⟨RX8, "three", "(III)J"⟩
abbrev cX8_threeOf : ByteArray := prog_10_method_19_code
def yX8_threeOf : MethodName := ⟨RX8, "threeOf", "(JJJJJJ)J"⟩
abbrev cX8_worthOf : ByteArray := prog_10_method_20_code
def yX8_worthOf : MethodName := ⟨RX8, "worthOf", "([J)J"⟩
abbrev cX8_laySigns : ByteArray := prog_10_method_21_code
def yX8_laySigns : MethodName := ⟨RX8, "laySigns", "(IJJJJ)V"⟩
abbrev cX8_layFour : ByteArray := prog_10_method_22_code
def yX8_layFour : MethodName := ⟨RX8, "layFour", "()V"⟩
abbrev cX8_layThree : ByteArray := prog_10_method_23_code
def yX8_layThree : MethodName := ⟨RX8, "layThree", "()V"⟩
abbrev cX8_isGround : ByteArray := prog_10_method_24_code
def yX8_isGround : MethodName := ⟨RX8, "isGround", "(I)Z"⟩
abbrev cX8_askedFor : ByteArray := prog_10_method_25_code
def yX8_askedFor : MethodName := ⟨RX8, "askedFor", "(I)I"⟩
abbrev cX8_layTable : ByteArray := prog_10_method_26_code
def yX8_layTable : MethodName := ⟨RX8, "layTable", "(I)V"⟩
abbrev cX8_nameOf : ByteArray := prog_10_method_27_code
def yX8_nameOf : MethodName := ⟨RX8, "nameOf", "(IIII)I"⟩
abbrev cX8_setFacts : ByteArray := prog_10_method_28_code
def yX8_setFacts : MethodName := ⟨RX8, "setFacts", "(I)I"⟩
abbrev cX8_rowOf : ByteArray := prog_10_method_29_code
def yX8_rowOf : MethodName := ⟨RX8, "rowOf", "(I)I"⟩
abbrev cX8_columnOf : ByteArray := prog_10_method_30_code
def yX8_columnOf : MethodName := ⟨RX8, "columnOf", "(I)I"⟩
abbrev cX8_isSmall : ByteArray := prog_10_method_31_code
def yX8_isSmall : MethodName := ⟨RX8, "isSmall", "(I)Z"⟩
abbrev cX8_ground : ByteArray := prog_10_method_32_code
def yX8_ground : MethodName := ⟨RX8, "ground", "(II)I"⟩
abbrev cX8_drop : ByteArray := prog_10_method_33_code
def yX8_drop : MethodName := ⟨RX8, "drop", "(I)I"⟩
abbrev cX8_table : ByteArray := prog_10_method_34_code
def yX8_table : MethodName := ⟨RX8, "table", "(III)I"⟩
abbrev cX8_told : ByteArray := prog_10_method_35_code
def yX8_told : MethodName := ⟨RX8, "told", "(II)I"⟩
abbrev cX8_isSquare : ByteArray := prog_10_method_36_code
def yX8_isSquare : MethodName := ⟨RX8, "isSquare", "(I)Z"⟩
abbrev cX8_mark : ByteArray := prog_10_method_37_code
def yX8_mark : MethodName := ⟨RX8, "mark", "(II)I"⟩
abbrev cX8_changes : ByteArray := prog_10_method_38_code
def yX8_changes : MethodName := ⟨RX8, "changes", "(I)Z"⟩
abbrev cX8_turn : ByteArray := prog_10_method_39_code
def yX8_turn : MethodName := ⟨RX8, "turn", "(I)I"⟩
abbrev cX8_shear : ByteArray := prog_10_method_40_code
def yX8_shear : MethodName := ⟨RX8, "shear", "(IIII)I"⟩
abbrev cX8_swap : ByteArray := prog_10_method_41_code
def yX8_swap : MethodName := ⟨RX8, "swap", "(III)I"⟩
abbrev cX8_changed : ByteArray := prog_10_method_42_code
def yX8_changed : MethodName := ⟨RX8, "changed", "(III)I"⟩
abbrev cX8_askedTwo : ByteArray := prog_10_method_43_code
def yX8_askedTwo : MethodName := ⟨RX8, "askedTwo", "(II)I"⟩
abbrev cX8_same : ByteArray := prog_10_method_44_code
def yX8_same : MethodName := ⟨RX8, "same", "(II)I"⟩
abbrev cX8_alike : ByteArray := prog_10_method_45_code
def yX8_alike : MethodName := ⟨RX8, "alike", "(II)I"⟩
abbrev cX8_readFour : ByteArray := prog_10_method_46_code
def yX8_readFour : MethodName := ⟨RX8, "readFour", "(I[I)I"⟩
abbrev cX8_askedPlace : ByteArray := prog_10_method_47_code
def yX8_askedPlace : MethodName := ⟨RX8, "askedPlace", "(II)I"⟩
abbrev cX8_tangentAt : ByteArray := prog_10_method_48_code
def yX8_tangentAt : MethodName := ⟨RX8, "tangentAt", "(II[I)I"⟩
abbrev cX8_both : ByteArray := prog_10_method_49_code
def yX8_both : MethodName := ⟨RX8, "both", "(I[I[I)I"⟩
abbrev cX8_value : ByteArray := prog_10_method_50_code
def yX8_value : MethodName := ⟨RX8, "value", "(II)I"⟩
abbrev cX8_tangent : ByteArray := prog_10_method_51_code
def yX8_tangent : MethodName := ⟨RX8, "tangent", "(III)I"⟩
abbrev cX8_line : ByteArray := prog_10_method_52_code
def yX8_line : MethodName := ⟨RX8, "line", "(III)I"⟩
abbrev cX8_lineTold : ByteArray := prog_10_method_53_code
def yX8_lineTold : MethodName := ⟨RX8, "lineTold", "(I)I"⟩
abbrev cX8_layCut : ByteArray := prog_10_method_54_code
def yX8_layCut : MethodName := ⟨RX8, "layCut", "(I)V"⟩
abbrev cX8_cut : ByteArray := prog_10_method_55_code
def yX8_cut : MethodName := ⟨RX8, "cut", "(II)I"⟩
abbrev cX8_touches : ByteArray := prog_10_method_56_code
def yX8_touches : MethodName := ⟨RX8, "touches", "(II)I"⟩
abbrev cX8_lines : ByteArray := prog_10_method_57_code
def yX8_lines : MethodName := ⟨RX8, "lines", "(II)I"⟩
abbrev cX8_middle : ByteArray := prog_10_method_58_code
def yX8_middle : MethodName := ⟨RX8, "middle", "(II)I"⟩
abbrev cX8_layPair : ByteArray := prog_10_method_59_code
def yX8_layPair : MethodName := ⟨RX8, "layPair", "(II)V"⟩
abbrev cX8_layForm : ByteArray := prog_10_method_60_code
def yX8_layForm : MethodName := ⟨RX8, "layForm", "()V"⟩
abbrev cX8_form : ByteArray := prog_10_method_61_code
def yX8_form : MethodName := ⟨RX8, "form", "(II)I"⟩
abbrev cX8_formTold : ByteArray := prog_10_method_62_code
def yX8_formTold : MethodName := ⟨RX8, "formTold", "(I)I"⟩
abbrev cX8_begin : ByteArray := prog_10_method_63_code
def yX8_begin : MethodName := ⟨RX8, "begin", "([J)V"⟩
abbrev cX8_times : ByteArray := prog_10_method_64_code
def yX8_times : MethodName := ⟨RX8, "times", "([JJ)V"⟩
abbrev cX8_compare : ByteArray := prog_10_method_65_code
def yX8_compare : MethodName := ⟨RX8, "compare", "()I"⟩
abbrev cX8_at : ByteArray := prog_10_method_66_code
def yX8_at : MethodName := ⟨RX8, "at", "(JJ)J"⟩
abbrev cX8_slopeAt : ByteArray := prog_10_method_67_code
def yX8_slopeAt : MethodName := ⟨RX8, "slopeAt", "(JJ)J"⟩
abbrev cX8_divide : ByteArray := prog_10_method_68_code
def yX8_divide : MethodName := ⟨RX8, "divide", "(JJ)V"⟩
abbrev cX8_takeRoot : ByteArray := prog_10_method_69_code
def yX8_takeRoot : MethodName := ⟨RX8, "takeRoot", "(JJ)V"⟩
abbrev cX8_parts : ByteArray := prog_10_method_70_code
def yX8_parts : MethodName := ⟨RX8, "parts", "()Z"⟩
abbrev cX8_tryRoot : ByteArray := prog_10_method_71_code
def yX8_tryRoot : MethodName := ⟨RX8, "tryRoot", "(JJ)V"⟩
abbrev cX8_sortRoots : ByteArray := prog_10_method_72_code
def yX8_sortRoots : MethodName := ⟨RX8, "sortRoots", "()V"⟩
abbrev cX8_layLeft : ByteArray := prog_10_method_73_code
def yX8_layLeft : MethodName := ⟨RX8, "layLeft", "()V"⟩
abbrev cX8_threeRoots : ByteArray := prog_10_method_74_code
def yX8_threeRoots : MethodName := ⟨RX8, "threeRoots", "()Z"⟩
abbrev cX8_layQuartic : ByteArray := prog_10_method_75_code
def yX8_layQuartic : MethodName := ⟨RX8, "layQuartic", "()V"⟩
abbrev cX8_leftBelow : ByteArray := prog_10_method_76_code
def yX8_leftBelow : MethodName := ⟨RX8, "leftBelow", "(JJ)I"⟩
abbrev cX8_patternOf : ByteArray := prog_10_method_77_code
def yX8_patternOf : MethodName := ⟨RX8, "patternOf", "()I"⟩
abbrev cX8_partsPair : ByteArray := prog_10_method_78_code
def yX8_partsPair : MethodName := ⟨RX8, "partsPair", "(II)Z"⟩
abbrev cX8_roots : ByteArray := prog_10_method_79_code
def yX8_roots : MethodName := ⟨RX8, "roots", "(II)I"⟩
abbrev cX8_pattern : ByteArray := prog_10_method_80_code
def yX8_pattern : MethodName := ⟨RX8, "pattern", "(II)I"⟩
abbrev cX8_timesOf : ByteArray := prog_10_method_81_code
def yX8_timesOf : MethodName := ⟨RX8, "timesOf", "(JJ)I"⟩
abbrev cX8_rational : ByteArray := prog_10_method_82_code
def yX8_rational : MethodName := ⟨RX8, "rational", "(III)I"⟩
abbrev cX8_layTree : ByteArray := prog_10_method_83_code
def yX8_layTree : MethodName := ⟨RX8, "layTree", "(I)I"⟩
abbrev cX8_between : ByteArray := prog_10_method_84_code
def yX8_between : MethodName := ⟨RX8, "between", "(III)I"⟩
abbrev cX8_apartOf : ByteArray := prog_10_method_85_code
def yX8_apartOf : MethodName := ⟨RX8, "apartOf", "()I"⟩
abbrev cX8_leftAbove : ByteArray := prog_10_method_86_code
def yX8_leftAbove : MethodName := ⟨RX8, "leftAbove", "()I"⟩
abbrev cX8_isBall : ByteArray := prog_10_method_87_code
def yX8_isBall : MethodName := ⟨RX8, "isBall", "(I)Z"⟩
abbrev cX8_layMoved : ByteArray := prog_10_method_88_code
def yX8_layMoved : MethodName := ⟨RX8, "layMoved", "(I[IIII)V"⟩
abbrev cX8_apart : ByteArray := prog_10_method_89_code
def yX8_apart : MethodName := ⟨RX8, "apart", "(II)I"⟩
abbrev cX8_first : ByteArray := prog_10_method_90_code
def yX8_first : MethodName := ⟨RX8, "first", "(IIII)I"⟩
abbrev cX8_goThrough : ByteArray := prog_10_method_91_code
def yX8_goThrough : MethodName := ⟨RX8, "goThrough", "(IIII)I"⟩
abbrev cX8_shared : ByteArray := prog_10_method_92_code
def yX8_shared : MethodName := ⟨RX8, "shared", "(III)I"⟩
abbrev cX8_shared3 : ByteArray := prog_10_method_93_code
def yX8_shared3 : MethodName := ⟨RX8, "shared3", "(IIII)I"⟩
abbrev cX8_place : ByteArray := prog_10_method_94_code
def yX8_place : MethodName := ⟨RX8, "place", "(II)I"⟩
abbrev cX8_asked : ByteArray := prog_10_method_95_code
def yX8_asked : MethodName := ⟨RX8, "asked", "()I"⟩
abbrev cX8_upper : ByteArray := prog_10_method_96_code
def yX8_upper : MethodName := ⟨RX8, "upper", "()J"⟩
abbrev cX8_lower : ByteArray := prog_10_method_97_code
def yX8_lower : MethodName := ⟨RX8, "lower", "()J"⟩
abbrev cX8_count : ByteArray := prog_10_method_98_code
def yX8_count : MethodName := ⟨RX8, "count", "(I)I"⟩
abbrev cX8_finding : ByteArray := prog_10_method_99_code
def yX8_finding : MethodName := ⟨RX8, "finding", "()I"⟩
abbrev cX8_findings : ByteArray := prog_10_method_100_code
def yX8_findings : MethodName := ⟨RX8, "findings", "(I)I"⟩
abbrev cX8_mix : ByteArray := prog_10_method_101_code
def yX8_mix : MethodName := ⟨RX8, "mix", "(I)V"⟩
abbrev cX8_digest : ByteArray := prog_10_method_102_code
def yX8_digest : MethodName := ⟨RX8, "digest", "()J"⟩
def RJ9 : String := "java/lang/Math"
abbrev cJ9_abs_0f7a4 : ByteArray := prog_11_method_59_code
def yJ9_abs_0f7a4 : MethodName := ⟨RJ9, "abs", "(I)I"⟩
abbrev cJ9_abs_067f4 : ByteArray := prog_11_method_61_code
def yJ9_abs_067f4 : MethodName := ⟨RJ9, "abs", "(J)J"⟩
abbrev cJ9_max_7cf53 : ByteArray := prog_11_method_65_code
def yJ9_max_7cf53 : MethodName := ⟨RJ9, "max", "(II)I"⟩
abbrev cJ9_min_7cf53 : ByteArray := prog_11_method_69_code
def yJ9_min_7cf53 : MethodName := ⟨RJ9, "min", "(II)I"⟩
def RJ10 : String := "java/lang/System"
def RL : String := "BentGroundsLaw"
abbrev cL_law : ByteArray := code
def yL_law : MethodName := ⟨RL, "law", "([I)Z"⟩
abbrev vwCl : List vw_C := [(RX0, TX0, 10), (RX1, TX1, 3), (RX2, TX2, 2), (RX3, TX3, 2), (RX4, TX4, 6), (RX5, TX5, 5), (RX6, TX6, 2), (RX7, TX7, 18), (RX8, TX8, 48)]
