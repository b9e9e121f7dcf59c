section
/-- a private method of a class that the tables say can be made, by its rows of tables_1 -/
def lw_okq (q : MethodName × Nat) : Prop := (q.1.cls ≠ "java/lang/invoke/MethodHandle" ∧ q.1.cls ≠ "java/lang/invoke/VarHandle") ∧ Cond.instantiable q.1.cls q.2 ∈ tables_1 ∧ Cond.privateMethod q.1 ∈ tables_1 ∧ Cond.instanceMethod q.1 ∈ tables_1
theorem lw_p0 : lw_okq (⟨"FloorsByLot", "feedInt", "(I)V"⟩, 18) := ⟨⟨by decide +kernel, by decide +kernel⟩, List.mem_of_getElem? (i := 24) (by decide +kernel), List.mem_of_getElem? (i := 497) (by decide +kernel), List.mem_of_getElem? (i := 498) (by decide +kernel)⟩
theorem lw_p1 : lw_okq (⟨"FloorsByLot$Reader", "next", "()V"⟩, 9) := ⟨⟨by decide +kernel, by decide +kernel⟩, List.mem_of_getElem? (i := 159) (by decide +kernel), List.mem_of_getElem? (i := 521) (by decide +kernel), List.mem_of_getElem? (i := 522) (by decide +kernel)⟩
theorem lw_p2 : lw_okq (⟨"FloorsByLot$Reader", "wordToken", "(II)I"⟩, 9) := ⟨⟨by decide +kernel, by decide +kernel⟩, List.mem_of_getElem? (i := 159) (by decide +kernel), List.mem_of_getElem? (i := 528) (by decide +kernel), List.mem_of_getElem? (i := 529) (by decide +kernel)⟩
theorem lw_p3 : lw_okq (⟨"FloorsByLot$Reader", "readFlat", "()Z"⟩, 9) := ⟨⟨by decide +kernel, by decide +kernel⟩, List.mem_of_getElem? (i := 159) (by decide +kernel), List.mem_of_getElem? (i := 642) (by decide +kernel), List.mem_of_getElem? (i := 643) (by decide +kernel)⟩
theorem lw_p4 : lw_okq (⟨"FloorsByLot$Reader", "refuse", "(I)Z"⟩, 9) := ⟨⟨by decide +kernel, by decide +kernel⟩, List.mem_of_getElem? (i := 159) (by decide +kernel), List.mem_of_getElem? (i := 646) (by decide +kernel), List.mem_of_getElem? (i := 647) (by decide +kernel)⟩
theorem lw_p5 : lw_okq (⟨"FloorsByLot$Reader", "isNumber", "(II)Z"⟩, 9) := ⟨⟨by decide +kernel, by decide +kernel⟩, List.mem_of_getElem? (i := 159) (by decide +kernel), List.mem_of_getElem? (i := 650) (by decide +kernel), List.mem_of_getElem? (i := 651) (by decide +kernel)⟩
theorem lw_p6 : lw_okq (⟨"FloorsByLot$Reader", "cannotStand", "()Z"⟩, 9) := ⟨⟨by decide +kernel, by decide +kernel⟩, List.mem_of_getElem? (i := 159) (by decide +kernel), List.mem_of_getElem? (i := 654) (by decide +kernel), List.mem_of_getElem? (i := 655) (by decide +kernel)⟩
theorem lw_p7 : lw_okq (⟨"FloorsByLot$Reader", "takeValue", "()I"⟩, 9) := ⟨⟨by decide +kernel, by decide +kernel⟩, List.mem_of_getElem? (i := 159) (by decide +kernel), List.mem_of_getElem? (i := 658) (by decide +kernel), List.mem_of_getElem? (i := 659) (by decide +kernel)⟩
theorem lw_p8 : lw_okq (⟨"FloorsByLot$Reader", "take", "(I)Z"⟩, 9) := ⟨⟨by decide +kernel, by decide +kernel⟩, List.mem_of_getElem? (i := 159) (by decide +kernel), List.mem_of_getElem? (i := 670) (by decide +kernel), List.mem_of_getElem? (i := 671) (by decide +kernel)⟩
theorem lw_p9 : lw_okq (⟨"FloorsByLot$Reader", "readFlatFlags", "(I)Z"⟩, 9) := ⟨⟨by decide +kernel, by decide +kernel⟩, List.mem_of_getElem? (i := 159) (by decide +kernel), List.mem_of_getElem? (i := 674) (by decide +kernel), List.mem_of_getElem? (i := 675) (by decide +kernel)⟩
theorem lw_p10 : lw_okq (⟨"FloorsByLot$Reader", "readHousehold", "()Z"⟩, 9) := ⟨⟨by decide +kernel, by decide +kernel⟩, List.mem_of_getElem? (i := 159) (by decide +kernel), List.mem_of_getElem? (i := 678) (by decide +kernel), List.mem_of_getElem? (i := 679) (by decide +kernel)⟩
theorem lw_p11 : lw_okq (⟨"FloorsByLot$Reader", "readLives", "()Z"⟩, 9) := ⟨⟨by decide +kernel, by decide +kernel⟩, List.mem_of_getElem? (i := 159) (by decide +kernel), List.mem_of_getElem? (i := 682) (by decide +kernel), List.mem_of_getElem? (i := 683) (by decide +kernel)⟩
theorem lw_p12 : lw_okq (⟨"FloorsByLot$Reader", "readMay", "()Z"⟩, 9) := ⟨⟨by decide +kernel, by decide +kernel⟩, List.mem_of_getElem? (i := 159) (by decide +kernel), List.mem_of_getElem? (i := 690) (by decide +kernel), List.mem_of_getElem? (i := 691) (by decide +kernel)⟩
theorem lw_p13 : lw_okq (⟨"FloorsByLot$Reader", "readTruth", "(I)Z"⟩, 9) := ⟨⟨by decide +kernel, by decide +kernel⟩, List.mem_of_getElem? (i := 159) (by decide +kernel), List.mem_of_getElem? (i := 694) (by decide +kernel), List.mem_of_getElem? (i := 695) (by decide +kernel)⟩
theorem lw_p14 : lw_okq (⟨"FloorsByLot$Reader", "readBoth", "(I)Z"⟩, 9) := ⟨⟨by decide +kernel, by decide +kernel⟩, List.mem_of_getElem? (i := 159) (by decide +kernel), List.mem_of_getElem? (i := 698) (by decide +kernel), List.mem_of_getElem? (i := 699) (by decide +kernel)⟩
theorem lw_p15 : lw_okq (⟨"FloorsByLot$Reader", "readUnit", "(I)Z"⟩, 9) := ⟨⟨by decide +kernel, by decide +kernel⟩, List.mem_of_getElem? (i := 159) (by decide +kernel), List.mem_of_getElem? (i := 702) (by decide +kernel), List.mem_of_getElem? (i := 703) (by decide +kernel)⟩
def lw_privs_1 : List (MethodName × Nat) := [(⟨"FloorsByLot", "feedInt", "(I)V"⟩, 18), (⟨"FloorsByLot$Reader", "next", "()V"⟩, 9), (⟨"FloorsByLot$Reader", "wordToken", "(II)I"⟩, 9), (⟨"FloorsByLot$Reader", "readFlat", "()Z"⟩, 9), (⟨"FloorsByLot$Reader", "refuse", "(I)Z"⟩, 9), (⟨"FloorsByLot$Reader", "isNumber", "(II)Z"⟩, 9), (⟨"FloorsByLot$Reader", "cannotStand", "()Z"⟩, 9), (⟨"FloorsByLot$Reader", "takeValue", "()I"⟩, 9), (⟨"FloorsByLot$Reader", "take", "(I)Z"⟩, 9), (⟨"FloorsByLot$Reader", "readFlatFlags", "(I)Z"⟩, 9), (⟨"FloorsByLot$Reader", "readHousehold", "()Z"⟩, 9), (⟨"FloorsByLot$Reader", "readLives", "()Z"⟩, 9), (⟨"FloorsByLot$Reader", "readMay", "()Z"⟩, 9), (⟨"FloorsByLot$Reader", "readTruth", "(I)Z"⟩, 9), (⟨"FloorsByLot$Reader", "readBoth", "(I)Z"⟩, 9), (⟨"FloorsByLot$Reader", "readUnit", "(I)Z"⟩, 9)]
theorem lw_r1 : ∀ q ∈ lw_privs_1, lw_okq q := List.forall_mem_cons.mpr ⟨lw_p0, List.forall_mem_cons.mpr ⟨lw_p1, List.forall_mem_cons.mpr ⟨lw_p2, List.forall_mem_cons.mpr ⟨lw_p3, List.forall_mem_cons.mpr ⟨lw_p4, List.forall_mem_cons.mpr ⟨lw_p5, List.forall_mem_cons.mpr ⟨lw_p6, List.forall_mem_cons.mpr ⟨lw_p7, List.forall_mem_cons.mpr ⟨lw_p8, List.forall_mem_cons.mpr ⟨lw_p9, List.forall_mem_cons.mpr ⟨lw_p10, List.forall_mem_cons.mpr ⟨lw_p11, List.forall_mem_cons.mpr ⟨lw_p12, List.forall_mem_cons.mpr ⟨lw_p13, List.forall_mem_cons.mpr ⟨lw_p14, List.forall_mem_cons.mpr ⟨lw_p15, fun _ h => absurd h List.not_mem_nil⟩⟩⟩⟩⟩⟩⟩⟩⟩⟩⟩⟩⟩⟩⟩⟩
theorem lw_p16 : lw_okq (⟨"FloorsByLot$Reader", "emit", "(I)Z"⟩, 9) := ⟨⟨by decide +kernel, by decide +kernel⟩, List.mem_of_getElem? (i := 159) (by decide +kernel), List.mem_of_getElem? (i := 706) (by decide +kernel), List.mem_of_getElem? (i := 707) (by decide +kernel)⟩
theorem lw_p17 : lw_okq (⟨"FloorsByLot$Reader", "readSum", "(I)Z"⟩, 9) := ⟨⟨by decide +kernel, by decide +kernel⟩, List.mem_of_getElem? (i := 159) (by decide +kernel), List.mem_of_getElem? (i := 710) (by decide +kernel), List.mem_of_getElem? (i := 711) (by decide +kernel)⟩
theorem lw_p18 : lw_okq (⟨"FloorsByLot$Reader", "readTerm", "(I)Z"⟩, 9) := ⟨⟨by decide +kernel, by decide +kernel⟩, List.mem_of_getElem? (i := 159) (by decide +kernel), List.mem_of_getElem? (i := 714) (by decide +kernel), List.mem_of_getElem? (i := 715) (by decide +kernel)⟩
theorem lw_p19 : lw_okq (⟨"FloorsByLot$Reader", "readAtom", "(I)Z"⟩, 9) := ⟨⟨by decide +kernel, by decide +kernel⟩, List.mem_of_getElem? (i := 159) (by decide +kernel), List.mem_of_getElem? (i := 718) (by decide +kernel), List.mem_of_getElem? (i := 719) (by decide +kernel)⟩
theorem lw_p20 : lw_okq (⟨"FloorsByLot$Reader", "readWorth", "()Z"⟩, 9) := ⟨⟨by decide +kernel, by decide +kernel⟩, List.mem_of_getElem? (i := 159) (by decide +kernel), List.mem_of_getElem? (i := 722) (by decide +kernel), List.mem_of_getElem? (i := 723) (by decide +kernel)⟩
theorem lw_p21 : lw_okq (⟨"FloorsByLot$Reader", "readQuarter", "()Z"⟩, 9) := ⟨⟨by decide +kernel, by decide +kernel⟩, List.mem_of_getElem? (i := 159) (by decide +kernel), List.mem_of_getElem? (i := 726) (by decide +kernel), List.mem_of_getElem? (i := 727) (by decide +kernel)⟩
theorem lw_p22 : lw_okq (⟨"FloorsByLot", "isFlat", "(I)Z"⟩, 18) := ⟨⟨by decide +kernel, by decide +kernel⟩, List.mem_of_getElem? (i := 24) (by decide +kernel), List.mem_of_getElem? (i := 754) (by decide +kernel), List.mem_of_getElem? (i := 755) (by decide +kernel)⟩
theorem lw_p23 : lw_okq (⟨"FloorsByLot", "isHousehold", "(I)Z"⟩, 18) := ⟨⟨by decide +kernel, by decide +kernel⟩, List.mem_of_getElem? (i := 24) (by decide +kernel), List.mem_of_getElem? (i := 764) (by decide +kernel), List.mem_of_getElem? (i := 765) (by decide +kernel)⟩
theorem lw_p24 : lw_okq (⟨"FloorsByLot", "isPair", "(II)Z"⟩, 18) := ⟨⟨by decide +kernel, by decide +kernel⟩, List.mem_of_getElem? (i := 24) (by decide +kernel), List.mem_of_getElem? (i := 776) (by decide +kernel), List.mem_of_getElem? (i := 777) (by decide +kernel)⟩
theorem lw_p25 : lw_okq (⟨"FloorsByLot$Table", "learn", "(II)V"⟩, 6) := ⟨⟨by decide +kernel, by decide +kernel⟩, List.mem_of_getElem? (i := 198) (by decide +kernel), List.mem_of_getElem? (i := 788) (by decide +kernel), List.mem_of_getElem? (i := 789) (by decide +kernel)⟩
theorem lw_p26 : lw_okq (⟨"FloorsByLot$Table", "run", "(II)I"⟩, 6) := ⟨⟨by decide +kernel, by decide +kernel⟩, List.mem_of_getElem? (i := 198) (by decide +kernel), List.mem_of_getElem? (i := 794) (by decide +kernel), List.mem_of_getElem? (i := 795) (by decide +kernel)⟩
theorem lw_p27 : lw_okq (⟨"FloorsByLot$Maps", "waysFrom", "(I)I"⟩, 7) := ⟨⟨by decide +kernel, by decide +kernel⟩, List.mem_of_getElem? (i := 227) (by decide +kernel), List.mem_of_getElem? (i := 835) (by decide +kernel), List.mem_of_getElem? (i := 836) (by decide +kernel)⟩
theorem lw_p28 : lw_okq (⟨"FloorsByLot$Rings", "ownerWanted", "(II)I"⟩, 6) := ⟨⟨by decide +kernel, by decide +kernel⟩, List.mem_of_getElem? (i := 256) (by decide +kernel), List.mem_of_getElem? (i := 874) (by decide +kernel), List.mem_of_getElem? (i := 875) (by decide +kernel)⟩
theorem lw_p29 : lw_okq (⟨"FloorsByLot$Rings", "closeOne", "(I)I"⟩, 6) := ⟨⟨by decide +kernel, by decide +kernel⟩, List.mem_of_getElem? (i := 256) (by decide +kernel), List.mem_of_getElem? (i := 881) (by decide +kernel), List.mem_of_getElem? (i := 882) (by decide +kernel)⟩
theorem lw_p30 : lw_okq (⟨"FloorsByLot$Deeds", "doOne", "(J)I"⟩, 9) := ⟨⟨by decide +kernel, by decide +kernel⟩, List.mem_of_getElem? (i := 356) (by decide +kernel), List.mem_of_getElem? (i := 955) (by decide +kernel), List.mem_of_getElem? (i := 956) (by decide +kernel)⟩
theorem lw_p31 : lw_okq (⟨"FloorsByLot$Deeds", "noted", "(I)I"⟩, 9) := ⟨⟨by decide +kernel, by decide +kernel⟩, List.mem_of_getElem? (i := 356) (by decide +kernel), List.mem_of_getElem? (i := 961) (by decide +kernel), List.mem_of_getElem? (i := 962) (by decide +kernel)⟩
def lw_privs_2 : List (MethodName × Nat) := [(⟨"FloorsByLot$Reader", "emit", "(I)Z"⟩, 9), (⟨"FloorsByLot$Reader", "readSum", "(I)Z"⟩, 9), (⟨"FloorsByLot$Reader", "readTerm", "(I)Z"⟩, 9), (⟨"FloorsByLot$Reader", "readAtom", "(I)Z"⟩, 9), (⟨"FloorsByLot$Reader", "readWorth", "()Z"⟩, 9), (⟨"FloorsByLot$Reader", "readQuarter", "()Z"⟩, 9), (⟨"FloorsByLot", "isFlat", "(I)Z"⟩, 18), (⟨"FloorsByLot", "isHousehold", "(I)Z"⟩, 18), (⟨"FloorsByLot", "isPair", "(II)Z"⟩, 18), (⟨"FloorsByLot$Table", "learn", "(II)V"⟩, 6), (⟨"FloorsByLot$Table", "run", "(II)I"⟩, 6), (⟨"FloorsByLot$Maps", "waysFrom", "(I)I"⟩, 7), (⟨"FloorsByLot$Rings", "ownerWanted", "(II)I"⟩, 6), (⟨"FloorsByLot$Rings", "closeOne", "(I)I"⟩, 6), (⟨"FloorsByLot$Deeds", "doOne", "(J)I"⟩, 9), (⟨"FloorsByLot$Deeds", "noted", "(I)I"⟩, 9)]
theorem lw_r2 : ∀ q ∈ lw_privs_2, lw_okq q := List.forall_mem_cons.mpr ⟨lw_p16, List.forall_mem_cons.mpr ⟨lw_p17, List.forall_mem_cons.mpr ⟨lw_p18, List.forall_mem_cons.mpr ⟨lw_p19, List.forall_mem_cons.mpr ⟨lw_p20, List.forall_mem_cons.mpr ⟨lw_p21, List.forall_mem_cons.mpr ⟨lw_p22, List.forall_mem_cons.mpr ⟨lw_p23, List.forall_mem_cons.mpr ⟨lw_p24, List.forall_mem_cons.mpr ⟨lw_p25, List.forall_mem_cons.mpr ⟨lw_p26, List.forall_mem_cons.mpr ⟨lw_p27, List.forall_mem_cons.mpr ⟨lw_p28, List.forall_mem_cons.mpr ⟨lw_p29, List.forall_mem_cons.mpr ⟨lw_p30, List.forall_mem_cons.mpr ⟨lw_p31, fun _ h => absurd h List.not_mem_nil⟩⟩⟩⟩⟩⟩⟩⟩⟩⟩⟩⟩⟩⟩⟩⟩
theorem lw_p32 : lw_okq (⟨"FloorsByLot", "judged", "(II)I"⟩, 18) := ⟨⟨by decide +kernel, by decide +kernel⟩, List.mem_of_getElem? (i := 24) (by decide +kernel), List.mem_of_getElem? (i := 972) (by decide +kernel), List.mem_of_getElem? (i := 973) (by decide +kernel)⟩
theorem lw_p33 : lw_okq (⟨"FloorsByLot", "trayCode", "(I)I"⟩, 18) := ⟨⟨by decide +kernel, by decide +kernel⟩, List.mem_of_getElem? (i := 24) (by decide +kernel), List.mem_of_getElem? (i := 984) (by decide +kernel), List.mem_of_getElem? (i := 985) (by decide +kernel)⟩
theorem lw_p34 : lw_okq (⟨"FloorsByLot", "keepIfSome", "()V"⟩, 18) := ⟨⟨by decide +kernel, by decide +kernel⟩, List.mem_of_getElem? (i := 24) (by decide +kernel), List.mem_of_getElem? (i := 988) (by decide +kernel), List.mem_of_getElem? (i := 989) (by decide +kernel)⟩
theorem lw_p35 : lw_okq (⟨"FloorsByLot$Deeds", "doByLot", "()I"⟩, 9) := ⟨⟨by decide +kernel, by decide +kernel⟩, List.mem_of_getElem? (i := 356) (by decide +kernel), List.mem_of_getElem? (i := 1000) (by decide +kernel), List.mem_of_getElem? (i := 1001) (by decide +kernel)⟩
theorem lw_p36 : lw_okq (⟨"FloorsByLot$Deeds", "nextLot", "()I"⟩, 9) := ⟨⟨by decide +kernel, by decide +kernel⟩, List.mem_of_getElem? (i := 356) (by decide +kernel), List.mem_of_getElem? (i := 1004) (by decide +kernel), List.mem_of_getElem? (i := 1005) (by decide +kernel)⟩
theorem lw_p37 : lw_okq (⟨"FloorsByLot", "tallyAll", "()I"⟩, 18) := ⟨⟨by decide +kernel, by decide +kernel⟩, List.mem_of_getElem? (i := 24) (by decide +kernel), List.mem_of_getElem? (i := 1013) (by decide +kernel), List.mem_of_getElem? (i := 1014) (by decide +kernel)⟩
theorem lw_p38 : lw_okq (⟨"FloorsByLot", "copyRows", "()V"⟩, 18) := ⟨⟨by decide +kernel, by decide +kernel⟩, List.mem_of_getElem? (i := 24) (by decide +kernel), List.mem_of_getElem? (i := 1027) (by decide +kernel), List.mem_of_getElem? (i := 1028) (by decide +kernel)⟩
theorem lw_p39 : lw_okq (⟨"FloorsByLot", "tallyRows", "()I"⟩, 18) := ⟨⟨by decide +kernel, by decide +kernel⟩, List.mem_of_getElem? (i := 24) (by decide +kernel), List.mem_of_getElem? (i := 1032) (by decide +kernel), List.mem_of_getElem? (i := 1033) (by decide +kernel)⟩
theorem lw_p40 : lw_okq (⟨"FloorsByLot", "mapsWithBoth", "(IIII)I"⟩, 18) := ⟨⟨by decide +kernel, by decide +kernel⟩, List.mem_of_getElem? (i := 24) (by decide +kernel), List.mem_of_getElem? (i := 1045) (by decide +kernel), List.mem_of_getElem? (i := 1046) (by decide +kernel)⟩
theorem lw_p41 : lw_okq (⟨"FloorsByLot$Maps", "passOn", "(II)V"⟩, 7) := ⟨⟨by decide +kernel, by decide +kernel⟩, List.mem_of_getElem? (i := 227) (by decide +kernel), List.mem_of_getElem? (i := 1062) (by decide +kernel), List.mem_of_getElem? (i := 1063) (by decide +kernel)⟩
theorem lw_p42 : lw_okq (⟨"FloorsByLot$Maps", "isOfMost", "(III[I)Z"⟩, 7) := ⟨⟨by decide +kernel, by decide +kernel⟩, List.mem_of_getElem? (i := 227) (by decide +kernel), List.mem_of_getElem? (i := 1090) (by decide +kernel), List.mem_of_getElem? (i := 1091) (by decide +kernel)⟩
theorem lw_p43 : lw_okq (⟨"FloorsByLot", "pickedFlat", "(I)I"⟩, 18) := ⟨⟨by decide +kernel, by decide +kernel⟩, List.mem_of_getElem? (i := 24) (by decide +kernel), List.mem_of_getElem? (i := 1094) (by decide +kernel), List.mem_of_getElem? (i := 1095) (by decide +kernel)⟩
theorem lw_p44 : lw_okq (⟨"FloorsByLot", "keepRowsOfWorth", "(I)V"⟩, 18) := ⟨⟨by decide +kernel, by decide +kernel⟩, List.mem_of_getElem? (i := 24) (by decide +kernel), List.mem_of_getElem? (i := 1107) (by decide +kernel), List.mem_of_getElem? (i := 1108) (by decide +kernel)⟩
theorem lw_p45 : lw_okq (⟨"FloorsByLot$Quiet", "seek", "(LFloorsByLot$Maps;III)V"⟩, 8) := ⟨⟨by decide +kernel, by decide +kernel⟩, List.mem_of_getElem? (i := 286) (by decide +kernel), List.mem_of_getElem? (i := 1122) (by decide +kernel), List.mem_of_getElem? (i := 1123) (by decide +kernel)⟩
theorem lw_p46 : lw_okq (⟨"FloorsByLot$Quiet", "harmAround", "(II)I"⟩, 8) := ⟨⟨by decide +kernel, by decide +kernel⟩, List.mem_of_getElem? (i := 286) (by decide +kernel), List.mem_of_getElem? (i := 1128) (by decide +kernel), List.mem_of_getElem? (i := 1129) (by decide +kernel)⟩
theorem lw_p47 : lw_okq (⟨"FloorsByLot$Quiet", "harmOf", "(II)I"⟩, 8) := ⟨⟨by decide +kernel, by decide +kernel⟩, List.mem_of_getElem? (i := 286) (by decide +kernel), List.mem_of_getElem? (i := 1132) (by decide +kernel), List.mem_of_getElem? (i := 1133) (by decide +kernel)⟩
def lw_privs_3 : List (MethodName × Nat) := [(⟨"FloorsByLot", "judged", "(II)I"⟩, 18), (⟨"FloorsByLot", "trayCode", "(I)I"⟩, 18), (⟨"FloorsByLot", "keepIfSome", "()V"⟩, 18), (⟨"FloorsByLot$Deeds", "doByLot", "()I"⟩, 9), (⟨"FloorsByLot$Deeds", "nextLot", "()I"⟩, 9), (⟨"FloorsByLot", "tallyAll", "()I"⟩, 18), (⟨"FloorsByLot", "copyRows", "()V"⟩, 18), (⟨"FloorsByLot", "tallyRows", "()I"⟩, 18), (⟨"FloorsByLot", "mapsWithBoth", "(IIII)I"⟩, 18), (⟨"FloorsByLot$Maps", "passOn", "(II)V"⟩, 7), (⟨"FloorsByLot$Maps", "isOfMost", "(III[I)Z"⟩, 7), (⟨"FloorsByLot", "pickedFlat", "(I)I"⟩, 18), (⟨"FloorsByLot", "keepRowsOfWorth", "(I)V"⟩, 18), (⟨"FloorsByLot$Quiet", "seek", "(LFloorsByLot$Maps;III)V"⟩, 8), (⟨"FloorsByLot$Quiet", "harmAround", "(II)I"⟩, 8), (⟨"FloorsByLot$Quiet", "harmOf", "(II)I"⟩, 8)]
theorem lw_r3 : ∀ q ∈ lw_privs_3, lw_okq q := List.forall_mem_cons.mpr ⟨lw_p32, List.forall_mem_cons.mpr ⟨lw_p33, List.forall_mem_cons.mpr ⟨lw_p34, List.forall_mem_cons.mpr ⟨lw_p35, List.forall_mem_cons.mpr ⟨lw_p36, List.forall_mem_cons.mpr ⟨lw_p37, List.forall_mem_cons.mpr ⟨lw_p38, List.forall_mem_cons.mpr ⟨lw_p39, List.forall_mem_cons.mpr ⟨lw_p40, List.forall_mem_cons.mpr ⟨lw_p41, List.forall_mem_cons.mpr ⟨lw_p42, List.forall_mem_cons.mpr ⟨lw_p43, List.forall_mem_cons.mpr ⟨lw_p44, List.forall_mem_cons.mpr ⟨lw_p45, List.forall_mem_cons.mpr ⟨lw_p46, List.forall_mem_cons.mpr ⟨lw_p47, fun _ h => absurd h List.not_mem_nil⟩⟩⟩⟩⟩⟩⟩⟩⟩⟩⟩⟩⟩⟩⟩⟩
theorem lw_p48 : lw_okq (⟨"FloorsByLot$Lift", "gather", "([I)I"⟩, 10) := ⟨⟨by decide +kernel, by decide +kernel⟩, List.mem_of_getElem? (i := 319) (by decide +kernel), List.mem_of_getElem? (i := 1190) (by decide +kernel), List.mem_of_getElem? (i := 1191) (by decide +kernel)⟩
theorem lw_p49 : lw_okq (⟨"FloorsByLot$Lift", "moverOf", "(I)I"⟩, 10) := ⟨⟨by decide +kernel, by decide +kernel⟩, List.mem_of_getElem? (i := 319) (by decide +kernel), List.mem_of_getElem? (i := 1196) (by decide +kernel), List.mem_of_getElem? (i := 1197) (by decide +kernel)⟩
theorem lw_p50 : lw_okq (⟨"FloorsByLot$Lift", "floorsToGo", "(I)I"⟩, 10) := ⟨⟨by decide +kernel, by decide +kernel⟩, List.mem_of_getElem? (i := 319) (by decide +kernel), List.mem_of_getElem? (i := 1200) (by decide +kernel), List.mem_of_getElem? (i := 1201) (by decide +kernel)⟩
theorem lw_p51 : lw_okq (⟨"FloorsByLot$Lift", "floorOf", "(I)I"⟩, 10) := ⟨⟨by decide +kernel, by decide +kernel⟩, List.mem_of_getElem? (i := 319) (by decide +kernel), List.mem_of_getElem? (i := 1204) (by decide +kernel), List.mem_of_getElem? (i := 1205) (by decide +kernel)⟩
theorem lw_p52 : lw_okq (⟨"FloorsByLot$Lift", "expand", "(II)V"⟩, 10) := ⟨⟨by decide +kernel, by decide +kernel⟩, List.mem_of_getElem? (i := 319) (by decide +kernel), List.mem_of_getElem? (i := 1216) (by decide +kernel), List.mem_of_getElem? (i := 1217) (by decide +kernel)⟩
theorem lw_p53 : lw_okq (⟨"FloorsByLot$Lift", "ride", "(III)V"⟩, 10) := ⟨⟨by decide +kernel, by decide +kernel⟩, List.mem_of_getElem? (i := 319) (by decide +kernel), List.mem_of_getElem? (i := 1220) (by decide +kernel), List.mem_of_getElem? (i := 1221) (by decide +kernel)⟩
theorem lw_p54 : lw_okq (⟨"FloorsByLot$Lift", "arrive", "(III)V"⟩, 10) := ⟨⟨by decide +kernel, by decide +kernel⟩, List.mem_of_getElem? (i := 319) (by decide +kernel), List.mem_of_getElem? (i := 1224) (by decide +kernel), List.mem_of_getElem? (i := 1225) (by decide +kernel)⟩
theorem lw_p55 : lw_okq (⟨"FloorsByLot", "seekNearest", "(I)I"⟩, 18) := ⟨⟨by decide +kernel, by decide +kernel⟩, List.mem_of_getElem? (i := 24) (by decide +kernel), List.mem_of_getElem? (i := 1233) (by decide +kernel), List.mem_of_getElem? (i := 1234) (by decide +kernel)⟩
theorem lw_p56 : lw_okq (⟨"FloorsByLot", "seenCode", "(I)I"⟩, 18) := ⟨⟨by decide +kernel, by decide +kernel⟩, List.mem_of_getElem? (i := 24) (by decide +kernel), List.mem_of_getElem? (i := 1241) (by decide +kernel), List.mem_of_getElem? (i := 1242) (by decide +kernel)⟩
theorem lw_p57 : lw_okq (⟨"FloorsByLot", "tallySeen", "(LFloorsByLot$Tray;)I"⟩, 18) := ⟨⟨by decide +kernel, by decide +kernel⟩, List.mem_of_getElem? (i := 24) (by decide +kernel), List.mem_of_getElem? (i := 1247) (by decide +kernel), List.mem_of_getElem? (i := 1248) (by decide +kernel)⟩
theorem lw_p58 : lw_okq (⟨"FloorsByLot", "mostFrequent", "(II)I"⟩, 18) := ⟨⟨by decide +kernel, by decide +kernel⟩, List.mem_of_getElem? (i := 24) (by decide +kernel), List.mem_of_getElem? (i := 1259) (by decide +kernel), List.mem_of_getElem? (i := 1260) (by decide +kernel)⟩
theorem lw_p59 : lw_okq (⟨"FloorsByLotModel", "next", "()V"⟩, 31) := ⟨⟨by decide +kernel, by decide +kernel⟩, List.mem_of_getElem? (i := 1305) (by decide +kernel), List.mem_of_getElem? (i := 1421) (by decide +kernel), List.mem_of_getElem? (i := 1422) (by decide +kernel)⟩
theorem lw_p60 : lw_okq (⟨"FloorsByLotModel", "see", "(I)I"⟩, 31) := ⟨⟨by decide +kernel, by decide +kernel⟩, List.mem_of_getElem? (i := 1305) (by decide +kernel), List.mem_of_getElem? (i := 1425) (by decide +kernel), List.mem_of_getElem? (i := 1426) (by decide +kernel)⟩
theorem lw_p61 : lw_okq (⟨"FloorsByLotModel", "keyAt", "()I"⟩, 31) := ⟨⟨by decide +kernel, by decide +kernel⟩, List.mem_of_getElem? (i := 1305) (by decide +kernel), List.mem_of_getElem? (i := 1432) (by decide +kernel), List.mem_of_getElem? (i := 1433) (by decide +kernel)⟩
theorem lw_p62 : lw_okq (⟨"FloorsByLotModel", "readLine", "()V"⟩, 31) := ⟨⟨by decide +kernel, by decide +kernel⟩, List.mem_of_getElem? (i := 1305) (by decide +kernel), List.mem_of_getElem? (i := 1443) (by decide +kernel), List.mem_of_getElem? (i := 1444) (by decide +kernel)⟩
theorem lw_p63 : lw_okq (⟨"FloorsByLotModel", "is", "(I)Z"⟩, 31) := ⟨⟨by decide +kernel, by decide +kernel⟩, List.mem_of_getElem? (i := 1305) (by decide +kernel), List.mem_of_getElem? (i := 1447) (by decide +kernel), List.mem_of_getElem? (i := 1448) (by decide +kernel)⟩
def lw_privs_4 : List (MethodName × Nat) := [(⟨"FloorsByLot$Lift", "gather", "([I)I"⟩, 10), (⟨"FloorsByLot$Lift", "moverOf", "(I)I"⟩, 10), (⟨"FloorsByLot$Lift", "floorsToGo", "(I)I"⟩, 10), (⟨"FloorsByLot$Lift", "floorOf", "(I)I"⟩, 10), (⟨"FloorsByLot$Lift", "expand", "(II)V"⟩, 10), (⟨"FloorsByLot$Lift", "ride", "(III)V"⟩, 10), (⟨"FloorsByLot$Lift", "arrive", "(III)V"⟩, 10), (⟨"FloorsByLot", "seekNearest", "(I)I"⟩, 18), (⟨"FloorsByLot", "seenCode", "(I)I"⟩, 18), (⟨"FloorsByLot", "tallySeen", "(LFloorsByLot$Tray;)I"⟩, 18), (⟨"FloorsByLot", "mostFrequent", "(II)I"⟩, 18), (⟨"FloorsByLotModel", "next", "()V"⟩, 31), (⟨"FloorsByLotModel", "see", "(I)I"⟩, 31), (⟨"FloorsByLotModel", "keyAt", "()I"⟩, 31), (⟨"FloorsByLotModel", "readLine", "()V"⟩, 31), (⟨"FloorsByLotModel", "is", "(I)Z"⟩, 31)]
theorem lw_r4 : ∀ q ∈ lw_privs_4, lw_okq q := List.forall_mem_cons.mpr ⟨lw_p48, List.forall_mem_cons.mpr ⟨lw_p49, List.forall_mem_cons.mpr ⟨lw_p50, List.forall_mem_cons.mpr ⟨lw_p51, List.forall_mem_cons.mpr ⟨lw_p52, List.forall_mem_cons.mpr ⟨lw_p53, List.forall_mem_cons.mpr ⟨lw_p54, List.forall_mem_cons.mpr ⟨lw_p55, List.forall_mem_cons.mpr ⟨lw_p56, List.forall_mem_cons.mpr ⟨lw_p57, List.forall_mem_cons.mpr ⟨lw_p58, List.forall_mem_cons.mpr ⟨lw_p59, List.forall_mem_cons.mpr ⟨lw_p60, List.forall_mem_cons.mpr ⟨lw_p61, List.forall_mem_cons.mpr ⟨lw_p62, List.forall_mem_cons.mpr ⟨lw_p63, fun _ h => absurd h List.not_mem_nil⟩⟩⟩⟩⟩⟩⟩⟩⟩⟩⟩⟩⟩⟩⟩⟩
theorem lw_p64 : lw_okq (⟨"FloorsByLotModel", "readFlat", "()V"⟩, 31) := ⟨⟨by decide +kernel, by decide +kernel⟩, List.mem_of_getElem? (i := 1305) (by decide +kernel), List.mem_of_getElem? (i := 1451) (by decide +kernel), List.mem_of_getElem? (i := 1452) (by decide +kernel)⟩
theorem lw_p65 : lw_okq (⟨"FloorsByLotModel", "fails", "(I)V"⟩, 31) := ⟨⟨by decide +kernel, by decide +kernel⟩, List.mem_of_getElem? (i := 1305) (by decide +kernel), List.mem_of_getElem? (i := 1455) (by decide +kernel), List.mem_of_getElem? (i := 1456) (by decide +kernel)⟩
theorem lw_p66 : lw_okq (⟨"FloorsByLotModel", "takes", "(II)I"⟩, 31) := ⟨⟨by decide +kernel, by decide +kernel⟩, List.mem_of_getElem? (i := 1305) (by decide +kernel), List.mem_of_getElem? (i := 1459) (by decide +kernel), List.mem_of_getElem? (i := 1460) (by decide +kernel)⟩
theorem lw_p67 : lw_okq (⟨"FloorsByLotModel", "eats", "(I)Z"⟩, 31) := ⟨⟨by decide +kernel, by decide +kernel⟩, List.mem_of_getElem? (i := 1305) (by decide +kernel), List.mem_of_getElem? (i := 1463) (by decide +kernel), List.mem_of_getElem? (i := 1464) (by decide +kernel)⟩
theorem lw_p68 : lw_okq (⟨"FloorsByLotModel", "readFlag", "(I)Z"⟩, 31) := ⟨⟨by decide +kernel, by decide +kernel⟩, List.mem_of_getElem? (i := 1305) (by decide +kernel), List.mem_of_getElem? (i := 1467) (by decide +kernel), List.mem_of_getElem? (i := 1468) (by decide +kernel)⟩
theorem lw_p69 : lw_okq (⟨"FloorsByLotModel", "readHousehold", "()V"⟩, 31) := ⟨⟨by decide +kernel, by decide +kernel⟩, List.mem_of_getElem? (i := 1305) (by decide +kernel), List.mem_of_getElem? (i := 1471) (by decide +kernel), List.mem_of_getElem? (i := 1472) (by decide +kernel)⟩
theorem lw_p70 : lw_okq (⟨"FloorsByLotModel", "readLives", "()V"⟩, 31) := ⟨⟨by decide +kernel, by decide +kernel⟩, List.mem_of_getElem? (i := 1305) (by decide +kernel), List.mem_of_getElem? (i := 1477) (by decide +kernel), List.mem_of_getElem? (i := 1478) (by decide +kernel)⟩
theorem lw_p71 : lw_okq (⟨"FloorsByLotModel", "readLaw", "(I)V"⟩, 31) := ⟨⟨by decide +kernel, by decide +kernel⟩, List.mem_of_getElem? (i := 1305) (by decide +kernel), List.mem_of_getElem? (i := 1481) (by decide +kernel), List.mem_of_getElem? (i := 1482) (by decide +kernel)⟩
theorem lw_p72 : lw_okq (⟨"FloorsByLotModel", "readSum", "(I)V"⟩, 31) := ⟨⟨by decide +kernel, by decide +kernel⟩, List.mem_of_getElem? (i := 1305) (by decide +kernel), List.mem_of_getElem? (i := 1485) (by decide +kernel), List.mem_of_getElem? (i := 1486) (by decide +kernel)⟩
theorem lw_p73 : lw_okq (⟨"FloorsByLotModel", "readTerm", "(I)V"⟩, 31) := ⟨⟨by decide +kernel, by decide +kernel⟩, List.mem_of_getElem? (i := 1305) (by decide +kernel), List.mem_of_getElem? (i := 1489) (by decide +kernel), List.mem_of_getElem? (i := 1490) (by decide +kernel)⟩
theorem lw_p74 : lw_okq (⟨"FloorsByLotModel", "readAtom", "(I)V"⟩, 31) := ⟨⟨by decide +kernel, by decide +kernel⟩, List.mem_of_getElem? (i := 1305) (by decide +kernel), List.mem_of_getElem? (i := 1493) (by decide +kernel), List.mem_of_getElem? (i := 1494) (by decide +kernel)⟩
theorem lw_p75 : lw_okq (⟨"FloorsByLotModel", "codes", "(I)V"⟩, 31) := ⟨⟨by decide +kernel, by decide +kernel⟩, List.mem_of_getElem? (i := 1305) (by decide +kernel), List.mem_of_getElem? (i := 1497) (by decide +kernel), List.mem_of_getElem? (i := 1498) (by decide +kernel)⟩
theorem lw_p76 : lw_okq (⟨"FloorsByLotModel", "goesIn", "(I)Z"⟩, 31) := ⟨⟨by decide +kernel, by decide +kernel⟩, List.mem_of_getElem? (i := 1305) (by decide +kernel), List.mem_of_getElem? (i := 1503) (by decide +kernel), List.mem_of_getElem? (i := 1504) (by decide +kernel)⟩
theorem lw_p77 : lw_okq (⟨"FloorsByLotModel", "readTruth", "(I)V"⟩, 31) := ⟨⟨by decide +kernel, by decide +kernel⟩, List.mem_of_getElem? (i := 1305) (by decide +kernel), List.mem_of_getElem? (i := 1507) (by decide +kernel), List.mem_of_getElem? (i := 1508) (by decide +kernel)⟩
theorem lw_p78 : lw_okq (⟨"FloorsByLotModel", "readBoth", "(I)V"⟩, 31) := ⟨⟨by decide +kernel, by decide +kernel⟩, List.mem_of_getElem? (i := 1305) (by decide +kernel), List.mem_of_getElem? (i := 1511) (by decide +kernel), List.mem_of_getElem? (i := 1512) (by decide +kernel)⟩
theorem lw_p79 : lw_okq (⟨"FloorsByLotModel", "readUnit", "(I)V"⟩, 31) := ⟨⟨by decide +kernel, by decide +kernel⟩, List.mem_of_getElem? (i := 1305) (by decide +kernel), List.mem_of_getElem? (i := 1515) (by decide +kernel), List.mem_of_getElem? (i := 1516) (by decide +kernel)⟩
def lw_privs_5 : List (MethodName × Nat) := [(⟨"FloorsByLotModel", "readFlat", "()V"⟩, 31), (⟨"FloorsByLotModel", "fails", "(I)V"⟩, 31), (⟨"FloorsByLotModel", "takes", "(II)I"⟩, 31), (⟨"FloorsByLotModel", "eats", "(I)Z"⟩, 31), (⟨"FloorsByLotModel", "readFlag", "(I)Z"⟩, 31), (⟨"FloorsByLotModel", "readHousehold", "()V"⟩, 31), (⟨"FloorsByLotModel", "readLives", "()V"⟩, 31), (⟨"FloorsByLotModel", "readLaw", "(I)V"⟩, 31), (⟨"FloorsByLotModel", "readSum", "(I)V"⟩, 31), (⟨"FloorsByLotModel", "readTerm", "(I)V"⟩, 31), (⟨"FloorsByLotModel", "readAtom", "(I)V"⟩, 31), (⟨"FloorsByLotModel", "codes", "(I)V"⟩, 31), (⟨"FloorsByLotModel", "goesIn", "(I)Z"⟩, 31), (⟨"FloorsByLotModel", "readTruth", "(I)V"⟩, 31), (⟨"FloorsByLotModel", "readBoth", "(I)V"⟩, 31), (⟨"FloorsByLotModel", "readUnit", "(I)V"⟩, 31)]
theorem lw_r5 : ∀ q ∈ lw_privs_5, lw_okq q := List.forall_mem_cons.mpr ⟨lw_p64, List.forall_mem_cons.mpr ⟨lw_p65, List.forall_mem_cons.mpr ⟨lw_p66, List.forall_mem_cons.mpr ⟨lw_p67, List.forall_mem_cons.mpr ⟨lw_p68, List.forall_mem_cons.mpr ⟨lw_p69, List.forall_mem_cons.mpr ⟨lw_p70, List.forall_mem_cons.mpr ⟨lw_p71, List.forall_mem_cons.mpr ⟨lw_p72, List.forall_mem_cons.mpr ⟨lw_p73, List.forall_mem_cons.mpr ⟨lw_p74, List.forall_mem_cons.mpr ⟨lw_p75, List.forall_mem_cons.mpr ⟨lw_p76, List.forall_mem_cons.mpr ⟨lw_p77, List.forall_mem_cons.mpr ⟨lw_p78, List.forall_mem_cons.mpr ⟨lw_p79, fun _ h => absurd h List.not_mem_nil⟩⟩⟩⟩⟩⟩⟩⟩⟩⟩⟩⟩⟩⟩⟩⟩
theorem lw_p80 : lw_okq (⟨"FloorsByLotModel", "isFlat", "(J)Z"⟩, 31) := ⟨⟨by decide +kernel, by decide +kernel⟩, List.mem_of_getElem? (i := 1305) (by decide +kernel), List.mem_of_getElem? (i := 1527) (by decide +kernel), List.mem_of_getElem? (i := 1528) (by decide +kernel)⟩
theorem lw_p81 : lw_okq (⟨"FloorsByLotModel", "livesIn", "(I)I"⟩, 31) := ⟨⟨by decide +kernel, by decide +kernel⟩, List.mem_of_getElem? (i := 1305) (by decide +kernel), List.mem_of_getElem? (i := 1532) (by decide +kernel), List.mem_of_getElem? (i := 1533) (by decide +kernel)⟩
theorem lw_p82 : lw_okq (⟨"FloorsByLotModel", "isHousehold", "(J)Z"⟩, 31) := ⟨⟨by decide +kernel, by decide +kernel⟩, List.mem_of_getElem? (i := 1305) (by decide +kernel), List.mem_of_getElem? (i := 1540) (by decide +kernel), List.mem_of_getElem? (i := 1541) (by decide +kernel)⟩
theorem lw_p83 : lw_okq (⟨"FloorsByLotModel", "areBoth", "(II)Z"⟩, 31) := ⟨⟨by decide +kernel, by decide +kernel⟩, List.mem_of_getElem? (i := 1305) (by decide +kernel), List.mem_of_getElem? (i := 1549) (by decide +kernel), List.mem_of_getElem? (i := 1550) (by decide +kernel)⟩
theorem lw_p84 : lw_okq (⟨"FloorsByLotModel", "mayLive", "(II)Z"⟩, 31) := ⟨⟨by decide +kernel, by decide +kernel⟩, List.mem_of_getElem? (i := 1305) (by decide +kernel), List.mem_of_getElem? (i := 1557) (by decide +kernel), List.mem_of_getElem? (i := 1558) (by decide +kernel)⟩
theorem lw_p85 : lw_okq (⟨"FloorsByLotModel", "reckons", "(III)I"⟩, 31) := ⟨⟨by decide +kernel, by decide +kernel⟩, List.mem_of_getElem? (i := 1305) (by decide +kernel), List.mem_of_getElem? (i := 1561) (by decide +kernel), List.mem_of_getElem? (i := 1562) (by decide +kernel)⟩
theorem lw_p86 : lw_okq (⟨"FloorsByLotModel", "valueOf", "(III)I"⟩, 31) := ⟨⟨by decide +kernel, by decide +kernel⟩, List.mem_of_getElem? (i := 1305) (by decide +kernel), List.mem_of_getElem? (i := 1565) (by decide +kernel), List.mem_of_getElem? (i := 1566) (by decide +kernel)⟩
theorem lw_p87 : lw_okq (⟨"FloorsByLotModel", "worthOf", "(II)I"⟩, 31) := ⟨⟨by decide +kernel, by decide +kernel⟩, List.mem_of_getElem? (i := 1305) (by decide +kernel), List.mem_of_getElem? (i := 1580) (by decide +kernel), List.mem_of_getElem? (i := 1581) (by decide +kernel)⟩
theorem lw_p88 : lw_okq (⟨"FloorsByLotModel", "laysMaps", "(I)V"⟩, 31) := ⟨⟨by decide +kernel, by decide +kernel⟩, List.mem_of_getElem? (i := 1305) (by decide +kernel), List.mem_of_getElem? (i := 1589) (by decide +kernel), List.mem_of_getElem? (i := 1590) (by decide +kernel)⟩
theorem lw_p89 : lw_okq (⟨"FloorsByLotModel", "laysLaws", "()V"⟩, 31) := ⟨⟨by decide +kernel, by decide +kernel⟩, List.mem_of_getElem? (i := 1305) (by decide +kernel), List.mem_of_getElem? (i := 1593) (by decide +kernel), List.mem_of_getElem? (i := 1594) (by decide +kernel)⟩
theorem lw_p90 : lw_okq (⟨"FloorsByLotModel", "goesMaps", "(IIII)V"⟩, 31) := ⟨⟨by decide +kernel, by decide +kernel⟩, List.mem_of_getElem? (i := 1305) (by decide +kernel), List.mem_of_getElem? (i := 1597) (by decide +kernel), List.mem_of_getElem? (i := 1598) (by decide +kernel)⟩
theorem lw_p91 : lw_okq (⟨"FloorsByLotModel", "keeps", "()V"⟩, 31) := ⟨⟨by decide +kernel, by decide +kernel⟩, List.mem_of_getElem? (i := 1305) (by decide +kernel), List.mem_of_getElem? (i := 1604) (by decide +kernel), List.mem_of_getElem? (i := 1605) (by decide +kernel)⟩
theorem lw_p92 : lw_okq (⟨"FloorsByLotModel", "drawsBy", "(J)I"⟩, 31) := ⟨⟨by decide +kernel, by decide +kernel⟩, List.mem_of_getElem? (i := 1305) (by decide +kernel), List.mem_of_getElem? (i := 1608) (by decide +kernel), List.mem_of_getElem? (i := 1609) (by decide +kernel)⟩
theorem lw_p93 : lw_okq (⟨"FloorsByLotModel", "notes", "()V"⟩, 31) := ⟨⟨by decide +kernel, by decide +kernel⟩, List.mem_of_getElem? (i := 1305) (by decide +kernel), List.mem_of_getElem? (i := 1615) (by decide +kernel), List.mem_of_getElem? (i := 1616) (by decide +kernel)⟩
theorem lw_p94 : lw_okq (⟨"FloorsByLotModel", "goesRings", "()I"⟩, 31) := ⟨⟨by decide +kernel, by decide +kernel⟩, List.mem_of_getElem? (i := 1305) (by decide +kernel), List.mem_of_getElem? (i := 1623) (by decide +kernel), List.mem_of_getElem? (i := 1624) (by decide +kernel)⟩
theorem lw_p95 : lw_okq (⟨"FloorsByLotModel", "laysRings", "()V"⟩, 31) := ⟨⟨by decide +kernel, by decide +kernel⟩, List.mem_of_getElem? (i := 1305) (by decide +kernel), List.mem_of_getElem? (i := 1627) (by decide +kernel), List.mem_of_getElem? (i := 1628) (by decide +kernel)⟩
def lw_privs_6 : List (MethodName × Nat) := [(⟨"FloorsByLotModel", "isFlat", "(J)Z"⟩, 31), (⟨"FloorsByLotModel", "livesIn", "(I)I"⟩, 31), (⟨"FloorsByLotModel", "isHousehold", "(J)Z"⟩, 31), (⟨"FloorsByLotModel", "areBoth", "(II)Z"⟩, 31), (⟨"FloorsByLotModel", "mayLive", "(II)Z"⟩, 31), (⟨"FloorsByLotModel", "reckons", "(III)I"⟩, 31), (⟨"FloorsByLotModel", "valueOf", "(III)I"⟩, 31), (⟨"FloorsByLotModel", "worthOf", "(II)I"⟩, 31), (⟨"FloorsByLotModel", "laysMaps", "(I)V"⟩, 31), (⟨"FloorsByLotModel", "laysLaws", "()V"⟩, 31), (⟨"FloorsByLotModel", "goesMaps", "(IIII)V"⟩, 31), (⟨"FloorsByLotModel", "keeps", "()V"⟩, 31), (⟨"FloorsByLotModel", "drawsBy", "(J)I"⟩, 31), (⟨"FloorsByLotModel", "notes", "()V"⟩, 31), (⟨"FloorsByLotModel", "goesRings", "()I"⟩, 31), (⟨"FloorsByLotModel", "laysRings", "()V"⟩, 31)]
theorem lw_r6 : ∀ q ∈ lw_privs_6, lw_okq q := List.forall_mem_cons.mpr ⟨lw_p80, List.forall_mem_cons.mpr ⟨lw_p81, List.forall_mem_cons.mpr ⟨lw_p82, List.forall_mem_cons.mpr ⟨lw_p83, List.forall_mem_cons.mpr ⟨lw_p84, List.forall_mem_cons.mpr ⟨lw_p85, List.forall_mem_cons.mpr ⟨lw_p86, List.forall_mem_cons.mpr ⟨lw_p87, List.forall_mem_cons.mpr ⟨lw_p88, List.forall_mem_cons.mpr ⟨lw_p89, List.forall_mem_cons.mpr ⟨lw_p90, List.forall_mem_cons.mpr ⟨lw_p91, List.forall_mem_cons.mpr ⟨lw_p92, List.forall_mem_cons.mpr ⟨lw_p93, List.forall_mem_cons.mpr ⟨lw_p94, List.forall_mem_cons.mpr ⟨lw_p95, fun _ h => absurd h List.not_mem_nil⟩⟩⟩⟩⟩⟩⟩⟩⟩⟩⟩⟩⟩⟩⟩⟩
theorem lw_p96 : lw_okq (⟨"FloorsByLotModel", "pointsAt", "(II)I"⟩, 31) := ⟨⟨by decide +kernel, by decide +kernel⟩, List.mem_of_getElem? (i := 1305) (by decide +kernel), List.mem_of_getElem? (i := 1631) (by decide +kernel), List.mem_of_getElem? (i := 1632) (by decide +kernel)⟩
theorem lw_p97 : lw_okq (⟨"FloorsByLotModel", "whyMove", "(JJ)I"⟩, 31) := ⟨⟨by decide +kernel, by decide +kernel⟩, List.mem_of_getElem? (i := 1305) (by decide +kernel), List.mem_of_getElem? (i := 1639) (by decide +kernel), List.mem_of_getElem? (i := 1640) (by decide +kernel)⟩
theorem lw_p98 : lw_okq (⟨"FloorsByLotModel", "floorOf", "(I)I"⟩, 31) := ⟨⟨by decide +kernel, by decide +kernel⟩, List.mem_of_getElem? (i := 1305) (by decide +kernel), List.mem_of_getElem? (i := 1643) (by decide +kernel), List.mem_of_getElem? (i := 1644) (by decide +kernel)⟩
theorem lw_p99 : lw_okq (⟨"FloorsByLotModel", "whyLeave", "(J)I"⟩, 31) := ⟨⟨by decide +kernel, by decide +kernel⟩, List.mem_of_getElem? (i := 1305) (by decide +kernel), List.mem_of_getElem? (i := 1654) (by decide +kernel), List.mem_of_getElem? (i := 1655) (by decide +kernel)⟩
theorem lw_p100 : lw_okq (⟨"FloorsByLotModel", "whyFault", "(JI)I"⟩, 31) := ⟨⟨by decide +kernel, by decide +kernel⟩, List.mem_of_getElem? (i := 1305) (by decide +kernel), List.mem_of_getElem? (i := 1662) (by decide +kernel), List.mem_of_getElem? (i := 1663) (by decide +kernel)⟩
theorem lw_p101 : lw_okq (⟨"FloorsByLotModel", "noTray", "(I)I"⟩, 31) := ⟨⟨by decide +kernel, by decide +kernel⟩, List.mem_of_getElem? (i := 1305) (by decide +kernel), List.mem_of_getElem? (i := 1679) (by decide +kernel), List.mem_of_getElem? (i := 1680) (by decide +kernel)⟩
theorem lw_p102 : lw_okq (⟨"FloorsByLotModel", "tells", "(I)I"⟩, 31) := ⟨⟨by decide +kernel, by decide +kernel⟩, List.mem_of_getElem? (i := 1305) (by decide +kernel), List.mem_of_getElem? (i := 1683) (by decide +kernel), List.mem_of_getElem? (i := 1684) (by decide +kernel)⟩
theorem lw_p103 : lw_okq (⟨"FloorsByLotModel", "whyNot", "(J)I"⟩, 31) := ⟨⟨by decide +kernel, by decide +kernel⟩, List.mem_of_getElem? (i := 1305) (by decide +kernel), List.mem_of_getElem? (i := 1687) (by decide +kernel), List.mem_of_getElem? (i := 1688) (by decide +kernel)⟩
theorem lw_p104 : lw_okq (⟨"FloorsByLotModel", "does", "(J)V"⟩, 31) := ⟨⟨by decide +kernel, by decide +kernel⟩, List.mem_of_getElem? (i := 1305) (by decide +kernel), List.mem_of_getElem? (i := 1701) (by decide +kernel), List.mem_of_getElem? (i := 1702) (by decide +kernel)⟩
theorem lw_p105 : lw_okq (⟨"FloorsByLotModel", "away", "()I"⟩, 31) := ⟨⟨by decide +kernel, by decide +kernel⟩, List.mem_of_getElem? (i := 1305) (by decide +kernel), List.mem_of_getElem? (i := 1705) (by decide +kernel), List.mem_of_getElem? (i := 1706) (by decide +kernel)⟩
theorem lw_p106 : lw_okq (⟨"FloorsByLotModel", "isAgain", "()V"⟩, 31) := ⟨⟨by decide +kernel, by decide +kernel⟩, List.mem_of_getElem? (i := 1305) (by decide +kernel), List.mem_of_getElem? (i := 1709) (by decide +kernel), List.mem_of_getElem? (i := 1710) (by decide +kernel)⟩
theorem lw_p107 : lw_okq (⟨"FloorsByLotModel", "drawn", "()J"⟩, 31) := ⟨⟨by decide +kernel, by decide +kernel⟩, List.mem_of_getElem? (i := 1305) (by decide +kernel), List.mem_of_getElem? (i := 1722) (by decide +kernel), List.mem_of_getElem? (i := 1723) (by decide +kernel)⟩
theorem lw_p108 : lw_okq (⟨"FloorsByLotModel", "draw", "()I"⟩, 31) := ⟨⟨by decide +kernel, by decide +kernel⟩, List.mem_of_getElem? (i := 1305) (by decide +kernel), List.mem_of_getElem? (i := 1726) (by decide +kernel), List.mem_of_getElem? (i := 1727) (by decide +kernel)⟩
theorem lw_p109 : lw_okq (⟨"FloorsByLotModel", "withOf", "(II)I"⟩, 31) := ⟨⟨by decide +kernel, by decide +kernel⟩, List.mem_of_getElem? (i := 1305) (by decide +kernel), List.mem_of_getElem? (i := 1743) (by decide +kernel), List.mem_of_getElem? (i := 1744) (by decide +kernel)⟩
theorem lw_p110 : lw_okq (⟨"FloorsByLotModel", "isAbove", "(II)Z"⟩, 31) := ⟨⟨by decide +kernel, by decide +kernel⟩, List.mem_of_getElem? (i := 1305) (by decide +kernel), List.mem_of_getElem? (i := 1751) (by decide +kernel), List.mem_of_getElem? (i := 1752) (by decide +kernel)⟩
theorem lw_p111 : lw_okq (⟨"FloorsByLotModel", "asked", "(III)I"⟩, 31) := ⟨⟨by decide +kernel, by decide +kernel⟩, List.mem_of_getElem? (i := 1305) (by decide +kernel), List.mem_of_getElem? (i := 1776) (by decide +kernel), List.mem_of_getElem? (i := 1777) (by decide +kernel)⟩
def lw_privs_7 : List (MethodName × Nat) := [(⟨"FloorsByLotModel", "pointsAt", "(II)I"⟩, 31), (⟨"FloorsByLotModel", "whyMove", "(JJ)I"⟩, 31), (⟨"FloorsByLotModel", "floorOf", "(I)I"⟩, 31), (⟨"FloorsByLotModel", "whyLeave", "(J)I"⟩, 31), (⟨"FloorsByLotModel", "whyFault", "(JI)I"⟩, 31), (⟨"FloorsByLotModel", "noTray", "(I)I"⟩, 31), (⟨"FloorsByLotModel", "tells", "(I)I"⟩, 31), (⟨"FloorsByLotModel", "whyNot", "(J)I"⟩, 31), (⟨"FloorsByLotModel", "does", "(J)V"⟩, 31), (⟨"FloorsByLotModel", "away", "()I"⟩, 31), (⟨"FloorsByLotModel", "isAgain", "()V"⟩, 31), (⟨"FloorsByLotModel", "drawn", "()J"⟩, 31), (⟨"FloorsByLotModel", "draw", "()I"⟩, 31), (⟨"FloorsByLotModel", "withOf", "(II)I"⟩, 31), (⟨"FloorsByLotModel", "isAbove", "(II)Z"⟩, 31), (⟨"FloorsByLotModel", "asked", "(III)I"⟩, 31)]
theorem lw_r7 : ∀ q ∈ lw_privs_7, lw_okq q := List.forall_mem_cons.mpr ⟨lw_p96, List.forall_mem_cons.mpr ⟨lw_p97, List.forall_mem_cons.mpr ⟨lw_p98, List.forall_mem_cons.mpr ⟨lw_p99, List.forall_mem_cons.mpr ⟨lw_p100, List.forall_mem_cons.mpr ⟨lw_p101, List.forall_mem_cons.mpr ⟨lw_p102, List.forall_mem_cons.mpr ⟨lw_p103, List.forall_mem_cons.mpr ⟨lw_p104, List.forall_mem_cons.mpr ⟨lw_p105, List.forall_mem_cons.mpr ⟨lw_p106, List.forall_mem_cons.mpr ⟨lw_p107, List.forall_mem_cons.mpr ⟨lw_p108, List.forall_mem_cons.mpr ⟨lw_p109, List.forall_mem_cons.mpr ⟨lw_p110, List.forall_mem_cons.mpr ⟨lw_p111, fun _ h => absurd h List.not_mem_nil⟩⟩⟩⟩⟩⟩⟩⟩⟩⟩⟩⟩⟩⟩⟩⟩
theorem lw_p112 : lw_okq (⟨"FloorsByLotModel", "bestMap", "(I)I"⟩, 31) := ⟨⟨by decide +kernel, by decide +kernel⟩, List.mem_of_getElem? (i := 1305) (by decide +kernel), List.mem_of_getElem? (i := 1781) (by decide +kernel), List.mem_of_getElem? (i := 1782) (by decide +kernel)⟩
theorem lw_p113 : lw_okq (⟨"FloorsByLotModel", "valueIn", "(II)I"⟩, 31) := ⟨⟨by decide +kernel, by decide +kernel⟩, List.mem_of_getElem? (i := 1305) (by decide +kernel), List.mem_of_getElem? (i := 1785) (by decide +kernel), List.mem_of_getElem? (i := 1786) (by decide +kernel)⟩
theorem lw_p114 : lw_okq (⟨"FloorsByLotModel", "worthIn", "(I)I"⟩, 31) := ⟨⟨by decide +kernel, by decide +kernel⟩, List.mem_of_getElem? (i := 1305) (by decide +kernel), List.mem_of_getElem? (i := 1789) (by decide +kernel), List.mem_of_getElem? (i := 1790) (by decide +kernel)⟩
theorem lw_p115 : lw_okq (⟨"FloorsByLotModel", "leastIn", "(I)I"⟩, 31) := ⟨⟨by decide +kernel, by decide +kernel⟩, List.mem_of_getElem? (i := 1305) (by decide +kernel), List.mem_of_getElem? (i := 1793) (by decide +kernel), List.mem_of_getElem? (i := 1794) (by decide +kernel)⟩
theorem lw_p116 : lw_okq (⟨"FloorsByLotModel", "harmIn", "(I)I"⟩, 31) := ⟨⟨by decide +kernel, by decide +kernel⟩, List.mem_of_getElem? (i := 1305) (by decide +kernel), List.mem_of_getElem? (i := 1798) (by decide +kernel), List.mem_of_getElem? (i := 1799) (by decide +kernel)⟩
theorem lw_p117 : lw_okq (⟨"FloorsByLotModel", "harmOf", "(IIII)I"⟩, 31) := ⟨⟨by decide +kernel, by decide +kernel⟩, List.mem_of_getElem? (i := 1305) (by decide +kernel), List.mem_of_getElem? (i := 1802) (by decide +kernel), List.mem_of_getElem? (i := 1803) (by decide +kernel)⟩
theorem lw_p118 : lw_okq (⟨"FloorsByLotModel", "isEnvied", "(II)Z"⟩, 31) := ⟨⟨by decide +kernel, by decide +kernel⟩, List.mem_of_getElem? (i := 1305) (by decide +kernel), List.mem_of_getElem? (i := 1830) (by decide +kernel), List.mem_of_getElem? (i := 1831) (by decide +kernel)⟩
theorem lw_p119 : lw_okq (⟨"FloorsByLotModel", "moved", "(I)I"⟩, 31) := ⟨⟨by decide +kernel, by decide +kernel⟩, List.mem_of_getElem? (i := 1305) (by decide +kernel), List.mem_of_getElem? (i := 1850) (by decide +kernel), List.mem_of_getElem? (i := 1851) (by decide +kernel)⟩
theorem lw_p120 : lw_okq (⟨"FloorsByLotModel", "goesDay", "(IIIII)V"⟩, 31) := ⟨⟨by decide +kernel, by decide +kernel⟩, List.mem_of_getElem? (i := 1305) (by decide +kernel), List.mem_of_getElem? (i := 1854) (by decide +kernel), List.mem_of_getElem? (i := 1855) (by decide +kernel)⟩
theorem lw_p121 : lw_okq (⟨"FloorsByLotModel", "isEmpty", "(II)Z"⟩, 31) := ⟨⟨by decide +kernel, by decide +kernel⟩, List.mem_of_getElem? (i := 1305) (by decide +kernel), List.mem_of_getElem? (i := 1858) (by decide +kernel), List.mem_of_getElem? (i := 1859) (by decide +kernel)⟩
theorem lw_p122 : lw_okq (⟨"FloorsByLotModel", "noSeen", "(I)I"⟩, 31) := ⟨⟨by decide +kernel, by decide +kernel⟩, List.mem_of_getElem? (i := 1305) (by decide +kernel), List.mem_of_getElem? (i := 1870) (by decide +kernel), List.mem_of_getElem? (i := 1871) (by decide +kernel)⟩
theorem lw_p123 : lw_okq (⟨"FloorsByLotModel", "laysSeen", "(I)V"⟩, 31) := ⟨⟨by decide +kernel, by decide +kernel⟩, List.mem_of_getElem? (i := 1305) (by decide +kernel), List.mem_of_getElem? (i := 1876) (by decide +kernel), List.mem_of_getElem? (i := 1877) (by decide +kernel)⟩
theorem lw_p124 : lw_okq (⟨"FloorsByLotModel", "isSeen", "(II)Z"⟩, 31) := ⟨⟨by decide +kernel, by decide +kernel⟩, List.mem_of_getElem? (i := 1305) (by decide +kernel), List.mem_of_getElem? (i := 1880) (by decide +kernel), List.mem_of_getElem? (i := 1881) (by decide +kernel)⟩
theorem lw_p125 : lw_okq (⟨"FloorsByLotModel", "whoIn", "(II)I"⟩, 31) := ⟨⟨by decide +kernel, by decide +kernel⟩, List.mem_of_getElem? (i := 1305) (by decide +kernel), List.mem_of_getElem? (i := 1884) (by decide +kernel), List.mem_of_getElem? (i := 1885) (by decide +kernel)⟩
theorem lw_p126 : lw_okq (⟨"FloorsByLotModel", "mostOften", "(I)I"⟩, 31) := ⟨⟨by decide +kernel, by decide +kernel⟩, List.mem_of_getElem? (i := 1305) (by decide +kernel), List.mem_of_getElem? (i := 1896) (by decide +kernel), List.mem_of_getElem? (i := 1897) (by decide +kernel)⟩
theorem lw_p127 : lw_okq (⟨"FloorsByLotModel", "faultsMany", "()I"⟩, 31) := ⟨⟨by decide +kernel, by decide +kernel⟩, List.mem_of_getElem? (i := 1305) (by decide +kernel), List.mem_of_getElem? (i := 1929) (by decide +kernel), List.mem_of_getElem? (i := 1930) (by decide +kernel)⟩
def lw_privs_8 : List (MethodName × Nat) := [(⟨"FloorsByLotModel", "bestMap", "(I)I"⟩, 31), (⟨"FloorsByLotModel", "valueIn", "(II)I"⟩, 31), (⟨"FloorsByLotModel", "worthIn", "(I)I"⟩, 31), (⟨"FloorsByLotModel", "leastIn", "(I)I"⟩, 31), (⟨"FloorsByLotModel", "harmIn", "(I)I"⟩, 31), (⟨"FloorsByLotModel", "harmOf", "(IIII)I"⟩, 31), (⟨"FloorsByLotModel", "isEnvied", "(II)Z"⟩, 31), (⟨"FloorsByLotModel", "moved", "(I)I"⟩, 31), (⟨"FloorsByLotModel", "goesDay", "(IIIII)V"⟩, 31), (⟨"FloorsByLotModel", "isEmpty", "(II)Z"⟩, 31), (⟨"FloorsByLotModel", "noSeen", "(I)I"⟩, 31), (⟨"FloorsByLotModel", "laysSeen", "(I)V"⟩, 31), (⟨"FloorsByLotModel", "isSeen", "(II)Z"⟩, 31), (⟨"FloorsByLotModel", "whoIn", "(II)I"⟩, 31), (⟨"FloorsByLotModel", "mostOften", "(I)I"⟩, 31), (⟨"FloorsByLotModel", "faultsMany", "()I"⟩, 31)]
theorem lw_r8 : ∀ q ∈ lw_privs_8, lw_okq q := List.forall_mem_cons.mpr ⟨lw_p112, List.forall_mem_cons.mpr ⟨lw_p113, List.forall_mem_cons.mpr ⟨lw_p114, List.forall_mem_cons.mpr ⟨lw_p115, List.forall_mem_cons.mpr ⟨lw_p116, List.forall_mem_cons.mpr ⟨lw_p117, List.forall_mem_cons.mpr ⟨lw_p118, List.forall_mem_cons.mpr ⟨lw_p119, List.forall_mem_cons.mpr ⟨lw_p120, List.forall_mem_cons.mpr ⟨lw_p121, List.forall_mem_cons.mpr ⟨lw_p122, List.forall_mem_cons.mpr ⟨lw_p123, List.forall_mem_cons.mpr ⟨lw_p124, List.forall_mem_cons.mpr ⟨lw_p125, List.forall_mem_cons.mpr ⟨lw_p126, List.forall_mem_cons.mpr ⟨lw_p127, fun _ h => absurd h List.not_mem_nil⟩⟩⟩⟩⟩⟩⟩⟩⟩⟩⟩⟩⟩⟩⟩⟩
def lw_privs : List (MethodName × Nat) := lw_privs_1 ++ (lw_privs_2 ++ (lw_privs_3 ++ (lw_privs_4 ++ (lw_privs_5 ++ (lw_privs_6 ++ (lw_privs_7 ++ (lw_privs_8)))))))
def lw_tbl : List Cond := k2_sels lw_privs ++ tables_1
theorem lw_privs_ok : ∀ q ∈ lw_privs, lw_okq q := by
  show ∀ q ∈ lw_privs_1 ++ (lw_privs_2 ++ (lw_privs_3 ++ (lw_privs_4 ++ (lw_privs_5 ++ (lw_privs_6 ++ (lw_privs_7 ++ (lw_privs_8))))))), lw_okq q
  exact List.forall_mem_append.mpr ⟨lw_r1, List.forall_mem_append.mpr ⟨lw_r2, List.forall_mem_append.mpr ⟨lw_r3, List.forall_mem_append.mpr ⟨lw_r4, List.forall_mem_append.mpr ⟨lw_r5, List.forall_mem_append.mpr ⟨lw_r6, List.forall_mem_append.mpr ⟨lw_r7, lw_r8⟩⟩⟩⟩⟩⟩⟩
def tb : List Cond := lw_tbl.filter goodWord
end
section
def RX0 : String := "FloorsByLot$Deeds"
def TX0 : u_T := fun k => match k with
  | 0 => ("FloorsByLot$Deeds", "some", "Z", false)
  | 1 => ("FloorsByLot$Deeds", "why", "I", false)
  | 2 => ("FloorsByLot$Deeds", "drawnMap", "I", false)
  | 3 => ("FloorsByLot$Deeds", "house", "LFloorsByLot$House;", true)
  | 4 => ("FloorsByLot$Deeds", "table", "LFloorsByLot$Table;", true)
  | 5 => ("FloorsByLot$Deeds", "chart", "LFloorsByLot$Maps;", true)
  | 6 => ("FloorsByLot$Deeds", "ringed", "LFloorsByLot$Rings;", true)
  | 7 => ("FloorsByLot$Deeds", "map", "[I", true)
  | _ => ("FloorsByLot$Deeds", "lot", "I", false)
def tyX0 : Nat → FieldType := fun k => match k with
  | 0 => .boolean
  | 1 => .int
  | 2 => .int
  | 3 => .object "FloorsByLot$House"
  | 4 => .object "FloorsByLot$Table"
  | 5 => .object "FloorsByLot$Maps"
  | 6 => .object "FloorsByLot$Rings"
  | 7 => .array .int
  | _ => .int
theorem nmX0 : ∀ a, a < 9 → ∀ b, b < 9 → a ≠ b → (TX0 a).2.1 ≠ (TX0 b).2.1 := by decide +kernel
theorem tyX0_ok : ∀ k, k < 9 → parseFieldDescriptor (TX0 k).2.2.1 = some (tyX0 k) := by decide +kernel
abbrev cX0_init : ByteArray := prog_2_method_1_code
def yX0_init : MethodName := ⟨RX0, "<init>", "(LFloorsByLot$House;LFloorsByLot$Table;LFloorsByLot$Maps;LFloorsByLot$Rings;)V"⟩
abbrev cX0_settle : ByteArray := prog_2_method_2_code
def yX0_settle : MethodName := ⟨RX0, "settle", "(II)I"⟩
abbrev cX0_depart : ByteArray := prog_2_method_3_code
def yX0_depart : MethodName := ⟨RX0, "depart", "(I)I"⟩
abbrev cX0_spoil : ByteArray := prog_2_method_4_code
def yX0_spoil : MethodName := ⟨RX0, "spoil", "(I)I"⟩
abbrev cX0_mend : ByteArray := prog_2_method_5_code
def yX0_mend : MethodName := ⟨RX0, "mend", "(I)I"⟩
abbrev cX0_draw : ByteArray := prog_2_method_6_code
def yX0_draw : MethodName := ⟨RX0, "draw", "(J)I"⟩
abbrev cX0_swapByRings : ByteArray := prog_2_method_7_code
def yX0_swapByRings : MethodName := ⟨RX0, "swapByRings", "()I"⟩
abbrev cX0_doAll : ByteArray := prog_2_method_8_code
def yX0_doAll : MethodName := ⟨RX0, "doAll", "(LFloorsByLot$Tray;)I"⟩
abbrev cX0_doOne : ByteArray := prog_2_method_9_code
def yX0_doOne : MethodName := ⟨RX0, "doOne", "(J)I"⟩
abbrev cX0_noted : ByteArray := prog_2_method_10_code
def yX0_noted : MethodName := ⟨RX0, "noted", "(I)I"⟩
abbrev cX0_doYear : ByteArray := prog_2_method_11_code
def yX0_doYear : MethodName := ⟨RX0, "doYear", "(II)I"⟩
abbrev cX0_doByLot : ByteArray := prog_2_method_12_code
def yX0_doByLot : MethodName := ⟨RX0, "doByLot", "()I"⟩
abbrev cX0_nextLot : ByteArray := prog_2_method_13_code
def yX0_nextLot : MethodName := ⟨RX0, "nextLot", "()I"⟩
def RX1 : String := "FloorsByLot$History"
def TX1 : u_T := fun k => match k with
  | 0 => ("FloorsByLot$History", "length", "I", false)
  | 1 => ("FloorsByLot$History", "first", "I", false)
  | _ => ("FloorsByLot$History", "rows", "[LFloorsByLot$Living;", true)
def tyX1 : Nat → FieldType := fun k => match k with
  | 0 => .int
  | 1 => .int
  | _ => .array (.object "FloorsByLot$Living")
theorem nmX1 : ∀ a, a < 3 → ∀ b, b < 3 → a ≠ b → (TX1 a).2.1 ≠ (TX1 b).2.1 := by decide +kernel
theorem tyX1_ok : ∀ k, k < 3 → parseFieldDescriptor (TX1 k).2.2.1 = some (tyX1 k) := by decide +kernel
abbrev cX1_init : ByteArray := prog_3_method_1_code
def yX1_init : MethodName := ⟨RX1, "<init>", "()V"⟩
abbrev cX1_forget : ByteArray := prog_3_method_2_code
def yX1_forget : MethodName := ⟨RX1, "forget", "()V"⟩
abbrev cX1_keep : ByteArray := prog_3_method_3_code
def yX1_keep : MethodName := ⟨RX1, "keep", "(LFloorsByLot$Living;)V"⟩
abbrev cX1_takeBack : ByteArray := prog_3_method_4_code
def yX1_takeBack : MethodName := ⟨RX1, "takeBack", "(I)LFloorsByLot$Living;"⟩
def RX2 : String := "FloorsByLot$House"
def TX2 : u_T := fun k => match k with
  | 0 => ("FloorsByLot$House", "lines", "I", false)
  | 1 => ("FloorsByLot$House", "flats", "I", false)
  | 2 => ("FloorsByLot$House", "households", "I", false)
  | 3 => ("FloorsByLot$House", "features", "[I", true)
  | 4 => ("FloorsByLot$House", "traits", "[I", true)
  | 5 => ("FloorsByLot$House", "code", "[I", true)
  | 6 => ("FloorsByLot$House", "codeLength", "I", false)
  | 7 => ("FloorsByLot$House", "mayFrom", "I", false)
  | 8 => ("FloorsByLot$House", "mayTo", "I", false)
  | 9 => ("FloorsByLot$House", "worthFrom", "I", false)
  | 10 => ("FloorsByLot$House", "worthTo", "I", false)
  | 11 => ("FloorsByLot$House", "living", "LFloorsByLot$Living;", true)
  | _ => ("FloorsByLot$House", "change", "I", false)
def tyX2 : Nat → FieldType := fun k => match k with
  | 0 => .int
  | 1 => .int
  | 2 => .int
  | 3 => .array .int
  | 4 => .array .int
  | 5 => .array .int
  | 6 => .int
  | 7 => .int
  | 8 => .int
  | 9 => .int
  | 10 => .int
  | 11 => .object "FloorsByLot$Living"
  | _ => .int
theorem nmX2 : ∀ a, a < 13 → ∀ b, b < 13 → a ≠ b → (TX2 a).2.1 ≠ (TX2 b).2.1 := by decide +kernel
theorem tyX2_ok : ∀ k, k < 13 → parseFieldDescriptor (TX2 k).2.2.1 = some (tyX2 k) := by decide +kernel
abbrev cX2_init : ByteArray := prog_4_method_1_code
def yX2_init : MethodName := ⟨RX2, "<init>", "()V"⟩
abbrev cX2_clear : ByteArray := prog_4_method_2_code
def yX2_clear : MethodName := ⟨RX2, "clear", "()V"⟩
abbrev cX2_copyFrom : ByteArray := prog_4_method_3_code
def yX2_copyFrom : MethodName := ⟨RX2, "copyFrom", "(LFloorsByLot$House;)V"⟩
abbrev cX2_liveAs : ByteArray := prog_4_method_4_code
def yX2_liveAs : MethodName := ⟨RX2, "liveAs", "(LFloorsByLot$Living;)V"⟩
abbrev cX2_setFaults : ByteArray := prog_4_method_5_code
def yX2_setFaults : MethodName := ⟨RX2, "setFaults", "(II)V"⟩
abbrev cX2_setHome : ByteArray := prog_4_method_6_code
def yX2_setHome : MethodName := ⟨RX2, "setHome", "(II)V"⟩
abbrev cX2_feature : ByteArray := prog_4_method_7_code
def yX2_feature : MethodName := ⟨RX2, "feature", "(II)I"⟩
abbrev cX2_trait : ByteArray := prog_4_method_8_code
def yX2_trait : MethodName := ⟨RX2, "trait", "(II)I"⟩
abbrev cX2_dwellerOf : ByteArray := prog_4_method_9_code
def yX2_dwellerOf : MethodName := ⟨RX2, "dwellerOf", "(I)I"⟩
abbrev cX2_flatAt : ByteArray := prog_4_method_10_code
def yX2_flatAt : MethodName := ⟨RX2, "flatAt", "(II)I"⟩
abbrev cX2_flatBelow : ByteArray := prog_4_method_11_code
def yX2_flatBelow : MethodName := ⟨RX2, "flatBelow", "(I)I"⟩
abbrev cX2_awayMany : ByteArray := prog_4_method_12_code
def yX2_awayMany : MethodName := ⟨RX2, "awayMany", "()I"⟩
abbrev cX2_faultsOfAll : ByteArray := prog_4_method_13_code
def yX2_faultsOfAll : MethodName := ⟨RX2, "faultsOfAll", "()I"⟩
def RX3 : String := "FloorsByLot$Lift"
def TX3 : u_T := fun k => match k with
  | 0 => ("FloorsByLot$Lift", "house", "LFloorsByLot$House;", true)
  | 1 => ("FloorsByLot$Lift", "movers", "I", false)
  | 2 => ("FloorsByLot$Lift", "who", "[I", true)
  | 3 => ("FloorsByLot$Lift", "start", "[I", true)
  | 4 => ("FloorsByLot$Lift", "end", "[I", true)
  | 5 => ("FloorsByLot$Lift", "inTheWay", "[I", true)
  | 6 => ("FloorsByLot$Lift", "firstPhase", "[I", true)
  | 7 => ("FloorsByLot$Lift", "stride", "[I", true)
  | 8 => ("FloorsByLot$Lift", "phase", "[I", true)
  | _ => ("FloorsByLot$Lift", "cost", "[I", false)
def tyX3 : Nat → FieldType := fun k => match k with
  | 0 => .object "FloorsByLot$House"
  | 1 => .int
  | 2 => .array .int
  | 3 => .array .int
  | 4 => .array .int
  | 5 => .array .int
  | 6 => .array .int
  | 7 => .array .int
  | 8 => .array .int
  | _ => .array .int
theorem nmX3 : ∀ a, a < 10 → ∀ b, b < 10 → a ≠ b → (TX3 a).2.1 ≠ (TX3 b).2.1 := by decide +kernel
theorem tyX3_ok : ∀ k, k < 10 → parseFieldDescriptor (TX3 k).2.2.1 = some (tyX3 k) := by decide +kernel
abbrev cX3_init : ByteArray := prog_5_method_1_code
def yX3_init : MethodName := ⟨RX3, "<init>", "(LFloorsByLot$House;)V"⟩
abbrev cX3_cheapest : ByteArray := prog_5_method_2_code
def yX3_cheapest : MethodName := ⟨RX3, "cheapest", "([II)I"⟩
abbrev cX3_gather : ByteArray := prog_5_method_3_code
def yX3_gather : MethodName := ⟨RX3, "gather", "([I)I"⟩
abbrev cX3_moverOf : ByteArray := prog_5_method_4_code
def yX3_moverOf : MethodName := ⟨RX3, "moverOf", "(I)I"⟩
abbrev cX3_floorsToGo : ByteArray := prog_5_method_5_code
def yX3_floorsToGo : MethodName := ⟨RX3, "floorsToGo", "(I)I"⟩
abbrev cX3_floorOf : ByteArray := prog_5_method_6_code
def yX3_floorOf : MethodName := ⟨RX3, "floorOf", "(I)I"⟩
abbrev cX3_expand : ByteArray := prog_5_method_7_code
def yX3_expand : MethodName := ⟨RX3, "expand", "(II)V"⟩
abbrev cX3_ride : ByteArray := prog_5_method_8_code
def yX3_ride : MethodName := ⟨RX3, "ride", "(III)V"⟩
abbrev cX3_arrive : ByteArray := prog_5_method_9_code
def yX3_arrive : MethodName := ⟨RX3, "arrive", "(III)V"⟩
def RX4 : String := "FloorsByLot$Living"
def TX4 : u_T := fun k => match k with
  | 0 => ("FloorsByLot$Living", "home", "[I", true)
  | 1 => ("FloorsByLot$Living", "drawn", "[I", true)
  | 2 => ("FloorsByLot$Living", "faults", "[I", true)
  | _ => ("FloorsByLot$Living", "quarter", "I", false)
def tyX4 : Nat → FieldType := fun k => match k with
  | 0 => .array .int
  | 1 => .array .int
  | 2 => .array .int
  | _ => .int
theorem nmX4 : ∀ a, a < 4 → ∀ b, b < 4 → a ≠ b → (TX4 a).2.1 ≠ (TX4 b).2.1 := by decide +kernel
theorem tyX4_ok : ∀ k, k < 4 → parseFieldDescriptor (TX4 k).2.2.1 = some (tyX4 k) := by decide +kernel
abbrev cX4_init : ByteArray := prog_6_method_1_code
def yX4_init : MethodName := ⟨RX4, "<init>", "()V"⟩
abbrev cX4_clear : ByteArray := prog_6_method_2_code
def yX4_clear : MethodName := ⟨RX4, "clear", "()V"⟩
abbrev cX4_copyFrom : ByteArray := prog_6_method_3_code
def yX4_copyFrom : MethodName := ⟨RX4, "copyFrom", "(LFloorsByLot$Living;)V"⟩
def RX5 : String := "FloorsByLot$Maps"
def TX5 : u_T := fun k => match k with
  | 0 => ("FloorsByLot$Maps", "having", "[I", true)
  | 1 => ("FloorsByLot$Maps", "onward", "[I", true)
  | 2 => ("FloorsByLot$Maps", "hither", "[I", true)
  | 3 => ("FloorsByLot$Maps", "value", "[I", true)
  | 4 => ("FloorsByLot$Maps", "lawful", "[I", true)
  | 5 => ("FloorsByLot$Maps", "households", "I", false)
  | _ => ("FloorsByLot$Maps", "flats", "I", false)
def tyX5 : Nat → FieldType := fun k => match k with
  | 0 => .array .int
  | 1 => .array .int
  | 2 => .array .int
  | 3 => .array .int
  | 4 => .array .int
  | 5 => .int
  | _ => .int
theorem nmX5 : ∀ a, a < 7 → ∀ b, b < 7 → a ≠ b → (TX5 a).2.1 ≠ (TX5 b).2.1 := by decide +kernel
theorem tyX5_ok : ∀ k, k < 7 → parseFieldDescriptor (TX5 k).2.2.1 = some (tyX5 k) := by decide +kernel
abbrev cX5_init : ByteArray := prog_7_method_1_code
def yX5_init : MethodName := ⟨RX5, "<init>", "()V"⟩
abbrev cX5_tally : ByteArray := prog_7_method_2_code
def yX5_tally : MethodName := ⟨RX5, "tally", "([III)I"⟩
abbrev cX5_waysFrom : ByteArray := prog_7_method_3_code
def yX5_waysFrom : MethodName := ⟨RX5, "waysFrom", "(I)I"⟩
abbrev cX5_goesOn : ByteArray := prog_7_method_4_code
def yX5_goesOn : MethodName := ⟨RX5, "goesOn", "(III)Z"⟩
abbrev cX5_tallyEach : ByteArray := prog_7_method_5_code
def yX5_tallyEach : MethodName := ⟨RX5, "tallyEach", "()V"⟩
abbrev cX5_passOn : ByteArray := prog_7_method_6_code
def yX5_passOn : MethodName := ⟨RX5, "passOn", "(II)V"⟩
abbrev cX5_find : ByteArray := prog_7_method_7_code
def yX5_find : MethodName := ⟨RX5, "find", "(I[I)V"⟩
abbrev cX5_numberOf : ByteArray := prog_7_method_8_code
def yX5_numberOf : MethodName := ⟨RX5, "numberOf", "([I)I"⟩
abbrev cX5_mostInSum : ByteArray := prog_7_method_9_code
def yX5_mostInSum : MethodName := ⟨RX5, "mostInSum", "([I)I"⟩
abbrev cX5_pickMostInSum : ByteArray := prog_7_method_10_code
def yX5_pickMostInSum : MethodName := ⟨RX5, "pickMostInSum", "([I[I)V"⟩
abbrev cX5_isOfMost : ByteArray := prog_7_method_11_code
def yX5_isOfMost : MethodName := ⟨RX5, "isOfMost", "(III[I)Z"⟩
abbrev cX5_greatestLeast : ByteArray := prog_7_method_12_code
def yX5_greatestLeast : MethodName := ⟨RX5, "greatestLeast", "([I)I"⟩
def RX6 : String := "FloorsByLot$Quiet"
def TX6 : u_T := fun k => match k with
  | 0 => ("FloorsByLot$Quiet", "least", "I", false)
  | 1 => ("FloorsByLot$Quiet", "chosen", "[I", true)
  | 2 => ("FloorsByLot$Quiet", "house", "LFloorsByLot$House;", true)
  | 3 => ("FloorsByLot$Quiet", "below", "[I", true)
  | 4 => ("FloorsByLot$Quiet", "above", "[I", true)
  | 5 => ("FloorsByLot$Quiet", "dweller", "[I", true)
  | 6 => ("FloorsByLot$Quiet", "trial", "[I", true)
  | _ => ("FloorsByLot$Quiet", "soughtFor", "I", false)
def tyX6 : Nat → FieldType := fun k => match k with
  | 0 => .int
  | 1 => .array .int
  | 2 => .object "FloorsByLot$House"
  | 3 => .array .int
  | 4 => .array .int
  | 5 => .array .int
  | 6 => .array .int
  | _ => .int
theorem nmX6 : ∀ a, a < 8 → ∀ b, b < 8 → a ≠ b → (TX6 a).2.1 ≠ (TX6 b).2.1 := by decide +kernel
theorem tyX6_ok : ∀ k, k < 8 → parseFieldDescriptor (TX6 k).2.2.1 = some (tyX6 k) := by decide +kernel
abbrev cX6_init : ByteArray := prog_8_method_1_code
def yX6_init : MethodName := ⟨RX6, "<init>", "(LFloorsByLot$House;)V"⟩
abbrev cX6_harmNow : ByteArray := prog_8_method_2_code
def yX6_harmNow : MethodName := ⟨RX6, "harmNow", "()I"⟩
abbrev cX6_harmOf : ByteArray := prog_8_method_3_code
def yX6_harmOf : MethodName := ⟨RX6, "harmOf", "(II)I"⟩
abbrev cX6_search : ByteArray := prog_8_method_4_code
def yX6_search : MethodName := ⟨RX6, "search", "(LFloorsByLot$Maps;)V"⟩
abbrev cX6_seek : ByteArray := prog_8_method_5_code
def yX6_seek : MethodName := ⟨RX6, "seek", "(LFloorsByLot$Maps;III)V"⟩
abbrev cX6_harmAround : ByteArray := prog_8_method_6_code
def yX6_harmAround : MethodName := ⟨RX6, "harmAround", "(II)I"⟩
def RX7 : String := "FloorsByLot$Reader"
def TX7 : u_T := fun k => match k with
  | 0 => ("FloorsByLot$Reader", "told", "LFloorsByLot$House;", true)
  | 1 => ("FloorsByLot$Reader", "fault", "I", false)
  | 2 => ("FloorsByLot$Reader", "faultPlace", "I", false)
  | 3 => ("FloorsByLot$Reader", "text", "[B", false)
  | 4 => ("FloorsByLot$Reader", "length", "I", false)
  | 5 => ("FloorsByLot$Reader", "at", "I", false)
  | 6 => ("FloorsByLot$Reader", "token", "I", false)
  | 7 => ("FloorsByLot$Reader", "value", "I", false)
  | _ => ("FloorsByLot$Reader", "place", "I", false)
def tyX7 : Nat → FieldType := fun k => match k with
  | 0 => .object "FloorsByLot$House"
  | 1 => .int
  | 2 => .int
  | 3 => .array .byte
  | 4 => .int
  | 5 => .int
  | 6 => .int
  | 7 => .int
  | _ => .int
theorem nmX7 : ∀ a, a < 9 → ∀ b, b < 9 → a ≠ b → (TX7 a).2.1 ≠ (TX7 b).2.1 := by decide +kernel
theorem tyX7_ok : ∀ k, k < 9 → parseFieldDescriptor (TX7 k).2.2.1 = some (tyX7 k) := by decide +kernel
abbrev cX7_init : ByteArray := prog_9_method_1_code
def yX7_init : MethodName := ⟨RX7, "<init>", "()V"⟩
abbrev cX7_readAll : ByteArray := prog_9_method_2_code
def yX7_readAll : MethodName := ⟨RX7, "readAll", "([BI)Z"⟩
abbrev cX7_readFlat : ByteArray := prog_9_method_3_code
def yX7_readFlat : MethodName := ⟨RX7, "readFlat", "()Z"⟩
abbrev cX7_readFlatFlags : ByteArray := prog_9_method_4_code
def yX7_readFlatFlags : MethodName := ⟨RX7, "readFlatFlags", "(I)Z"⟩
abbrev cX7_readHousehold : ByteArray := prog_9_method_5_code
def yX7_readHousehold : MethodName := ⟨RX7, "readHousehold", "()Z"⟩
abbrev cX7_readLives : ByteArray := prog_9_method_6_code
def yX7_readLives : MethodName := ⟨RX7, "readLives", "()Z"⟩
abbrev cX7_readMay : ByteArray := prog_9_method_7_code
def yX7_readMay : MethodName := ⟨RX7, "readMay", "()Z"⟩
abbrev cX7_readWorth : ByteArray := prog_9_method_8_code
def yX7_readWorth : MethodName := ⟨RX7, "readWorth", "()Z"⟩
abbrev cX7_readQuarter : ByteArray := prog_9_method_9_code
def yX7_readQuarter : MethodName := ⟨RX7, "readQuarter", "()Z"⟩
abbrev cX7_readTruth : ByteArray := prog_9_method_10_code
def yX7_readTruth : MethodName := ⟨RX7, "readTruth", "(I)Z"⟩
abbrev cX7_readBoth : ByteArray := prog_9_method_11_code
def yX7_readBoth : MethodName := ⟨RX7, "readBoth", "(I)Z"⟩
abbrev cX7_readUnit : ByteArray := prog_9_method_12_code
def yX7_readUnit : MethodName := ⟨RX7, "readUnit", "(I)Z"⟩
abbrev cX7_readSum : ByteArray := prog_9_method_13_code
def yX7_readSum : MethodName := ⟨RX7, "readSum", "(I)Z"⟩
abbrev cX7_readTerm : ByteArray := prog_9_method_14_code
def yX7_readTerm : MethodName := ⟨RX7, "readTerm", "(I)Z"⟩
abbrev cX7_readAtom : ByteArray := prog_9_method_15_code
def yX7_readAtom : MethodName := ⟨RX7, "readAtom", "(I)Z"⟩
abbrev cX7_emit : ByteArray := prog_9_method_16_code
def yX7_emit : MethodName := ⟨RX7, "emit", "(I)Z"⟩
abbrev cX7_take : ByteArray := prog_9_method_17_code
def yX7_take : MethodName := ⟨RX7, "take", "(I)Z"⟩
abbrev cX7_takeValue : ByteArray := prog_9_method_18_code
def yX7_takeValue : MethodName := ⟨RX7, "takeValue", "()I"⟩
abbrev cX7_isNumber : ByteArray := prog_9_method_19_code
def yX7_isNumber : MethodName := ⟨RX7, "isNumber", "(II)Z"⟩
abbrev cX7_cannotStand : ByteArray := prog_9_method_20_code
def yX7_cannotStand : MethodName := ⟨RX7, "cannotStand", "()Z"⟩
abbrev cX7_refuse : ByteArray := prog_9_method_21_code
def yX7_refuse : MethodName := ⟨RX7, "refuse", "(I)Z"⟩
abbrev cX7_next : ByteArray := prog_9_method_22_code
def yX7_next : MethodName := ⟨RX7, "next", "()V"⟩
abbrev cX7_wordToken : ByteArray := prog_9_method_23_code
def yX7_wordToken : MethodName := ⟨RX7, "wordToken", "(II)I"⟩
abbrev cX7_isLetter : ByteArray := prog_9_method_24_code
def yX7_isLetter : MethodName := ⟨RX7, "isLetter", "(I)Z"⟩
abbrev cX7_isDigit : ByteArray := prog_9_method_25_code
def yX7_isDigit : MethodName := ⟨RX7, "isDigit", "(I)Z"⟩
def RX8 : String := "FloorsByLot$Rings"
def TX8 : u_T := fun k => match k with
  | 0 => ("FloorsByLot$Rings", "gets", "[I", true)
  | 1 => ("FloorsByLot$Rings", "many", "I", false)
  | 2 => ("FloorsByLot$Rings", "moved", "I", false)
  | 3 => ("FloorsByLot$Rings", "points", "[I", true)
  | 4 => ("FloorsByLot$Rings", "house", "LFloorsByLot$House;", true)
  | _ => ("FloorsByLot$Rings", "table", "LFloorsByLot$Table;", true)
def tyX8 : Nat → FieldType := fun k => match k with
  | 0 => .array .int
  | 1 => .int
  | 2 => .int
  | 3 => .array .int
  | 4 => .object "FloorsByLot$House"
  | _ => .object "FloorsByLot$Table"
theorem nmX8 : ∀ a, a < 6 → ∀ b, b < 6 → a ≠ b → (TX8 a).2.1 ≠ (TX8 b).2.1 := by decide +kernel
theorem tyX8_ok : ∀ k, k < 6 → parseFieldDescriptor (TX8 k).2.2.1 = some (tyX8 k) := by decide +kernel
abbrev cX8_init : ByteArray := prog_10_method_1_code
def yX8_init : MethodName := ⟨RX8, "<init>", "(LFloorsByLot$House;LFloorsByLot$Table;)V"⟩
abbrev cX8_turn : ByteArray := prog_10_method_2_code
def yX8_turn : MethodName := ⟨RX8, "turn", "()V"⟩
abbrev cX8_ownerWanted : ByteArray := prog_10_method_3_code
def yX8_ownerWanted : MethodName := ⟨RX8, "ownerWanted", "(II)I"⟩
abbrev cX8_closeOne : ByteArray := prog_10_method_4_code
def yX8_closeOne : MethodName := ⟨RX8, "closeOne", "(I)I"⟩
def RX9 : String := "FloorsByLot$Table"
def TX9 : u_T := fun k => match k with
  | 0 => ("FloorsByLot$Table", "allowed", "[I", true)
  | 1 => ("FloorsByLot$Table", "worths", "[I", true)
  | 2 => ("FloorsByLot$Table", "house", "LFloorsByLot$House;", true)
  | 3 => ("FloorsByLot$Table", "known", "[I", true)
  | 4 => ("FloorsByLot$Table", "stack", "[I", true)
  | _ => ("FloorsByLot$Table", "filledFor", "I", false)
def tyX9 : Nat → FieldType := fun k => match k with
  | 0 => .array .int
  | 1 => .array .int
  | 2 => .object "FloorsByLot$House"
  | 3 => .array .int
  | 4 => .array .int
  | _ => .int
theorem nmX9 : ∀ a, a < 6 → ∀ b, b < 6 → a ≠ b → (TX9 a).2.1 ≠ (TX9 b).2.1 := by decide +kernel
theorem tyX9_ok : ∀ k, k < 6 → parseFieldDescriptor (TX9 k).2.2.1 = some (tyX9 k) := by decide +kernel
abbrev cX9_init : ByteArray := prog_11_method_1_code
def yX9_init : MethodName := ⟨RX9, "<init>", "(LFloorsByLot$House;)V"⟩
abbrev cX9_refresh : ByteArray := prog_11_method_2_code
def yX9_refresh : MethodName := ⟨RX9, "refresh", "()V"⟩
abbrev cX9_permits : ByteArray := prog_11_method_3_code
def yX9_permits : MethodName := ⟨RX9, "permits", "(II)Z"⟩
abbrev cX9_isEnvious : ByteArray := prog_11_method_4_code
def yX9_isEnvious : MethodName := ⟨RX9, "isEnvious", "(II)Z"⟩
abbrev cX9_learn : ByteArray := prog_11_method_5_code
def yX9_learn : MethodName := ⟨RX9, "learn", "(II)V"⟩
abbrev cX9_run : ByteArray := prog_11_method_6_code
def yX9_run : MethodName := ⟨RX9, "run", "(II)I"⟩
abbrev cX9_joined : ByteArray := prog_11_method_7_code
def yX9_joined : MethodName := ⟨RX9, "joined", "(IJJ)I"⟩
def RX10 : String := "FloorsByLot$Tray"
def TX10 : u_T := fun k => match k with
  | 0 => ("FloorsByLot$Tray", "length", "I", false)
  | 1 => ("FloorsByLot$Tray", "places", "[J", true)
  | _ => ("FloorsByLot$Tray", "sort", "I", false)
def tyX10 : Nat → FieldType := fun k => match k with
  | 0 => .int
  | 1 => .array .long
  | _ => .int
theorem nmX10 : ∀ a, a < 3 → ∀ b, b < 3 → a ≠ b → (TX10 a).2.1 ≠ (TX10 b).2.1 := by decide +kernel
theorem tyX10_ok : ∀ k, k < 3 → parseFieldDescriptor (TX10 k).2.2.1 = some (tyX10 k) := by decide +kernel
abbrev cX10_init : ByteArray := prog_12_method_1_code
def yX10_init : MethodName := ⟨RX10, "<init>", "()V"⟩
abbrev cX10_isMissing : ByteArray := prog_12_method_2_code
def yX10_isMissing : MethodName := ⟨RX10, "isMissing", "()Z"⟩
abbrev cX10_lay : ByteArray := prog_12_method_3_code
def yX10_lay : MethodName := ⟨RX10, "lay", "(II)V"⟩
abbrev cX10_put : ByteArray := prog_12_method_4_code
def yX10_put : MethodName := ⟨RX10, "put", "(IJ)V"⟩
def RX11 : String := "FloorsByLot"
def TX11 : u_T := fun k => match k with
  | 0 => ("FloorsByLot", "tape", "[B", true)
  | 1 => ("FloorsByLot", "tapeLength", "I", false)
  | 2 => ("FloorsByLot", "house", "LFloorsByLot$House;", true)
  | 3 => ("FloorsByLot", "reader", "LFloorsByLot$Reader;", true)
  | 4 => ("FloorsByLot", "table", "LFloorsByLot$Table;", true)
  | 5 => ("FloorsByLot", "chart", "LFloorsByLot$Maps;", true)
  | 6 => ("FloorsByLot", "ringed", "LFloorsByLot$Rings;", true)
  | 7 => ("FloorsByLot", "quiet", "LFloorsByLot$Quiet;", true)
  | 8 => ("FloorsByLot", "lift", "LFloorsByLot$Lift;", true)
  | 9 => ("FloorsByLot", "deeds", "LFloorsByLot$Deeds;", true)
  | 10 => ("FloorsByLot", "history", "LFloorsByLot$History;", true)
  | 11 => ("FloorsByLot", "before", "LFloorsByLot$Living;", true)
  | 12 => ("FloorsByLot", "trays", "[LFloorsByLot$Tray;", true)
  | 13 => ("FloorsByLot", "kept", "[LFloorsByLot$House;", true)
  | 14 => ("FloorsByLot", "rows", "[I", true)
  | 15 => ("FloorsByLot", "picked", "[I", true)
  | 16 => ("FloorsByLot", "nearestMap", "I", false)
  | _ => ("FloorsByLot", "nearestChange", "I", false)
def tyX11 : Nat → FieldType := fun k => match k with
  | 0 => .array .byte
  | 1 => .int
  | 2 => .object "FloorsByLot$House"
  | 3 => .object "FloorsByLot$Reader"
  | 4 => .object "FloorsByLot$Table"
  | 5 => .object "FloorsByLot$Maps"
  | 6 => .object "FloorsByLot$Rings"
  | 7 => .object "FloorsByLot$Quiet"
  | 8 => .object "FloorsByLot$Lift"
  | 9 => .object "FloorsByLot$Deeds"
  | 10 => .object "FloorsByLot$History"
  | 11 => .object "FloorsByLot$Living"
  | 12 => .array (.object "FloorsByLot$Tray")
  | 13 => .array (.object "FloorsByLot$House")
  | 14 => .array .int
  | 15 => .array .int
  | 16 => .int
  | _ => .int
theorem nmX11 : ∀ a, a < 18 → ∀ b, b < 18 → a ≠ b → (TX11 a).2.1 ≠ (TX11 b).2.1 := by decide +kernel
theorem tyX11_ok : ∀ k, k < 18 → parseFieldDescriptor (TX11 k).2.2.1 = some (tyX11 k) := by decide +kernel
abbrev cX11_init : ByteArray := prog_1_method_1_code
def yX11_init : MethodName := ⟨RX11, "<init>", "()V"⟩
abbrev cX11_feed : ByteArray := prog_1_method_2_code
def yX11_feed : MethodName := ⟨RX11, "feed", "(IIIII)I"⟩
abbrev cX11_feedInt : ByteArray := prog_1_method_3_code
def yX11_feedInt : MethodName := ⟨RX11, "feedInt", "(I)V"⟩
abbrev cX11_tower : ByteArray := prog_1_method_4_code
def yX11_tower : MethodName := ⟨RX11, "tower", "(I)I"⟩
abbrev cX11_fault : ByteArray := prog_1_method_5_code
def yX11_fault : MethodName := ⟨RX11, "fault", "(I)I"⟩
abbrev cX11_flat : ByteArray := prog_1_method_6_code
def yX11_flat : MethodName := ⟨RX11, "flat", "(II)I"⟩
abbrev cX11_household : ByteArray := prog_1_method_7_code
def yX11_household : MethodName := ⟨RX11, "household", "(II)I"⟩
abbrev cX11_times : ByteArray := prog_1_method_8_code
def yX11_times : MethodName := ⟨RX11, "times", "(II)I"⟩
abbrev cX11_may : ByteArray := prog_1_method_9_code
def yX11_may : MethodName := ⟨RX11, "may", "(II)I"⟩
abbrev cX11_worth : ByteArray := prog_1_method_10_code
def yX11_worth : MethodName := ⟨RX11, "worth", "(II)I"⟩
abbrev cX11_isFlat : ByteArray := prog_1_method_11_code
def yX11_isFlat : MethodName := ⟨RX11, "isFlat", "(I)Z"⟩
abbrev cX11_isHousehold : ByteArray := prog_1_method_12_code
def yX11_isHousehold : MethodName := ⟨RX11, "isHousehold", "(I)Z"⟩
abbrev cX11_isPair : ByteArray := prog_1_method_13_code
def yX11_isPair : MethodName := ⟨RX11, "isPair", "(II)Z"⟩
abbrev cX11_draws : ByteArray := prog_1_method_14_code
def yX11_draws : MethodName := ⟨RX11, "draws", "(I)I"⟩
abbrev cX11_rings : ByteArray := prog_1_method_15_code
def yX11_rings : MethodName := ⟨RX11, "rings", "()I"⟩
abbrev cX11_moves : ByteArray := prog_1_method_16_code
def yX11_moves : MethodName := ⟨RX11, "moves", "(II)I"⟩
abbrev cX11_leaves : ByteArray := prog_1_method_17_code
def yX11_leaves : MethodName := ⟨RX11, "leaves", "(I)I"⟩
abbrev cX11_spoils : ByteArray := prog_1_method_18_code
def yX11_spoils : MethodName := ⟨RX11, "spoils", "(I)I"⟩
abbrev cX11_mends : ByteArray := prog_1_method_19_code
def yX11_mends : MethodName := ⟨RX11, "mends", "(I)I"⟩
abbrev cX11_undo : ByteArray := prog_1_method_20_code
def yX11_undo : MethodName := ⟨RX11, "undo", "(I)I"⟩
abbrev cX11_judge : ByteArray := prog_1_method_21_code
def yX11_judge : MethodName := ⟨RX11, "judge", "(II)I"⟩
abbrev cX11_judged : ByteArray := prog_1_method_22_code
def yX11_judged : MethodName := ⟨RX11, "judged", "(II)I"⟩
abbrev cX11_perform : ByteArray := prog_1_method_23_code
def yX11_perform : MethodName := ⟨RX11, "perform", "(I)I"⟩
abbrev cX11_year : ByteArray := prog_1_method_24_code
def yX11_year : MethodName := ⟨RX11, "year", "(II)I"⟩
abbrev cX11_keepIfSome : ByteArray := prog_1_method_25_code
def yX11_keepIfSome : MethodName := ⟨RX11, "keepIfSome", "()V"⟩
abbrev cX11_maps : ByteArray := prog_1_method_26_code
def yX11_maps : MethodName := ⟨RX11, "maps", "()I"⟩
abbrev cX11_inMap : ByteArray := prog_1_method_27_code
def yX11_inMap : MethodName := ⟨RX11, "inMap", "(II)I"⟩
abbrev cX11_with : ByteArray := prog_1_method_28_code
def yX11_with : MethodName := ⟨RX11, "with", "(II)I"⟩
abbrev cX11_near : ByteArray := prog_1_method_29_code
def yX11_near : MethodName := ⟨RX11, "near", "(II)I"⟩
abbrev cX11_mapsWithBoth : ByteArray := prog_1_method_30_code
def yX11_mapsWithBoth : MethodName := ⟨RX11, "mapsWithBoth", "(IIII)I"⟩
abbrev cX11_allElse : ByteArray := prog_1_method_31_code
def yX11_allElse : MethodName := ⟨RX11, "allElse", "()I"⟩
abbrev cX11_likeliest : ByteArray := prog_1_method_32_code
def yX11_likeliest : MethodName := ⟨RX11, "likeliest", "(I)I"⟩
abbrev cX11_sure : ByteArray := prog_1_method_33_code
def yX11_sure : MethodName := ⟨RX11, "sure", "(II)I"⟩
abbrev cX11_tooMany : ByteArray := prog_1_method_34_code
def yX11_tooMany : MethodName := ⟨RX11, "tooMany", "()I"⟩
abbrev cX11_tallyAll : ByteArray := prog_1_method_35_code
def yX11_tallyAll : MethodName := ⟨RX11, "tallyAll", "()I"⟩
abbrev cX11_copyRows : ByteArray := prog_1_method_36_code
def yX11_copyRows : MethodName := ⟨RX11, "copyRows", "()V"⟩
abbrev cX11_tallyRows : ByteArray := prog_1_method_37_code
def yX11_tallyRows : MethodName := ⟨RX11, "tallyRows", "()I"⟩
abbrev cX11_best : ByteArray := prog_1_method_38_code
def yX11_best : MethodName := ⟨RX11, "best", "(I)I"⟩
abbrev cX11_fairest : ByteArray := prog_1_method_39_code
def yX11_fairest : MethodName := ⟨RX11, "fairest", "(I)I"⟩
abbrev cX11_keepRowsOfWorth : ByteArray := prog_1_method_40_code
def yX11_keepRowsOfWorth : MethodName := ⟨RX11, "keepRowsOfWorth", "(I)V"⟩
abbrev cX11_stillest : ByteArray := prog_1_method_41_code
def yX11_stillest : MethodName := ⟨RX11, "stillest", "(I)I"⟩
abbrev cX11_asksOfMap : ByteArray := prog_1_method_42_code
def yX11_asksOfMap : MethodName := ⟨RX11, "asksOfMap", "(I)Z"⟩
abbrev cX11_pickedFlat : ByteArray := prog_1_method_43_code
def yX11_pickedFlat : MethodName := ⟨RX11, "pickedFlat", "(I)I"⟩
abbrev cX11_bestMending : ByteArray := prog_1_method_44_code
def yX11_bestMending : MethodName := ⟨RX11, "bestMending", "()I"⟩
abbrev cX11_thisMap : ByteArray := prog_1_method_45_code
def yX11_thisMap : MethodName := ⟨RX11, "thisMap", "()I"⟩
abbrev cX11_harm : ByteArray := prog_1_method_46_code
def yX11_harm : MethodName := ⟨RX11, "harm", "()I"⟩
abbrev cX11_envies : ByteArray := prog_1_method_47_code
def yX11_envies : MethodName := ⟨RX11, "envies", "(I)I"⟩
abbrev cX11_wouldSwap : ByteArray := prog_1_method_48_code
def yX11_wouldSwap : MethodName := ⟨RX11, "wouldSwap", "()I"⟩
abbrev cX11_byRings : ByteArray := prog_1_method_49_code
def yX11_byRings : MethodName := ⟨RX11, "byRings", "(I)I"⟩
abbrev cX11_ringsMany : ByteArray := prog_1_method_50_code
def yX11_ringsMany : MethodName := ⟨RX11, "ringsMany", "()I"⟩
abbrev cX11_moving : ByteArray := prog_1_method_51_code
def yX11_moving : MethodName := ⟨RX11, "moving", "(II)I"⟩
abbrev cX11_nearest : ByteArray := prog_1_method_52_code
def yX11_nearest : MethodName := ⟨RX11, "nearest", "()I"⟩
abbrev cX11_seekNearest : ByteArray := prog_1_method_53_code
def yX11_seekNearest : MethodName := ⟨RX11, "seekNearest", "(I)I"⟩
abbrev cX11_seen : ByteArray := prog_1_method_54_code
def yX11_seen : MethodName := ⟨RX11, "seen", "(I)I"⟩
abbrev cX11_had : ByteArray := prog_1_method_55_code
def yX11_had : MethodName := ⟨RX11, "had", "(II)I"⟩
abbrev cX11_wall : ByteArray := prog_1_method_56_code
def yX11_wall : MethodName := ⟨RX11, "wall", "(I)I"⟩
abbrev cX11_mostFrequent : ByteArray := prog_1_method_57_code
def yX11_mostFrequent : MethodName := ⟨RX11, "mostFrequent", "(II)I"⟩
abbrev cX11_seenCode : ByteArray := prog_1_method_58_code
def yX11_seenCode : MethodName := ⟨RX11, "seenCode", "(I)I"⟩
abbrev cX11_tallySeen : ByteArray := prog_1_method_59_code
def yX11_tallySeen : MethodName := ⟨RX11, "tallySeen", "(LFloorsByLot$Tray;)I"⟩
abbrev cX11_numbers : ByteArray := prog_1_method_60_code
def yX11_numbers : MethodName := ⟨RX11, "numbers", "(III)I"⟩
abbrev cX11_write : ByteArray := prog_1_method_61_code
def yX11_write : MethodName := ⟨RX11, "write", "(IIJ)J"⟩
abbrev cX11_lists : ByteArray := prog_1_method_62_code
def yX11_lists : MethodName := ⟨RX11, "lists", "(I)I"⟩
abbrev cX11_image : ByteArray := prog_1_method_63_code
def yX11_image : MethodName := ⟨RX11, "image", "(I)I"⟩
abbrev cX11_restore : ByteArray := prog_1_method_64_code
def yX11_restore : MethodName := ⟨RX11, "restore", "(I)I"⟩
abbrev cX11_count : ByteArray := prog_1_method_65_code
def yX11_count : MethodName := ⟨RX11, "count", "(I)I"⟩
abbrev cX11_isTray : ByteArray := prog_1_method_66_code
def yX11_isTray : MethodName := ⟨RX11, "isTray", "(I)Z"⟩
abbrev cX11_trayCode : ByteArray := prog_1_method_67_code
def yX11_trayCode : MethodName := ⟨RX11, "trayCode", "(I)I"⟩
def RX12 : String := "FloorsByLotModel"
def TX12 : u_T := fun k => match k with
  | 0 => ("FloorsByLotModel", "thrown", "I", false)
  | 1 => ("FloorsByLotModel", "all", "[I", true)
  | 2 => ("FloorsByLotModel", "hasImage", "[Z", true)
  | 3 => ("FloorsByLotModel", "tape", "[I", true)
  | 4 => ("FloorsByLotModel", "fresh", "[I", true)
  | 5 => ("FloorsByLotModel", "taped", "I", false)
  | 6 => ("FloorsByLotModel", "at", "I", false)
  | 7 => ("FloorsByLotModel", "behind", "I", false)
  | 8 => ("FloorsByLotModel", "size", "I", false)
  | 9 => ("FloorsByLotModel", "kind", "I", false)
  | 10 => ("FloorsByLotModel", "number", "I", false)
  | 11 => ("FloorsByLotModel", "wrong", "I", false)
  | 12 => ("FloorsByLotModel", "wrongAt", "I", false)
  | 13 => ("FloorsByLotModel", "faultKind", "I", false)
  | 14 => ("FloorsByLotModel", "faultPlace", "I", false)
  | 15 => ("FloorsByLotModel", "reckoned", "[I", true)
  | 16 => ("FloorsByLotModel", "may", "[I", true)
  | 17 => ("FloorsByLotModel", "worth", "[I", true)
  | 18 => ("FloorsByLotModel", "maps", "[I", true)
  | 19 => ("FloorsByLotModel", "many", "I", false)
  | 20 => ("FloorsByLotModel", "was", "[I", true)
  | 21 => ("FloorsByLotModel", "gets", "[I", true)
  | 22 => ("FloorsByLotModel", "rounds", "I", false)
  | 23 => ("FloorsByLotModel", "toldWhy", "I", false)
  | 24 => ("FloorsByLotModel", "x", "I", false)
  | 25 => ("FloorsByLotModel", "day", "[I", true)
  | 26 => ("FloorsByLotModel", "power", "[I", true)
  | 27 => ("FloorsByLotModel", "often", "[I", true)
  | 28 => ("FloorsByLotModel", "rowSort", "[I", true)
  | 29 => ("FloorsByLotModel", "rowMany", "[I", true)
  | _ => ("FloorsByLotModel", "numbers", "[J", true)
def tyX12 : Nat → FieldType := fun k => match k with
  | 0 => .int
  | 1 => .array .int
  | 2 => .array .boolean
  | 3 => .array .int
  | 4 => .array .int
  | 5 => .int
  | 6 => .int
  | 7 => .int
  | 8 => .int
  | 9 => .int
  | 10 => .int
  | 11 => .int
  | 12 => .int
  | 13 => .int
  | 14 => .int
  | 15 => .array .int
  | 16 => .array .int
  | 17 => .array .int
  | 18 => .array .int
  | 19 => .int
  | 20 => .array .int
  | 21 => .array .int
  | 22 => .int
  | 23 => .int
  | 24 => .int
  | 25 => .array .int
  | 26 => .array .int
  | 27 => .array .int
  | 28 => .array .int
  | 29 => .array .int
  | _ => .array .long
theorem nmX12 : ∀ a, a < 31 → ∀ b, b < 31 → a ≠ b → (TX12 a).2.1 ≠ (TX12 b).2.1 := by decide +kernel
theorem tyX12_ok : ∀ k, k < 31 → parseFieldDescriptor (TX12 k).2.2.1 = some (tyX12 k) := by decide +kernel
abbrev cX12_within : ByteArray := prog_14_method_2_code
def yX12_within : MethodName := ⟨RX12, "within", "(JJJ)Z"⟩
abbrev cX12_init : ByteArray := prog_14_method_3_code
def yX12_init : MethodName := ⟨RX12, "<init>", "()V"⟩
abbrev cX12_plain : ByteArray := prog_14_method_4_code
def yX12_plain : MethodName := ⟨RX12, "plain", "([I)V"⟩
abbrev cX12_feed : ByteArray := prog_14_method_5_code
def yX12_feed : MethodName := ⟨RX12, "feed", "(IIIII)I"⟩
abbrev cX12_see : ByteArray := prog_14_method_6_code
def yX12_see : MethodName := ⟨RX12, "see", "(I)I"⟩
abbrev cX12_isSmall : ByteArray := prog_14_method_7_code
def yX12_isSmall : MethodName := ⟨RX12, "isSmall", "(I)Z"⟩
abbrev cX12_isDigit : ByteArray := prog_14_method_8_code
def yX12_isDigit : MethodName := ⟨RX12, "isDigit", "(I)Z"⟩
abbrev cX12_keyAt : ByteArray := prog_14_method_9_code
def yX12_keyAt : MethodName := ⟨RX12, "keyAt", "()I"⟩
abbrev cX12_next : ByteArray := prog_14_method_10_code
def yX12_next : MethodName := ⟨RX12, "next", "()V"⟩
abbrev cX12_fails : ByteArray := prog_14_method_11_code
def yX12_fails : MethodName := ⟨RX12, "fails", "(I)V"⟩
abbrev cX12_is : ByteArray := prog_14_method_12_code
def yX12_is : MethodName := ⟨RX12, "is", "(I)Z"⟩
abbrev cX12_eats : ByteArray := prog_14_method_13_code
def yX12_eats : MethodName := ⟨RX12, "eats", "(I)Z"⟩
abbrev cX12_takes : ByteArray := prog_14_method_14_code
def yX12_takes : MethodName := ⟨RX12, "takes", "(II)I"⟩
abbrev cX12_isIn : ByteArray := prog_14_method_15_code
def yX12_isIn : MethodName := ⟨RX12, "isIn", "(JI)Z"⟩
abbrev cX12_codes : ByteArray := prog_14_method_16_code
def yX12_codes : MethodName := ⟨RX12, "codes", "(I)V"⟩
abbrev cX12_goesIn : ByteArray := prog_14_method_17_code
def yX12_goesIn : MethodName := ⟨RX12, "goesIn", "(I)Z"⟩
abbrev cX12_readAtom : ByteArray := prog_14_method_18_code
def yX12_readAtom : MethodName := ⟨RX12, "readAtom", "(I)V"⟩
abbrev cX12_readTerm : ByteArray := prog_14_method_19_code
def yX12_readTerm : MethodName := ⟨RX12, "readTerm", "(I)V"⟩
abbrev cX12_readSum : ByteArray := prog_14_method_20_code
def yX12_readSum : MethodName := ⟨RX12, "readSum", "(I)V"⟩
abbrev cX12_readUnit : ByteArray := prog_14_method_21_code
def yX12_readUnit : MethodName := ⟨RX12, "readUnit", "(I)V"⟩
abbrev cX12_readBoth : ByteArray := prog_14_method_22_code
def yX12_readBoth : MethodName := ⟨RX12, "readBoth", "(I)V"⟩
abbrev cX12_readTruth : ByteArray := prog_14_method_23_code
def yX12_readTruth : MethodName := ⟨RX12, "readTruth", "(I)V"⟩
abbrev cX12_readFlat : ByteArray := prog_14_method_24_code
def yX12_readFlat : MethodName := ⟨RX12, "readFlat", "()V"⟩
abbrev cX12_readFlag : ByteArray := prog_14_method_25_code
def yX12_readFlag : MethodName := ⟨RX12, "readFlag", "(I)Z"⟩
abbrev cX12_readHousehold : ByteArray := prog_14_method_26_code
def yX12_readHousehold : MethodName := ⟨RX12, "readHousehold", "()V"⟩
abbrev cX12_readLives : ByteArray := prog_14_method_27_code
def yX12_readLives : MethodName := ⟨RX12, "readLives", "()V"⟩
abbrev cX12_readLaw : ByteArray := prog_14_method_28_code
def yX12_readLaw : MethodName := ⟨RX12, "readLaw", "(I)V"⟩
abbrev cX12_readLine : ByteArray := prog_14_method_29_code
def yX12_readLine : MethodName := ⟨RX12, "readLine", "()V"⟩
abbrev cX12_tower : ByteArray := prog_14_method_30_code
def yX12_tower : MethodName := ⟨RX12, "tower", "(I)I"⟩
abbrev cX12_fault : ByteArray := prog_14_method_31_code
def yX12_fault : MethodName := ⟨RX12, "fault", "(I)I"⟩
abbrev cX12_isFlat : ByteArray := prog_14_method_32_code
def yX12_isFlat : MethodName := ⟨RX12, "isFlat", "(J)Z"⟩
abbrev cX12_isHousehold : ByteArray := prog_14_method_33_code
def yX12_isHousehold : MethodName := ⟨RX12, "isHousehold", "(J)Z"⟩
abbrev cX12_livesIn : ByteArray := prog_14_method_34_code
def yX12_livesIn : MethodName := ⟨RX12, "livesIn", "(I)I"⟩
abbrev cX12_between : ByteArray := prog_14_method_35_code
def yX12_between : MethodName := ⟨RX12, "between", "(III)I"⟩
abbrev cX12_valueOf : ByteArray := prog_14_method_36_code
def yX12_valueOf : MethodName := ⟨RX12, "valueOf", "(III)I"⟩
abbrev cX12_reckons : ByteArray := prog_14_method_37_code
def yX12_reckons : MethodName := ⟨RX12, "reckons", "(III)I"⟩
abbrev cX12_mayLive : ByteArray := prog_14_method_38_code
def yX12_mayLive : MethodName := ⟨RX12, "mayLive", "(II)Z"⟩
abbrev cX12_worthOf : ByteArray := prog_14_method_39_code
def yX12_worthOf : MethodName := ⟨RX12, "worthOf", "(II)I"⟩
abbrev cX12_flat : ByteArray := prog_14_method_40_code
def yX12_flat : MethodName := ⟨RX12, "flat", "(II)I"⟩
abbrev cX12_household : ByteArray := prog_14_method_41_code
def yX12_household : MethodName := ⟨RX12, "household", "(II)I"⟩
abbrev cX12_areBoth : ByteArray := prog_14_method_42_code
def yX12_areBoth : MethodName := ⟨RX12, "areBoth", "(II)Z"⟩
abbrev cX12_times : ByteArray := prog_14_method_43_code
def yX12_times : MethodName := ⟨RX12, "times", "(II)I"⟩
abbrev cX12_may : ByteArray := prog_14_method_44_code
def yX12_may : MethodName := ⟨RX12, "may", "(II)I"⟩
abbrev cX12_worth : ByteArray := prog_14_method_45_code
def yX12_worth : MethodName := ⟨RX12, "worth", "(II)I"⟩
abbrev cX12_flatIn : ByteArray := prog_14_method_46_code
def yX12_flatIn : MethodName := ⟨RX12, "flatIn", "(II)I"⟩
abbrev cX12_laysLaws : ByteArray := prog_14_method_47_code
def yX12_laysLaws : MethodName := ⟨RX12, "laysLaws", "()V"⟩
abbrev cX12_laysMaps : ByteArray := prog_14_method_48_code
def yX12_laysMaps : MethodName := ⟨RX12, "laysMaps", "(I)V"⟩
abbrev cX12_goesMaps : ByteArray := prog_14_method_49_code
def yX12_goesMaps : MethodName := ⟨RX12, "goesMaps", "(IIII)V"⟩
abbrev cX12_keeps : ByteArray := prog_14_method_50_code
def yX12_keeps : MethodName := ⟨RX12, "keeps", "()V"⟩
abbrev cX12_isAgain : ByteArray := prog_14_method_51_code
def yX12_isAgain : MethodName := ⟨RX12, "isAgain", "()V"⟩
abbrev cX12_notes : ByteArray := prog_14_method_52_code
def yX12_notes : MethodName := ⟨RX12, "notes", "()V"⟩
abbrev cX12_drawsBy : ByteArray := prog_14_method_53_code
def yX12_drawsBy : MethodName := ⟨RX12, "drawsBy", "(J)I"⟩
abbrev cX12_draws : ByteArray := prog_14_method_54_code
def yX12_draws : MethodName := ⟨RX12, "draws", "(I)I"⟩
abbrev cX12_pointsAt : ByteArray := prog_14_method_55_code
def yX12_pointsAt : MethodName := ⟨RX12, "pointsAt", "(II)I"⟩
abbrev cX12_laysRings : ByteArray := prog_14_method_56_code
def yX12_laysRings : MethodName := ⟨RX12, "laysRings", "()V"⟩
abbrev cX12_goesRings : ByteArray := prog_14_method_57_code
def yX12_goesRings : MethodName := ⟨RX12, "goesRings", "()I"⟩
abbrev cX12_rings : ByteArray := prog_14_method_58_code
def yX12_rings : MethodName := ⟨RX12, "rings", "()I"⟩
abbrev cX12_whyMove : ByteArray := prog_14_method_59_code
def yX12_whyMove : MethodName := ⟨RX12, "whyMove", "(JJ)I"⟩
abbrev cX12_whyLeave : ByteArray := prog_14_method_60_code
def yX12_whyLeave : MethodName := ⟨RX12, "whyLeave", "(J)I"⟩
abbrev cX12_whyFault : ByteArray := prog_14_method_61_code
def yX12_whyFault : MethodName := ⟨RX12, "whyFault", "(JI)I"⟩
abbrev cX12_far : ByteArray := prog_14_method_62_code
def yX12_far : MethodName := ⟨RX12, "far", "(II)I"⟩
abbrev cX12_floorOf : ByteArray := prog_14_method_63_code
def yX12_floorOf : MethodName := ⟨RX12, "floorOf", "(I)I"⟩
abbrev cX12_moves : ByteArray := prog_14_method_64_code
def yX12_moves : MethodName := ⟨RX12, "moves", "(II)I"⟩
abbrev cX12_leaves : ByteArray := prog_14_method_65_code
def yX12_leaves : MethodName := ⟨RX12, "leaves", "(I)I"⟩
abbrev cX12_spoils : ByteArray := prog_14_method_66_code
def yX12_spoils : MethodName := ⟨RX12, "spoils", "(I)I"⟩
abbrev cX12_mends : ByteArray := prog_14_method_67_code
def yX12_mends : MethodName := ⟨RX12, "mends", "(I)I"⟩
abbrev cX12_undo : ByteArray := prog_14_method_68_code
def yX12_undo : MethodName := ⟨RX12, "undo", "(I)I"⟩
abbrev cX12_whyNot : ByteArray := prog_14_method_69_code
def yX12_whyNot : MethodName := ⟨RX12, "whyNot", "(J)I"⟩
abbrev cX12_does : ByteArray := prog_14_method_70_code
def yX12_does : MethodName := ⟨RX12, "does", "(J)V"⟩
abbrev cX12_tells : ByteArray := prog_14_method_71_code
def yX12_tells : MethodName := ⟨RX12, "tells", "(I)I"⟩
abbrev cX12_noTray : ByteArray := prog_14_method_72_code
def yX12_noTray : MethodName := ⟨RX12, "noTray", "(I)I"⟩
abbrev cX12_away : ByteArray := prog_14_method_73_code
def yX12_away : MethodName := ⟨RX12, "away", "()I"⟩
abbrev cX12_judge : ByteArray := prog_14_method_74_code
def yX12_judge : MethodName := ⟨RX12, "judge", "(II)I"⟩
abbrev cX12_perform : ByteArray := prog_14_method_75_code
def yX12_perform : MethodName := ⟨RX12, "perform", "(I)I"⟩
abbrev cX12_draw : ByteArray := prog_14_method_76_code
def yX12_draw : MethodName := ⟨RX12, "draw", "()I"⟩
abbrev cX12_drawn : ByteArray := prog_14_method_77_code
def yX12_drawn : MethodName := ⟨RX12, "drawn", "()J"⟩
abbrev cX12_year : ByteArray := prog_14_method_78_code
def yX12_year : MethodName := ⟨RX12, "year", "(II)I"⟩
abbrev cX12_maps : ByteArray := prog_14_method_79_code
def yX12_maps : MethodName := ⟨RX12, "maps", "()I"⟩
abbrev cX12_inMap : ByteArray := prog_14_method_80_code
def yX12_inMap : MethodName := ⟨RX12, "inMap", "(II)I"⟩
abbrev cX12_withOf : ByteArray := prog_14_method_81_code
def yX12_withOf : MethodName := ⟨RX12, "withOf", "(II)I"⟩
abbrev cX12_with : ByteArray := prog_14_method_82_code
def yX12_with : MethodName := ⟨RX12, "with", "(II)I"⟩
abbrev cX12_isAbove : ByteArray := prog_14_method_83_code
def yX12_isAbove : MethodName := ⟨RX12, "isAbove", "(II)Z"⟩
abbrev cX12_near : ByteArray := prog_14_method_84_code
def yX12_near : MethodName := ⟨RX12, "near", "(II)I"⟩
abbrev cX12_allElse : ByteArray := prog_14_method_85_code
def yX12_allElse : MethodName := ⟨RX12, "allElse", "()I"⟩
abbrev cX12_likeliest : ByteArray := prog_14_method_86_code
def yX12_likeliest : MethodName := ⟨RX12, "likeliest", "(I)I"⟩
abbrev cX12_sure : ByteArray := prog_14_method_87_code
def yX12_sure : MethodName := ⟨RX12, "sure", "(II)I"⟩
abbrev cX12_tooMany : ByteArray := prog_14_method_88_code
def yX12_tooMany : MethodName := ⟨RX12, "tooMany", "()I"⟩
abbrev cX12_worthIn : ByteArray := prog_14_method_89_code
def yX12_worthIn : MethodName := ⟨RX12, "worthIn", "(I)I"⟩
abbrev cX12_leastIn : ByteArray := prog_14_method_90_code
def yX12_leastIn : MethodName := ⟨RX12, "leastIn", "(I)I"⟩
abbrev cX12_harmOf : ByteArray := prog_14_method_91_code
def yX12_harmOf : MethodName := ⟨RX12, "harmOf", "(IIII)I"⟩
abbrev cX12_harmIn : ByteArray := prog_14_method_92_code
def yX12_harmIn : MethodName := ⟨RX12, "harmIn", "(I)I"⟩
abbrev cX12_valueIn : ByteArray := prog_14_method_93_code
def yX12_valueIn : MethodName := ⟨RX12, "valueIn", "(II)I"⟩
abbrev cX12_bestMap : ByteArray := prog_14_method_94_code
def yX12_bestMap : MethodName := ⟨RX12, "bestMap", "(I)I"⟩
abbrev cX12_asked : ByteArray := prog_14_method_95_code
def yX12_asked : MethodName := ⟨RX12, "asked", "(III)I"⟩
abbrev cX12_best : ByteArray := prog_14_method_96_code
def yX12_best : MethodName := ⟨RX12, "best", "(I)I"⟩
abbrev cX12_fairest : ByteArray := prog_14_method_97_code
def yX12_fairest : MethodName := ⟨RX12, "fairest", "(I)I"⟩
abbrev cX12_stillest : ByteArray := prog_14_method_98_code
def yX12_stillest : MethodName := ⟨RX12, "stillest", "(I)I"⟩
abbrev cX12_bestMending : ByteArray := prog_14_method_99_code
def yX12_bestMending : MethodName := ⟨RX12, "bestMending", "()I"⟩
abbrev cX12_thisMap : ByteArray := prog_14_method_100_code
def yX12_thisMap : MethodName := ⟨RX12, "thisMap", "()I"⟩
abbrev cX12_harm : ByteArray := prog_14_method_101_code
def yX12_harm : MethodName := ⟨RX12, "harm", "()I"⟩
abbrev cX12_isEnvied : ByteArray := prog_14_method_102_code
def yX12_isEnvied : MethodName := ⟨RX12, "isEnvied", "(II)Z"⟩
abbrev cX12_envies : ByteArray := prog_14_method_103_code
def yX12_envies : MethodName := ⟨RX12, "envies", "(I)I"⟩
abbrev cX12_wouldSwap : ByteArray := prog_14_method_104_code
def yX12_wouldSwap : MethodName := ⟨RX12, "wouldSwap", "()I"⟩
abbrev cX12_byRings : ByteArray := prog_14_method_105_code
def yX12_byRings : MethodName := ⟨RX12, "byRings", "(I)I"⟩
abbrev cX12_ringsMany : ByteArray := prog_14_method_106_code
def yX12_ringsMany : MethodName := ⟨RX12, "ringsMany", "()I"⟩
abbrev cX12_isEmpty : ByteArray := prog_14_method_107_code
def yX12_isEmpty : MethodName := ⟨RX12, "isEmpty", "(II)Z"⟩
abbrev cX12_goesDay : ByteArray := prog_14_method_108_code
def yX12_goesDay : MethodName := ⟨RX12, "goesDay", "(IIIII)V"⟩
abbrev cX12_moved : ByteArray := prog_14_method_109_code
def yX12_moved : MethodName := ⟨RX12, "moved", "(I)I"⟩
abbrev cX12_moving : ByteArray := prog_14_method_110_code
def yX12_moving : MethodName := ⟨RX12, "moving", "(II)I"⟩
abbrev cX12_nearest : ByteArray := prog_14_method_111_code
def yX12_nearest : MethodName := ⟨RX12, "nearest", "()I"⟩
abbrev cX12_noSeen : ByteArray := prog_14_method_112_code
def yX12_noSeen : MethodName := ⟨RX12, "noSeen", "(I)I"⟩
abbrev cX12_whoIn : ByteArray := prog_14_method_113_code
def yX12_whoIn : MethodName := ⟨RX12, "whoIn", "(II)I"⟩
abbrev cX12_isSeen : ByteArray := prog_14_method_114_code
def yX12_isSeen : MethodName := ⟨RX12, "isSeen", "(II)Z"⟩
abbrev cX12_laysSeen : ByteArray := prog_14_method_115_code
def yX12_laysSeen : MethodName := ⟨RX12, "laysSeen", "(I)V"⟩
abbrev cX12_seen : ByteArray := prog_14_method_116_code
def yX12_seen : MethodName := ⟨RX12, "seen", "(I)I"⟩
abbrev cX12_had : ByteArray := prog_14_method_117_code
def yX12_had : MethodName := ⟨RX12, "had", "(II)I"⟩
abbrev cX12_mostOften : ByteArray := prog_14_method_118_code
def yX12_mostOften : MethodName := ⟨RX12, "mostOften", "(I)I"⟩
abbrev cX12_wall : ByteArray := prog_14_method_119_code
def yX12_wall : MethodName := ⟨RX12, "wall", "(I)I"⟩
abbrev cX12_cut : ByteArray := prog_14_method_120_code
def yX12_cut : MethodName := ⟨RX12, "cut", "(JI)J"⟩
abbrev cX12_numbers : ByteArray := prog_14_method_121_code
def yX12_numbers : MethodName := ⟨RX12, "numbers", "(III)I"⟩
abbrev cX12_write : ByteArray := prog_14_method_122_code
def yX12_write : MethodName := ⟨RX12, "write", "(IIJ)J"⟩
abbrev cX12_lists : ByteArray := prog_14_method_123_code
def yX12_lists : MethodName := ⟨RX12, "lists", "(I)I"⟩
abbrev cX12_image : ByteArray := prog_14_method_124_code
def yX12_image : MethodName := ⟨RX12, "image", "(I)I"⟩
abbrev cX12_restore : ByteArray := prog_14_method_125_code
def yX12_restore : MethodName := ⟨RX12, "restore", "(I)I"⟩
abbrev cX12_faultsMany : ByteArray := prog_14_method_126_code
def yX12_faultsMany : MethodName := ⟨RX12, "faultsMany", "()I"⟩
abbrev cX12_count : ByteArray := prog_14_method_127_code
def yX12_count : MethodName := ⟨RX12, "count", "(I)I"⟩
def RJ6 : String := "java/lang/Integer"
abbrev cJ6_bitCount_0f7a4 : ByteArray := prog_16_method_49_code
def yJ6_bitCount_0f7a4 : MethodName := ⟨RJ6, "bitCount", "(I)I"⟩
def RJ7 : String := "java/util/Arrays"
abbrev cJ7_rangeCheck_23922 : ByteArray := prog_22_method_30_code
def yJ7_rangeCheck_23922 : MethodName := ⟨RJ7, "rangeCheck", "(III)V"⟩
abbrev cJ7_fill_d0a16 : ByteArray := prog_22_method_101_code
def yJ7_fill_d0a16 : MethodName := ⟨RJ7, "fill", "([JJ)V"⟩
abbrev cJ7_fill_53178 : ByteArray := prog_22_method_103_code
def yJ7_fill_53178 : MethodName := ⟨RJ7, "fill", "([II)V"⟩
abbrev cJ7_fill_fda19 : ByteArray := prog_22_method_104_code
def yJ7_fill_fda19 : MethodName := ⟨RJ7, "fill", "([IIII)V"⟩
def RL : String := "FloorsByLotLaw"
abbrev cL_law : ByteArray := code
def yL_law : MethodName := ⟨RL, "law", "([I)Z"⟩
abbrev vwCl : List vw_C := [(RX0, TX0, 9), (RX1, TX1, 3), (RX2, TX2, 13), (RX3, TX3, 10), (RX4, TX4, 4), (RX5, TX5, 7), (RX6, TX6, 8), (RX7, TX7, 9), (RX8, TX8, 6), (RX9, TX9, 6), (RX10, TX10, 3), (RX11, TX11, 18), (RX12, TX12, 31)]
end
section
theorem tb_in {w : Cond} (h : w ∈ lw_tbl) (hg : goodWord w = true) : w ∈ tb := List.mem_filter.mpr ⟨h, hg⟩
theorem wd_0 : Cond.selects RX11 yX11_feedInt yX11_feedInt ∈ tb := tb_in (List.mem_of_getElem? (i := 0) (by decide +kernel)) (by decide +kernel)
theorem wd_1 : Cond.selects RX7 yX7_next yX7_next ∈ tb := tb_in (List.mem_of_getElem? (i := 1) (by decide +kernel)) (by decide +kernel)
theorem wd_2 : Cond.selects RX7 yX7_wordToken yX7_wordToken ∈ tb := tb_in (List.mem_of_getElem? (i := 2) (by decide +kernel)) (by decide +kernel)
theorem wd_3 : Cond.selects RX7 yX7_readFlat yX7_readFlat ∈ tb := tb_in (List.mem_of_getElem? (i := 3) (by decide +kernel)) (by decide +kernel)
theorem wd_4 : Cond.selects RX7 yX7_refuse yX7_refuse ∈ tb := tb_in (List.mem_of_getElem? (i := 4) (by decide +kernel)) (by decide +kernel)
theorem wd_5 : Cond.selects RX7 yX7_isNumber yX7_isNumber ∈ tb := tb_in (List.mem_of_getElem? (i := 5) (by decide +kernel)) (by decide +kernel)
theorem wd_6 : Cond.selects RX7 yX7_cannotStand yX7_cannotStand ∈ tb := tb_in (List.mem_of_getElem? (i := 6) (by decide +kernel)) (by decide +kernel)
theorem wd_7 : Cond.selects RX7 yX7_takeValue yX7_takeValue ∈ tb := tb_in (List.mem_of_getElem? (i := 7) (by decide +kernel)) (by decide +kernel)
theorem wd_8 : Cond.selects RX7 yX7_take yX7_take ∈ tb := tb_in (List.mem_of_getElem? (i := 8) (by decide +kernel)) (by decide +kernel)
theorem wd_9 : Cond.selects RX7 yX7_readFlatFlags yX7_readFlatFlags ∈ tb := tb_in (List.mem_of_getElem? (i := 9) (by decide +kernel)) (by decide +kernel)
theorem wd_10 : Cond.selects RX7 yX7_readHousehold yX7_readHousehold ∈ tb := tb_in (List.mem_of_getElem? (i := 10) (by decide +kernel)) (by decide +kernel)
theorem wd_11 : Cond.selects RX7 yX7_readLives yX7_readLives ∈ tb := tb_in (List.mem_of_getElem? (i := 11) (by decide +kernel)) (by decide +kernel)
theorem wd_12 : Cond.selects RX7 yX7_readMay yX7_readMay ∈ tb := tb_in (List.mem_of_getElem? (i := 12) (by decide +kernel)) (by decide +kernel)
theorem wd_13 : Cond.selects RX7 yX7_readTruth yX7_readTruth ∈ tb := tb_in (List.mem_of_getElem? (i := 13) (by decide +kernel)) (by decide +kernel)
theorem wd_14 : Cond.selects RX7 yX7_readBoth yX7_readBoth ∈ tb := tb_in (List.mem_of_getElem? (i := 14) (by decide +kernel)) (by decide +kernel)
theorem wd_15 : Cond.selects RX7 yX7_readUnit yX7_readUnit ∈ tb := tb_in (List.mem_of_getElem? (i := 15) (by decide +kernel)) (by decide +kernel)
theorem wd_16 : Cond.selects RX7 yX7_emit yX7_emit ∈ tb := tb_in (List.mem_of_getElem? (i := 16) (by decide +kernel)) (by decide +kernel)
theorem wd_17 : Cond.selects RX7 yX7_readSum yX7_readSum ∈ tb := tb_in (List.mem_of_getElem? (i := 17) (by decide +kernel)) (by decide +kernel)
theorem wd_18 : Cond.selects RX7 yX7_readTerm yX7_readTerm ∈ tb := tb_in (List.mem_of_getElem? (i := 18) (by decide +kernel)) (by decide +kernel)
theorem wd_19 : Cond.selects RX7 yX7_readAtom yX7_readAtom ∈ tb := tb_in (List.mem_of_getElem? (i := 19) (by decide +kernel)) (by decide +kernel)
theorem wd_20 : Cond.selects RX7 yX7_readWorth yX7_readWorth ∈ tb := tb_in (List.mem_of_getElem? (i := 20) (by decide +kernel)) (by decide +kernel)
theorem wd_21 : Cond.selects RX7 yX7_readQuarter yX7_readQuarter ∈ tb := tb_in (List.mem_of_getElem? (i := 21) (by decide +kernel)) (by decide +kernel)
theorem wd_22 : Cond.selects RX11 yX11_isFlat yX11_isFlat ∈ tb := tb_in (List.mem_of_getElem? (i := 22) (by decide +kernel)) (by decide +kernel)
theorem wd_23 : Cond.selects RX11 yX11_isHousehold yX11_isHousehold ∈ tb := tb_in (List.mem_of_getElem? (i := 23) (by decide +kernel)) (by decide +kernel)
theorem wd_24 : Cond.selects RX11 yX11_isPair yX11_isPair ∈ tb := tb_in (List.mem_of_getElem? (i := 24) (by decide +kernel)) (by decide +kernel)
theorem wd_25 : Cond.selects RX9 yX9_learn yX9_learn ∈ tb := tb_in (List.mem_of_getElem? (i := 25) (by decide +kernel)) (by decide +kernel)
theorem wd_26 : Cond.selects RX9 yX9_run yX9_run ∈ tb := tb_in (List.mem_of_getElem? (i := 26) (by decide +kernel)) (by decide +kernel)
theorem wd_27 : Cond.selects RX5 yX5_waysFrom yX5_waysFrom ∈ tb := tb_in (List.mem_of_getElem? (i := 27) (by decide +kernel)) (by decide +kernel)
theorem wd_28 : Cond.selects RX8 yX8_ownerWanted yX8_ownerWanted ∈ tb := tb_in (List.mem_of_getElem? (i := 28) (by decide +kernel)) (by decide +kernel)
theorem wd_29 : Cond.selects RX8 yX8_closeOne yX8_closeOne ∈ tb := tb_in (List.mem_of_getElem? (i := 29) (by decide +kernel)) (by decide +kernel)
theorem wd_30 : Cond.selects RX0 yX0_doOne yX0_doOne ∈ tb := tb_in (List.mem_of_getElem? (i := 30) (by decide +kernel)) (by decide +kernel)
theorem wd_31 : Cond.selects RX0 yX0_noted yX0_noted ∈ tb := tb_in (List.mem_of_getElem? (i := 31) (by decide +kernel)) (by decide +kernel)
theorem wd_32 : Cond.selects RX11 yX11_judged yX11_judged ∈ tb := tb_in (List.mem_of_getElem? (i := 32) (by decide +kernel)) (by decide +kernel)
theorem wd_33 : Cond.selects RX11 yX11_trayCode yX11_trayCode ∈ tb := tb_in (List.mem_of_getElem? (i := 33) (by decide +kernel)) (by decide +kernel)
theorem wd_34 : Cond.selects RX11 yX11_keepIfSome yX11_keepIfSome ∈ tb := tb_in (List.mem_of_getElem? (i := 34) (by decide +kernel)) (by decide +kernel)
theorem wd_35 : Cond.selects RX0 yX0_doByLot yX0_doByLot ∈ tb := tb_in (List.mem_of_getElem? (i := 35) (by decide +kernel)) (by decide +kernel)
theorem wd_36 : Cond.selects RX0 yX0_nextLot yX0_nextLot ∈ tb := tb_in (List.mem_of_getElem? (i := 36) (by decide +kernel)) (by decide +kernel)
theorem wd_37 : Cond.selects RX11 yX11_tallyAll yX11_tallyAll ∈ tb := tb_in (List.mem_of_getElem? (i := 37) (by decide +kernel)) (by decide +kernel)
theorem wd_38 : Cond.selects RX11 yX11_copyRows yX11_copyRows ∈ tb := tb_in (List.mem_of_getElem? (i := 38) (by decide +kernel)) (by decide +kernel)
theorem wd_39 : Cond.selects RX11 yX11_tallyRows yX11_tallyRows ∈ tb := tb_in (List.mem_of_getElem? (i := 39) (by decide +kernel)) (by decide +kernel)
theorem wd_40 : Cond.selects RX11 yX11_mapsWithBoth yX11_mapsWithBoth ∈ tb := tb_in (List.mem_of_getElem? (i := 40) (by decide +kernel)) (by decide +kernel)
theorem wd_41 : Cond.selects RX5 yX5_passOn yX5_passOn ∈ tb := tb_in (List.mem_of_getElem? (i := 41) (by decide +kernel)) (by decide +kernel)
theorem wd_42 : Cond.selects RX5 yX5_isOfMost yX5_isOfMost ∈ tb := tb_in (List.mem_of_getElem? (i := 42) (by decide +kernel)) (by decide +kernel)
theorem wd_43 : Cond.selects RX11 yX11_pickedFlat yX11_pickedFlat ∈ tb := tb_in (List.mem_of_getElem? (i := 43) (by decide +kernel)) (by decide +kernel)
theorem wd_44 : Cond.selects RX11 yX11_keepRowsOfWorth yX11_keepRowsOfWorth ∈ tb := tb_in (List.mem_of_getElem? (i := 44) (by decide +kernel)) (by decide +kernel)
theorem wd_45 : Cond.selects RX6 yX6_seek yX6_seek ∈ tb := tb_in (List.mem_of_getElem? (i := 45) (by decide +kernel)) (by decide +kernel)
theorem wd_46 : Cond.selects RX6 yX6_harmAround yX6_harmAround ∈ tb := tb_in (List.mem_of_getElem? (i := 46) (by decide +kernel)) (by decide +kernel)
theorem wd_47 : Cond.selects RX6 yX6_harmOf yX6_harmOf ∈ tb := tb_in (List.mem_of_getElem? (i := 47) (by decide +kernel)) (by decide +kernel)
theorem wd_48 : Cond.selects RX3 yX3_gather yX3_gather ∈ tb := tb_in (List.mem_of_getElem? (i := 48) (by decide +kernel)) (by decide +kernel)
theorem wd_49 : Cond.selects RX3 yX3_moverOf yX3_moverOf ∈ tb := tb_in (List.mem_of_getElem? (i := 49) (by decide +kernel)) (by decide +kernel)
theorem wd_50 : Cond.selects RX3 yX3_floorsToGo yX3_floorsToGo ∈ tb := tb_in (List.mem_of_getElem? (i := 50) (by decide +kernel)) (by decide +kernel)
theorem wd_51 : Cond.selects RX3 yX3_floorOf yX3_floorOf ∈ tb := tb_in (List.mem_of_getElem? (i := 51) (by decide +kernel)) (by decide +kernel)
theorem wd_52 : Cond.selects RX3 yX3_expand yX3_expand ∈ tb := tb_in (List.mem_of_getElem? (i := 52) (by decide +kernel)) (by decide +kernel)
theorem wd_53 : Cond.selects RX3 yX3_ride yX3_ride ∈ tb := tb_in (List.mem_of_getElem? (i := 53) (by decide +kernel)) (by decide +kernel)
theorem wd_54 : Cond.selects RX3 yX3_arrive yX3_arrive ∈ tb := tb_in (List.mem_of_getElem? (i := 54) (by decide +kernel)) (by decide +kernel)
theorem wd_55 : Cond.selects RX11 yX11_seekNearest yX11_seekNearest ∈ tb := tb_in (List.mem_of_getElem? (i := 55) (by decide +kernel)) (by decide +kernel)
theorem wd_56 : Cond.selects RX11 yX11_seenCode yX11_seenCode ∈ tb := tb_in (List.mem_of_getElem? (i := 56) (by decide +kernel)) (by decide +kernel)
theorem wd_57 : Cond.selects RX11 yX11_tallySeen yX11_tallySeen ∈ tb := tb_in (List.mem_of_getElem? (i := 57) (by decide +kernel)) (by decide +kernel)
theorem wd_58 : Cond.selects RX11 yX11_mostFrequent yX11_mostFrequent ∈ tb := tb_in (List.mem_of_getElem? (i := 58) (by decide +kernel)) (by decide +kernel)
theorem wd_59 : Cond.selects RX12 yX12_next yX12_next ∈ tb := tb_in (List.mem_of_getElem? (i := 59) (by decide +kernel)) (by decide +kernel)
theorem wd_60 : Cond.selects RX12 yX12_see yX12_see ∈ tb := tb_in (List.mem_of_getElem? (i := 60) (by decide +kernel)) (by decide +kernel)
theorem wd_61 : Cond.selects RX12 yX12_keyAt yX12_keyAt ∈ tb := tb_in (List.mem_of_getElem? (i := 61) (by decide +kernel)) (by decide +kernel)
theorem wd_62 : Cond.selects RX12 yX12_readLine yX12_readLine ∈ tb := tb_in (List.mem_of_getElem? (i := 62) (by decide +kernel)) (by decide +kernel)
theorem wd_63 : Cond.selects RX12 yX12_is yX12_is ∈ tb := tb_in (List.mem_of_getElem? (i := 63) (by decide +kernel)) (by decide +kernel)
theorem wd_64 : Cond.selects RX12 yX12_readFlat yX12_readFlat ∈ tb := tb_in (List.mem_of_getElem? (i := 64) (by decide +kernel)) (by decide +kernel)
theorem wd_65 : Cond.selects RX12 yX12_fails yX12_fails ∈ tb := tb_in (List.mem_of_getElem? (i := 65) (by decide +kernel)) (by decide +kernel)
theorem wd_66 : Cond.selects RX12 yX12_takes yX12_takes ∈ tb := tb_in (List.mem_of_getElem? (i := 66) (by decide +kernel)) (by decide +kernel)
theorem wd_67 : Cond.selects RX12 yX12_eats yX12_eats ∈ tb := tb_in (List.mem_of_getElem? (i := 67) (by decide +kernel)) (by decide +kernel)
theorem wd_68 : Cond.selects RX12 yX12_readFlag yX12_readFlag ∈ tb := tb_in (List.mem_of_getElem? (i := 68) (by decide +kernel)) (by decide +kernel)
theorem wd_69 : Cond.selects RX12 yX12_readHousehold yX12_readHousehold ∈ tb := tb_in (List.mem_of_getElem? (i := 69) (by decide +kernel)) (by decide +kernel)
theorem wd_70 : Cond.selects RX12 yX12_readLives yX12_readLives ∈ tb := tb_in (List.mem_of_getElem? (i := 70) (by decide +kernel)) (by decide +kernel)
theorem wd_71 : Cond.selects RX12 yX12_readLaw yX12_readLaw ∈ tb := tb_in (List.mem_of_getElem? (i := 71) (by decide +kernel)) (by decide +kernel)
theorem wd_72 : Cond.selects RX12 yX12_readSum yX12_readSum ∈ tb := tb_in (List.mem_of_getElem? (i := 72) (by decide +kernel)) (by decide +kernel)
theorem wd_73 : Cond.selects RX12 yX12_readTerm yX12_readTerm ∈ tb := tb_in (List.mem_of_getElem? (i := 73) (by decide +kernel)) (by decide +kernel)
theorem wd_74 : Cond.selects RX12 yX12_readAtom yX12_readAtom ∈ tb := tb_in (List.mem_of_getElem? (i := 74) (by decide +kernel)) (by decide +kernel)
theorem wd_75 : Cond.selects RX12 yX12_codes yX12_codes ∈ tb := tb_in (List.mem_of_getElem? (i := 75) (by decide +kernel)) (by decide +kernel)
theorem wd_76 : Cond.selects RX12 yX12_goesIn yX12_goesIn ∈ tb := tb_in (List.mem_of_getElem? (i := 76) (by decide +kernel)) (by decide +kernel)
theorem wd_77 : Cond.selects RX12 yX12_readTruth yX12_readTruth ∈ tb := tb_in (List.mem_of_getElem? (i := 77) (by decide +kernel)) (by decide +kernel)
theorem wd_78 : Cond.selects RX12 yX12_readBoth yX12_readBoth ∈ tb := tb_in (List.mem_of_getElem? (i := 78) (by decide +kernel)) (by decide +kernel)
theorem wd_79 : Cond.selects RX12 yX12_readUnit yX12_readUnit ∈ tb := tb_in (List.mem_of_getElem? (i := 79) (by decide +kernel)) (by decide +kernel)
theorem wd_80 : Cond.selects RX12 yX12_isFlat yX12_isFlat ∈ tb := tb_in (List.mem_of_getElem? (i := 80) (by decide +kernel)) (by decide +kernel)
theorem wd_81 : Cond.selects RX12 yX12_livesIn yX12_livesIn ∈ tb := tb_in (List.mem_of_getElem? (i := 81) (by decide +kernel)) (by decide +kernel)
theorem wd_82 : Cond.selects RX12 yX12_isHousehold yX12_isHousehold ∈ tb := tb_in (List.mem_of_getElem? (i := 82) (by decide +kernel)) (by decide +kernel)
theorem wd_83 : Cond.selects RX12 yX12_areBoth yX12_areBoth ∈ tb := tb_in (List.mem_of_getElem? (i := 83) (by decide +kernel)) (by decide +kernel)
theorem wd_84 : Cond.selects RX12 yX12_mayLive yX12_mayLive ∈ tb := tb_in (List.mem_of_getElem? (i := 84) (by decide +kernel)) (by decide +kernel)
theorem wd_85 : Cond.selects RX12 yX12_reckons yX12_reckons ∈ tb := tb_in (List.mem_of_getElem? (i := 85) (by decide +kernel)) (by decide +kernel)
theorem wd_86 : Cond.selects RX12 yX12_valueOf yX12_valueOf ∈ tb := tb_in (List.mem_of_getElem? (i := 86) (by decide +kernel)) (by decide +kernel)
theorem wd_87 : Cond.selects RX12 yX12_worthOf yX12_worthOf ∈ tb := tb_in (List.mem_of_getElem? (i := 87) (by decide +kernel)) (by decide +kernel)
theorem wd_88 : Cond.selects RX12 yX12_laysMaps yX12_laysMaps ∈ tb := tb_in (List.mem_of_getElem? (i := 88) (by decide +kernel)) (by decide +kernel)
theorem wd_89 : Cond.selects RX12 yX12_laysLaws yX12_laysLaws ∈ tb := tb_in (List.mem_of_getElem? (i := 89) (by decide +kernel)) (by decide +kernel)
theorem wd_90 : Cond.selects RX12 yX12_goesMaps yX12_goesMaps ∈ tb := tb_in (List.mem_of_getElem? (i := 90) (by decide +kernel)) (by decide +kernel)
theorem wd_91 : Cond.selects RX12 yX12_keeps yX12_keeps ∈ tb := tb_in (List.mem_of_getElem? (i := 91) (by decide +kernel)) (by decide +kernel)
theorem wd_92 : Cond.selects RX12 yX12_drawsBy yX12_drawsBy ∈ tb := tb_in (List.mem_of_getElem? (i := 92) (by decide +kernel)) (by decide +kernel)
theorem wd_93 : Cond.selects RX12 yX12_notes yX12_notes ∈ tb := tb_in (List.mem_of_getElem? (i := 93) (by decide +kernel)) (by decide +kernel)
theorem wd_94 : Cond.selects RX12 yX12_goesRings yX12_goesRings ∈ tb := tb_in (List.mem_of_getElem? (i := 94) (by decide +kernel)) (by decide +kernel)
theorem wd_95 : Cond.selects RX12 yX12_laysRings yX12_laysRings ∈ tb := tb_in (List.mem_of_getElem? (i := 95) (by decide +kernel)) (by decide +kernel)
theorem wd_96 : Cond.selects RX12 yX12_pointsAt yX12_pointsAt ∈ tb := tb_in (List.mem_of_getElem? (i := 96) (by decide +kernel)) (by decide +kernel)
theorem wd_97 : Cond.selects RX12 yX12_whyMove yX12_whyMove ∈ tb := tb_in (List.mem_of_getElem? (i := 97) (by decide +kernel)) (by decide +kernel)
theorem wd_98 : Cond.selects RX12 yX12_floorOf yX12_floorOf ∈ tb := tb_in (List.mem_of_getElem? (i := 98) (by decide +kernel)) (by decide +kernel)
theorem wd_99 : Cond.selects RX12 yX12_whyLeave yX12_whyLeave ∈ tb := tb_in (List.mem_of_getElem? (i := 99) (by decide +kernel)) (by decide +kernel)
theorem wd_100 : Cond.selects RX12 yX12_whyFault yX12_whyFault ∈ tb := tb_in (List.mem_of_getElem? (i := 100) (by decide +kernel)) (by decide +kernel)
theorem wd_101 : Cond.selects RX12 yX12_noTray yX12_noTray ∈ tb := tb_in (List.mem_of_getElem? (i := 101) (by decide +kernel)) (by decide +kernel)
theorem wd_102 : Cond.selects RX12 yX12_tells yX12_tells ∈ tb := tb_in (List.mem_of_getElem? (i := 102) (by decide +kernel)) (by decide +kernel)
theorem wd_103 : Cond.selects RX12 yX12_whyNot yX12_whyNot ∈ tb := tb_in (List.mem_of_getElem? (i := 103) (by decide +kernel)) (by decide +kernel)
theorem wd_104 : Cond.selects RX12 yX12_does yX12_does ∈ tb := tb_in (List.mem_of_getElem? (i := 104) (by decide +kernel)) (by decide +kernel)
theorem wd_105 : Cond.selects RX12 yX12_away yX12_away ∈ tb := tb_in (List.mem_of_getElem? (i := 105) (by decide +kernel)) (by decide +kernel)
theorem wd_106 : Cond.selects RX12 yX12_isAgain yX12_isAgain ∈ tb := tb_in (List.mem_of_getElem? (i := 106) (by decide +kernel)) (by decide +kernel)
theorem wd_107 : Cond.selects RX12 yX12_drawn yX12_drawn ∈ tb := tb_in (List.mem_of_getElem? (i := 107) (by decide +kernel)) (by decide +kernel)
theorem wd_108 : Cond.selects RX12 yX12_draw yX12_draw ∈ tb := tb_in (List.mem_of_getElem? (i := 108) (by decide +kernel)) (by decide +kernel)
theorem wd_109 : Cond.selects RX12 yX12_withOf yX12_withOf ∈ tb := tb_in (List.mem_of_getElem? (i := 109) (by decide +kernel)) (by decide +kernel)
theorem wd_110 : Cond.selects RX12 yX12_isAbove yX12_isAbove ∈ tb := tb_in (List.mem_of_getElem? (i := 110) (by decide +kernel)) (by decide +kernel)
theorem wd_111 : Cond.selects RX12 yX12_asked yX12_asked ∈ tb := tb_in (List.mem_of_getElem? (i := 111) (by decide +kernel)) (by decide +kernel)
theorem wd_112 : Cond.selects RX12 yX12_bestMap yX12_bestMap ∈ tb := tb_in (List.mem_of_getElem? (i := 112) (by decide +kernel)) (by decide +kernel)
theorem wd_113 : Cond.selects RX12 yX12_valueIn yX12_valueIn ∈ tb := tb_in (List.mem_of_getElem? (i := 113) (by decide +kernel)) (by decide +kernel)
theorem wd_114 : Cond.selects RX12 yX12_worthIn yX12_worthIn ∈ tb := tb_in (List.mem_of_getElem? (i := 114) (by decide +kernel)) (by decide +kernel)
theorem wd_115 : Cond.selects RX12 yX12_leastIn yX12_leastIn ∈ tb := tb_in (List.mem_of_getElem? (i := 115) (by decide +kernel)) (by decide +kernel)
theorem wd_116 : Cond.selects RX12 yX12_harmIn yX12_harmIn ∈ tb := tb_in (List.mem_of_getElem? (i := 116) (by decide +kernel)) (by decide +kernel)
theorem wd_117 : Cond.selects RX12 yX12_harmOf yX12_harmOf ∈ tb := tb_in (List.mem_of_getElem? (i := 117) (by decide +kernel)) (by decide +kernel)
theorem wd_118 : Cond.selects RX12 yX12_isEnvied yX12_isEnvied ∈ tb := tb_in (List.mem_of_getElem? (i := 118) (by decide +kernel)) (by decide +kernel)
theorem wd_119 : Cond.selects RX12 yX12_moved yX12_moved ∈ tb := tb_in (List.mem_of_getElem? (i := 119) (by decide +kernel)) (by decide +kernel)
theorem wd_120 : Cond.selects RX12 yX12_goesDay yX12_goesDay ∈ tb := tb_in (List.mem_of_getElem? (i := 120) (by decide +kernel)) (by decide +kernel)
theorem wd_121 : Cond.selects RX12 yX12_isEmpty yX12_isEmpty ∈ tb := tb_in (List.mem_of_getElem? (i := 121) (by decide +kernel)) (by decide +kernel)
theorem wd_122 : Cond.selects RX12 yX12_noSeen yX12_noSeen ∈ tb := tb_in (List.mem_of_getElem? (i := 122) (by decide +kernel)) (by decide +kernel)
theorem wd_123 : Cond.selects RX12 yX12_laysSeen yX12_laysSeen ∈ tb := tb_in (List.mem_of_getElem? (i := 123) (by decide +kernel)) (by decide +kernel)
theorem wd_124 : Cond.selects RX12 yX12_isSeen yX12_isSeen ∈ tb := tb_in (List.mem_of_getElem? (i := 124) (by decide +kernel)) (by decide +kernel)
theorem wd_125 : Cond.selects RX12 yX12_whoIn yX12_whoIn ∈ tb := tb_in (List.mem_of_getElem? (i := 125) (by decide +kernel)) (by decide +kernel)
theorem wd_126 : Cond.selects RX12 yX12_mostOften yX12_mostOften ∈ tb := tb_in (List.mem_of_getElem? (i := 126) (by decide +kernel)) (by decide +kernel)
theorem wd_127 : Cond.selects RX12 yX12_faultsMany yX12_faultsMany ∈ tb := tb_in (List.mem_of_getElem? (i := 127) (by decide +kernel)) (by decide +kernel)
theorem wd_128 : Cond.initialized RL ∈ tb := tb_in (List.mem_of_getElem? (i := 128) (by decide +kernel)) (by decide +kernel)
theorem wd_129 : Cond.initialized RX11 ∈ tb := tb_in (List.mem_of_getElem? (i := 129) (by decide +kernel)) (by decide +kernel)
theorem wd_130 : Cond.initialized RX2 ∈ tb := tb_in (List.mem_of_getElem? (i := 130) (by decide +kernel)) (by decide +kernel)
theorem wd_131 : Cond.initialized RX4 ∈ tb := tb_in (List.mem_of_getElem? (i := 131) (by decide +kernel)) (by decide +kernel)
theorem wd_132 : Cond.initialized RJ7 ∈ tb := tb_in (List.mem_of_getElem? (i := 132) (by decide +kernel)) (by decide +kernel)
theorem wd_133 : Cond.initialized RX7 ∈ tb := tb_in (List.mem_of_getElem? (i := 133) (by decide +kernel)) (by decide +kernel)
theorem wd_134 : Cond.initialized RX9 ∈ tb := tb_in (List.mem_of_getElem? (i := 134) (by decide +kernel)) (by decide +kernel)
theorem wd_135 : Cond.initialized RX5 ∈ tb := tb_in (List.mem_of_getElem? (i := 135) (by decide +kernel)) (by decide +kernel)
theorem wd_136 : Cond.initialized RX8 ∈ tb := tb_in (List.mem_of_getElem? (i := 136) (by decide +kernel)) (by decide +kernel)
theorem wd_137 : Cond.initialized RX6 ∈ tb := tb_in (List.mem_of_getElem? (i := 137) (by decide +kernel)) (by decide +kernel)
theorem wd_138 : Cond.initialized RX3 ∈ tb := tb_in (List.mem_of_getElem? (i := 138) (by decide +kernel)) (by decide +kernel)
theorem wd_139 : Cond.initialized RX0 ∈ tb := tb_in (List.mem_of_getElem? (i := 139) (by decide +kernel)) (by decide +kernel)
theorem wd_140 : Cond.initialized RX1 ∈ tb := tb_in (List.mem_of_getElem? (i := 140) (by decide +kernel)) (by decide +kernel)
theorem wd_141 : Cond.initialized RX10 ∈ tb := tb_in (List.mem_of_getElem? (i := 141) (by decide +kernel)) (by decide +kernel)
theorem wd_142 : Cond.initialized RX12 ∈ tb := tb_in (List.mem_of_getElem? (i := 142) (by decide +kernel)) (by decide +kernel)
theorem wd_143 : Cond.initialized "java/lang/Math" ∈ tb := tb_in (List.mem_of_getElem? (i := 143) (by decide +kernel)) (by decide +kernel)
theorem wd_149 : Cond.initialized "java/lang/System" ∈ tb := tb_in (List.mem_of_getElem? (i := 149) (by decide +kernel)) (by decide +kernel)
theorem wd_150 : Cond.initialized RJ6 ∈ tb := tb_in (List.mem_of_getElem? (i := 150) (by decide +kernel)) (by decide +kernel)
theorem wd_151 : Cond.classLink RL 7 RX11 ∈ tb := tb_in (List.mem_of_getElem? (i := 151) (by decide +kernel)) (by decide +kernel)
theorem wd_152 : Cond.instantiable RX11 18 ∈ tb := tb_in (List.mem_of_getElem? (i := 152) (by decide +kernel)) (by decide +kernel)
theorem wd_153 : Cond.methodLink RL 9 yX11_init ∈ tb := tb_in (List.mem_of_getElem? (i := 153) (by decide +kernel)) (by decide +kernel)
theorem wd_154 : Cond.instanceMethod yX11_init ∈ tb := tb_in (List.mem_of_getElem? (i := 154) (by decide +kernel)) (by decide +kernel)
theorem wd_155 : Cond.code yX11_init cX11_init 2 none ∈ tb := tb_in (List.mem_of_getElem? (i := 155) (by decide +kernel)) (by decide +kernel)
theorem wd_156 : Cond.methodLink RX11 3 objectInit ∈ tb := tb_in (List.mem_of_getElem? (i := 156) (by decide +kernel)) (by decide +kernel)
theorem wd_157 : Cond.instanceMethod objectInit ∈ tb := tb_in (List.mem_of_getElem? (i := 157) (by decide +kernel)) (by decide +kernel)
theorem wd_158 : Cond.code objectInit ⟨#[0xb1]⟩ 1 none ∈ tb := tb_in (List.mem_of_getElem? (i := 158) (by decide +kernel)) (by decide +kernel)
theorem wd_159 : Cond.classLink RX11 17 RX2 ∈ tb := tb_in (List.mem_of_getElem? (i := 159) (by decide +kernel)) (by decide +kernel)
theorem wd_160 : Cond.instantiable RX2 13 ∈ tb := tb_in (List.mem_of_getElem? (i := 160) (by decide +kernel)) (by decide +kernel)
theorem wd_162 : Cond.instanceMethod yX2_init ∈ tb := tb_in (List.mem_of_getElem? (i := 162) (by decide +kernel)) (by decide +kernel)
theorem wd_163 : Cond.code yX2_init cX2_init 1 none ∈ tb := tb_in (List.mem_of_getElem? (i := 163) (by decide +kernel)) (by decide +kernel)
theorem wd_164 : Cond.methodLink RX2 3 objectInit ∈ tb := tb_in (List.mem_of_getElem? (i := 164) (by decide +kernel)) (by decide +kernel)
theorem wd_165 : Cond.classLink RX2 46 RX4 ∈ tb := tb_in (List.mem_of_getElem? (i := 165) (by decide +kernel)) (by decide +kernel)
theorem wd_166 : Cond.instantiable RX4 4 ∈ tb := tb_in (List.mem_of_getElem? (i := 166) (by decide +kernel)) (by decide +kernel)
theorem wd_167 : Cond.methodLink RX2 48 yX4_init ∈ tb := tb_in (List.mem_of_getElem? (i := 167) (by decide +kernel)) (by decide +kernel)
theorem wd_168 : Cond.instanceMethod yX4_init ∈ tb := tb_in (List.mem_of_getElem? (i := 168) (by decide +kernel)) (by decide +kernel)
theorem wd_169 : Cond.code yX4_init cX4_init 1 none ∈ tb := tb_in (List.mem_of_getElem? (i := 169) (by decide +kernel)) (by decide +kernel)
theorem wd_170 : Cond.methodLink RX4 3 objectInit ∈ tb := tb_in (List.mem_of_getElem? (i := 170) (by decide +kernel)) (by decide +kernel)
theorem wd_171 : Cond.methodLink RX4 25 yJ7_fill_53178 ∈ tb := tb_in (List.mem_of_getElem? (i := 171) (by decide +kernel)) (by decide +kernel)
theorem wd_172 : Cond.static yJ7_fill_53178 ∈ tb := tb_in (List.mem_of_getElem? (i := 172) (by decide +kernel)) (by decide +kernel)
theorem wd_173 : Cond.code yJ7_fill_53178 cJ7_fill_53178 4 none ∈ tb := tb_in (List.mem_of_getElem? (i := 173) (by decide +kernel)) (by decide +kernel)
theorem wd_174 : Cond.fieldLink RX4 9 RX4 "home" "[I" ∈ tb := tb_in (List.mem_of_getElem? (i := 174) (by decide +kernel)) (by decide +kernel)
theorem wd_175 : Cond.fieldLink RX8 42 RX4 "home" "[I" ∈ tb := tb_in (List.mem_of_getElem? (i := 175) (by decide +kernel)) (by decide +kernel)
theorem wd_176 : Cond.fieldLink RX0 74 RX4 "home" "[I" ∈ tb := tb_in (List.mem_of_getElem? (i := 176) (by decide +kernel)) (by decide +kernel)
theorem wd_177 : Cond.fieldLink RX3 78 RX4 "home" "[I" ∈ tb := tb_in (List.mem_of_getElem? (i := 177) (by decide +kernel)) (by decide +kernel)
theorem wd_178 : Cond.fieldLink RX9 69 RX4 "home" "[I" ∈ tb := tb_in (List.mem_of_getElem? (i := 178) (by decide +kernel)) (by decide +kernel)
theorem wd_179 : Cond.fieldLink RX2 78 RX4 "home" "[I" ∈ tb := tb_in (List.mem_of_getElem? (i := 179) (by decide +kernel)) (by decide +kernel)
theorem wd_180 : Cond.fieldLink RX7 124 RX4 "home" "[I" ∈ tb := tb_in (List.mem_of_getElem? (i := 180) (by decide +kernel)) (by decide +kernel)
theorem wd_181 : Cond.fieldLink RX11 167 RX4 "home" "[I" ∈ tb := tb_in (List.mem_of_getElem? (i := 181) (by decide +kernel)) (by decide +kernel)
theorem wd_182 : Cond.fieldLink RX4 15 RX4 "drawn" "[I" ∈ tb := tb_in (List.mem_of_getElem? (i := 182) (by decide +kernel)) (by decide +kernel)
theorem wd_183 : Cond.fieldLink RX9 87 RX4 "drawn" "[I" ∈ tb := tb_in (List.mem_of_getElem? (i := 183) (by decide +kernel)) (by decide +kernel)
theorem wd_184 : Cond.fieldLink RX0 98 RX4 "drawn" "[I" ∈ tb := tb_in (List.mem_of_getElem? (i := 184) (by decide +kernel)) (by decide +kernel)
theorem wd_185 : Cond.fieldLink RX11 174 RX4 "drawn" "[I" ∈ tb := tb_in (List.mem_of_getElem? (i := 185) (by decide +kernel)) (by decide +kernel)
theorem wd_186 : Cond.fieldLink RX4 18 RX4 "faults" "[I" ∈ tb := tb_in (List.mem_of_getElem? (i := 186) (by decide +kernel)) (by decide +kernel)
theorem wd_187 : Cond.fieldLink RX0 79 RX4 "faults" "[I" ∈ tb := tb_in (List.mem_of_getElem? (i := 187) (by decide +kernel)) (by decide +kernel)
theorem wd_188 : Cond.fieldLink RX7 113 RX4 "faults" "[I" ∈ tb := tb_in (List.mem_of_getElem? (i := 188) (by decide +kernel)) (by decide +kernel)
theorem wd_189 : Cond.fieldLink RX2 75 RX4 "faults" "[I" ∈ tb := tb_in (List.mem_of_getElem? (i := 189) (by decide +kernel)) (by decide +kernel)
theorem wd_190 : Cond.fieldLink RX9 81 RX4 "faults" "[I" ∈ tb := tb_in (List.mem_of_getElem? (i := 190) (by decide +kernel)) (by decide +kernel)
theorem wd_191 : Cond.fieldLink RX11 154 RX4 "faults" "[I" ∈ tb := tb_in (List.mem_of_getElem? (i := 191) (by decide +kernel)) (by decide +kernel)
theorem wd_192 : Cond.fieldLink RX4 21 RX4 "quarter" "I" ∈ tb := tb_in (List.mem_of_getElem? (i := 192) (by decide +kernel)) (by decide +kernel)
theorem wd_193 : Cond.fieldLink RX9 90 RX4 "quarter" "I" ∈ tb := tb_in (List.mem_of_getElem? (i := 193) (by decide +kernel)) (by decide +kernel)
theorem wd_194 : Cond.fieldLink RX0 101 RX4 "quarter" "I" ∈ tb := tb_in (List.mem_of_getElem? (i := 194) (by decide +kernel)) (by decide +kernel)
theorem wd_195 : Cond.fieldLink RX7 152 RX4 "quarter" "I" ∈ tb := tb_in (List.mem_of_getElem? (i := 195) (by decide +kernel)) (by decide +kernel)
theorem wd_196 : Cond.fieldLink RX11 257 RX4 "quarter" "I" ∈ tb := tb_in (List.mem_of_getElem? (i := 196) (by decide +kernel)) (by decide +kernel)
theorem wd_206 : Cond.arrayClass .byte ∈ tb := tb_in (List.mem_of_getElem? (i := 206) (by decide +kernel)) (by decide +kernel)
theorem wd_207 : Cond.arrayClass .int ∈ tb := tb_in (List.mem_of_getElem? (i := 207) (by decide +kernel)) (by decide +kernel)
theorem wd_208 : Cond.fieldLink RX2 9 RX2 "lines" "I" ∈ tb := tb_in (List.mem_of_getElem? (i := 208) (by decide +kernel)) (by decide +kernel)
theorem wd_209 : Cond.fieldLink RX7 82 RX2 "lines" "I" ∈ tb := tb_in (List.mem_of_getElem? (i := 209) (by decide +kernel)) (by decide +kernel)
theorem wd_210 : Cond.fieldLink RX11 137 RX2 "lines" "I" ∈ tb := tb_in (List.mem_of_getElem? (i := 210) (by decide +kernel)) (by decide +kernel)
theorem wd_211 : Cond.fieldLink RX2 15 RX2 "flats" "I" ∈ tb := tb_in (List.mem_of_getElem? (i := 211) (by decide +kernel)) (by decide +kernel)
theorem wd_212 : Cond.fieldLink RX6 38 RX2 "flats" "I" ∈ tb := tb_in (List.mem_of_getElem? (i := 212) (by decide +kernel)) (by decide +kernel)
theorem wd_213 : Cond.fieldLink RX0 50 RX2 "flats" "I" ∈ tb := tb_in (List.mem_of_getElem? (i := 213) (by decide +kernel)) (by decide +kernel)
theorem wd_214 : Cond.fieldLink RX9 42 RX2 "flats" "I" ∈ tb := tb_in (List.mem_of_getElem? (i := 214) (by decide +kernel)) (by decide +kernel)
theorem wd_215 : Cond.fieldLink RX7 85 RX2 "flats" "I" ∈ tb := tb_in (List.mem_of_getElem? (i := 215) (by decide +kernel)) (by decide +kernel)
theorem wd_216 : Cond.fieldLink RX8 56 RX2 "flats" "I" ∈ tb := tb_in (List.mem_of_getElem? (i := 216) (by decide +kernel)) (by decide +kernel)
theorem wd_217 : Cond.fieldLink RX11 187 RX2 "flats" "I" ∈ tb := tb_in (List.mem_of_getElem? (i := 217) (by decide +kernel)) (by decide +kernel)
theorem wd_218 : Cond.fieldLink RX2 18 RX2 "households" "I" ∈ tb := tb_in (List.mem_of_getElem? (i := 218) (by decide +kernel)) (by decide +kernel)
theorem wd_219 : Cond.fieldLink RX0 45 RX2 "households" "I" ∈ tb := tb_in (List.mem_of_getElem? (i := 219) (by decide +kernel)) (by decide +kernel)
theorem wd_220 : Cond.fieldLink RX8 33 RX2 "households" "I" ∈ tb := tb_in (List.mem_of_getElem? (i := 220) (by decide +kernel)) (by decide +kernel)
theorem wd_221 : Cond.fieldLink RX9 39 RX2 "households" "I" ∈ tb := tb_in (List.mem_of_getElem? (i := 221) (by decide +kernel)) (by decide +kernel)
theorem wd_222 : Cond.fieldLink RX3 69 RX2 "households" "I" ∈ tb := tb_in (List.mem_of_getElem? (i := 222) (by decide +kernel)) (by decide +kernel)
theorem wd_223 : Cond.fieldLink RX7 118 RX2 "households" "I" ∈ tb := tb_in (List.mem_of_getElem? (i := 223) (by decide +kernel)) (by decide +kernel)
theorem wd_224 : Cond.fieldLink RX6 71 RX2 "households" "I" ∈ tb := tb_in (List.mem_of_getElem? (i := 224) (by decide +kernel)) (by decide +kernel)
theorem wd_225 : Cond.fieldLink RX11 190 RX2 "households" "I" ∈ tb := tb_in (List.mem_of_getElem? (i := 225) (by decide +kernel)) (by decide +kernel)
theorem wd_226 : Cond.fieldLink RX2 21 RX2 "features" "[I" ∈ tb := tb_in (List.mem_of_getElem? (i := 226) (by decide +kernel)) (by decide +kernel)
theorem wd_227 : Cond.fieldLink RX7 102 RX2 "features" "[I" ∈ tb := tb_in (List.mem_of_getElem? (i := 227) (by decide +kernel)) (by decide +kernel)
theorem wd_228 : Cond.fieldLink RX2 25 RX2 "traits" "[I" ∈ tb := tb_in (List.mem_of_getElem? (i := 228) (by decide +kernel)) (by decide +kernel)
theorem wd_229 : Cond.fieldLink RX7 121 RX2 "traits" "[I" ∈ tb := tb_in (List.mem_of_getElem? (i := 229) (by decide +kernel)) (by decide +kernel)
theorem wd_230 : Cond.fieldLink RX2 28 RX2 "code" "[I" ∈ tb := tb_in (List.mem_of_getElem? (i := 230) (by decide +kernel)) (by decide +kernel)
theorem wd_231 : Cond.fieldLink RX9 93 RX2 "code" "[I" ∈ tb := tb_in (List.mem_of_getElem? (i := 231) (by decide +kernel)) (by decide +kernel)
theorem wd_232 : Cond.fieldLink RX7 170 RX2 "code" "[I" ∈ tb := tb_in (List.mem_of_getElem? (i := 232) (by decide +kernel)) (by decide +kernel)
theorem wd_233 : Cond.fieldLink RX2 31 RX2 "codeLength" "I" ∈ tb := tb_in (List.mem_of_getElem? (i := 233) (by decide +kernel)) (by decide +kernel)
theorem wd_234 : Cond.fieldLink RX7 131 RX2 "codeLength" "I" ∈ tb := tb_in (List.mem_of_getElem? (i := 234) (by decide +kernel)) (by decide +kernel)
theorem wd_235 : Cond.fieldLink RX2 34 RX2 "mayFrom" "I" ∈ tb := tb_in (List.mem_of_getElem? (i := 235) (by decide +kernel)) (by decide +kernel)
theorem wd_236 : Cond.fieldLink RX9 49 RX2 "mayFrom" "I" ∈ tb := tb_in (List.mem_of_getElem? (i := 236) (by decide +kernel)) (by decide +kernel)
theorem wd_237 : Cond.fieldLink RX7 137 RX2 "mayFrom" "I" ∈ tb := tb_in (List.mem_of_getElem? (i := 237) (by decide +kernel)) (by decide +kernel)
theorem wd_238 : Cond.fieldLink RX2 37 RX2 "mayTo" "I" ∈ tb := tb_in (List.mem_of_getElem? (i := 238) (by decide +kernel)) (by decide +kernel)
theorem wd_239 : Cond.fieldLink RX9 52 RX2 "mayTo" "I" ∈ tb := tb_in (List.mem_of_getElem? (i := 239) (by decide +kernel)) (by decide +kernel)
theorem wd_240 : Cond.fieldLink RX7 140 RX2 "mayTo" "I" ∈ tb := tb_in (List.mem_of_getElem? (i := 240) (by decide +kernel)) (by decide +kernel)
theorem wd_241 : Cond.fieldLink RX2 40 RX2 "worthFrom" "I" ∈ tb := tb_in (List.mem_of_getElem? (i := 241) (by decide +kernel)) (by decide +kernel)
theorem wd_242 : Cond.fieldLink RX9 59 RX2 "worthFrom" "I" ∈ tb := tb_in (List.mem_of_getElem? (i := 242) (by decide +kernel)) (by decide +kernel)
theorem wd_243 : Cond.fieldLink RX7 146 RX2 "worthFrom" "I" ∈ tb := tb_in (List.mem_of_getElem? (i := 243) (by decide +kernel)) (by decide +kernel)
theorem wd_244 : Cond.fieldLink RX2 43 RX2 "worthTo" "I" ∈ tb := tb_in (List.mem_of_getElem? (i := 244) (by decide +kernel)) (by decide +kernel)
theorem wd_245 : Cond.fieldLink RX9 62 RX2 "worthTo" "I" ∈ tb := tb_in (List.mem_of_getElem? (i := 245) (by decide +kernel)) (by decide +kernel)
theorem wd_246 : Cond.fieldLink RX7 149 RX2 "worthTo" "I" ∈ tb := tb_in (List.mem_of_getElem? (i := 246) (by decide +kernel)) (by decide +kernel)
theorem wd_247 : Cond.fieldLink RX2 49 RX2 "living" "LFloorsByLot$Living;" ∈ tb := tb_in (List.mem_of_getElem? (i := 247) (by decide +kernel)) (by decide +kernel)
theorem wd_248 : Cond.fieldLink RX8 38 RX2 "living" "LFloorsByLot$Living;" ∈ tb := tb_in (List.mem_of_getElem? (i := 248) (by decide +kernel)) (by decide +kernel)
theorem wd_249 : Cond.fieldLink RX0 70 RX2 "living" "LFloorsByLot$Living;" ∈ tb := tb_in (List.mem_of_getElem? (i := 249) (by decide +kernel)) (by decide +kernel)
theorem wd_250 : Cond.fieldLink RX3 74 RX2 "living" "LFloorsByLot$Living;" ∈ tb := tb_in (List.mem_of_getElem? (i := 250) (by decide +kernel)) (by decide +kernel)
theorem wd_251 : Cond.fieldLink RX9 65 RX2 "living" "LFloorsByLot$Living;" ∈ tb := tb_in (List.mem_of_getElem? (i := 251) (by decide +kernel)) (by decide +kernel)
theorem wd_252 : Cond.fieldLink RX7 109 RX2 "living" "LFloorsByLot$Living;" ∈ tb := tb_in (List.mem_of_getElem? (i := 252) (by decide +kernel)) (by decide +kernel)
theorem wd_253 : Cond.fieldLink RX11 151 RX2 "living" "LFloorsByLot$Living;" ∈ tb := tb_in (List.mem_of_getElem? (i := 253) (by decide +kernel)) (by decide +kernel)
theorem wd_254 : Cond.fieldLink RX2 53 RX2 "change" "I" ∈ tb := tb_in (List.mem_of_getElem? (i := 254) (by decide +kernel)) (by decide +kernel)
theorem wd_255 : Cond.fieldLink RX9 34 RX2 "change" "I" ∈ tb := tb_in (List.mem_of_getElem? (i := 255) (by decide +kernel)) (by decide +kernel)
theorem wd_256 : Cond.fieldLink RX6 57 RX2 "change" "I" ∈ tb := tb_in (List.mem_of_getElem? (i := 256) (by decide +kernel)) (by decide +kernel)
theorem wd_257 : Cond.fieldLink RX0 104 RX2 "change" "I" ∈ tb := tb_in (List.mem_of_getElem? (i := 257) (by decide +kernel)) (by decide +kernel)
theorem wd_258 : Cond.fieldLink RX11 372 RX2 "change" "I" ∈ tb := tb_in (List.mem_of_getElem? (i := 258) (by decide +kernel)) (by decide +kernel)
theorem wd_286 : Cond.classLink RX11 24 RX7 ∈ tb := tb_in (List.mem_of_getElem? (i := 286) (by decide +kernel)) (by decide +kernel)
theorem wd_287 : Cond.instantiable RX7 9 ∈ tb := tb_in (List.mem_of_getElem? (i := 287) (by decide +kernel)) (by decide +kernel)
theorem wd_289 : Cond.instanceMethod yX7_init ∈ tb := tb_in (List.mem_of_getElem? (i := 289) (by decide +kernel)) (by decide +kernel)
theorem wd_290 : Cond.code yX7_init cX7_init 1 none ∈ tb := tb_in (List.mem_of_getElem? (i := 290) (by decide +kernel)) (by decide +kernel)
theorem wd_291 : Cond.methodLink RX7 5 objectInit ∈ tb := tb_in (List.mem_of_getElem? (i := 291) (by decide +kernel)) (by decide +kernel)
theorem wd_292 : Cond.classLink RX7 11 RX2 ∈ tb := tb_in (List.mem_of_getElem? (i := 292) (by decide +kernel)) (by decide +kernel)
theorem wd_294 : Cond.fieldLink RX7 14 RX7 "told" "LFloorsByLot$House;" ∈ tb := tb_in (List.mem_of_getElem? (i := 294) (by decide +kernel)) (by decide +kernel)
theorem wd_295 : Cond.fieldLink RX11 128 RX7 "told" "LFloorsByLot$House;" ∈ tb := tb_in (List.mem_of_getElem? (i := 295) (by decide +kernel)) (by decide +kernel)
theorem wd_296 : Cond.fieldLink RX7 18 RX7 "fault" "I" ∈ tb := tb_in (List.mem_of_getElem? (i := 296) (by decide +kernel)) (by decide +kernel)
theorem wd_297 : Cond.fieldLink RX11 125 RX7 "fault" "I" ∈ tb := tb_in (List.mem_of_getElem? (i := 297) (by decide +kernel)) (by decide +kernel)
theorem wd_298 : Cond.fieldLink RX7 22 RX7 "faultPlace" "I" ∈ tb := tb_in (List.mem_of_getElem? (i := 298) (by decide +kernel)) (by decide +kernel)
theorem wd_299 : Cond.fieldLink RX11 140 RX7 "faultPlace" "I" ∈ tb := tb_in (List.mem_of_getElem? (i := 299) (by decide +kernel)) (by decide +kernel)
theorem wd_300 : Cond.fieldLink RX7 25 RX7 "text" "[B" ∈ tb := tb_in (List.mem_of_getElem? (i := 300) (by decide +kernel)) (by decide +kernel)
theorem wd_301 : Cond.fieldLink RX7 29 RX7 "length" "I" ∈ tb := tb_in (List.mem_of_getElem? (i := 301) (by decide +kernel)) (by decide +kernel)
theorem wd_302 : Cond.fieldLink RX7 32 RX7 "at" "I" ∈ tb := tb_in (List.mem_of_getElem? (i := 302) (by decide +kernel)) (by decide +kernel)
theorem wd_303 : Cond.fieldLink RX7 35 RX7 "token" "I" ∈ tb := tb_in (List.mem_of_getElem? (i := 303) (by decide +kernel)) (by decide +kernel)
theorem wd_304 : Cond.fieldLink RX7 38 RX7 "value" "I" ∈ tb := tb_in (List.mem_of_getElem? (i := 304) (by decide +kernel)) (by decide +kernel)
theorem wd_305 : Cond.fieldLink RX7 41 RX7 "place" "I" ∈ tb := tb_in (List.mem_of_getElem? (i := 305) (by decide +kernel)) (by decide +kernel)
theorem wd_325 : Cond.classLink RX11 31 RX9 ∈ tb := tb_in (List.mem_of_getElem? (i := 325) (by decide +kernel)) (by decide +kernel)
theorem wd_326 : Cond.instantiable RX9 6 ∈ tb := tb_in (List.mem_of_getElem? (i := 326) (by decide +kernel)) (by decide +kernel)
theorem wd_327 : Cond.methodLink RX11 33 yX9_init ∈ tb := tb_in (List.mem_of_getElem? (i := 327) (by decide +kernel)) (by decide +kernel)
theorem wd_328 : Cond.instanceMethod yX9_init ∈ tb := tb_in (List.mem_of_getElem? (i := 328) (by decide +kernel)) (by decide +kernel)
theorem wd_329 : Cond.code yX9_init cX9_init 2 none ∈ tb := tb_in (List.mem_of_getElem? (i := 329) (by decide +kernel)) (by decide +kernel)
theorem wd_330 : Cond.methodLink RX9 3 objectInit ∈ tb := tb_in (List.mem_of_getElem? (i := 330) (by decide +kernel)) (by decide +kernel)
theorem wd_331 : Cond.fieldLink RX9 9 RX9 "allowed" "[I" ∈ tb := tb_in (List.mem_of_getElem? (i := 331) (by decide +kernel)) (by decide +kernel)
theorem wd_332 : Cond.fieldLink RX0 85 RX9 "allowed" "[I" ∈ tb := tb_in (List.mem_of_getElem? (i := 332) (by decide +kernel)) (by decide +kernel)
theorem wd_333 : Cond.fieldLink RX11 306 RX9 "allowed" "[I" ∈ tb := tb_in (List.mem_of_getElem? (i := 333) (by decide +kernel)) (by decide +kernel)
theorem wd_334 : Cond.fieldLink RX9 15 RX9 "worths" "[I" ∈ tb := tb_in (List.mem_of_getElem? (i := 334) (by decide +kernel)) (by decide +kernel)
theorem wd_335 : Cond.fieldLink RX8 68 RX9 "worths" "[I" ∈ tb := tb_in (List.mem_of_getElem? (i := 335) (by decide +kernel)) (by decide +kernel)
theorem wd_336 : Cond.fieldLink RX11 184 RX9 "worths" "[I" ∈ tb := tb_in (List.mem_of_getElem? (i := 336) (by decide +kernel)) (by decide +kernel)
theorem wd_337 : Cond.fieldLink RX9 30 RX9 "house" "LFloorsByLot$House;" ∈ tb := tb_in (List.mem_of_getElem? (i := 337) (by decide +kernel)) (by decide +kernel)
theorem wd_338 : Cond.fieldLink RX9 20 RX9 "known" "[I" ∈ tb := tb_in (List.mem_of_getElem? (i := 338) (by decide +kernel)) (by decide +kernel)
theorem wd_339 : Cond.fieldLink RX9 23 RX9 "stack" "[I" ∈ tb := tb_in (List.mem_of_getElem? (i := 339) (by decide +kernel)) (by decide +kernel)
theorem wd_340 : Cond.fieldLink RX9 26 RX9 "filledFor" "I" ∈ tb := tb_in (List.mem_of_getElem? (i := 340) (by decide +kernel)) (by decide +kernel)
theorem wd_354 : Cond.classLink RX11 40 RX5 ∈ tb := tb_in (List.mem_of_getElem? (i := 354) (by decide +kernel)) (by decide +kernel)
theorem wd_355 : Cond.instantiable RX5 7 ∈ tb := tb_in (List.mem_of_getElem? (i := 355) (by decide +kernel)) (by decide +kernel)
theorem wd_357 : Cond.instanceMethod yX5_init ∈ tb := tb_in (List.mem_of_getElem? (i := 357) (by decide +kernel)) (by decide +kernel)
theorem wd_358 : Cond.code yX5_init cX5_init 1 none ∈ tb := tb_in (List.mem_of_getElem? (i := 358) (by decide +kernel)) (by decide +kernel)
theorem wd_359 : Cond.methodLink RX5 3 objectInit ∈ tb := tb_in (List.mem_of_getElem? (i := 359) (by decide +kernel)) (by decide +kernel)
theorem wd_360 : Cond.fieldLink RX5 9 RX5 "having" "[I" ∈ tb := tb_in (List.mem_of_getElem? (i := 360) (by decide +kernel)) (by decide +kernel)
theorem wd_361 : Cond.fieldLink RX11 299 RX5 "having" "[I" ∈ tb := tb_in (List.mem_of_getElem? (i := 361) (by decide +kernel)) (by decide +kernel)
theorem wd_362 : Cond.fieldLink RX5 15 RX5 "onward" "[I" ∈ tb := tb_in (List.mem_of_getElem? (i := 362) (by decide +kernel)) (by decide +kernel)
theorem wd_363 : Cond.fieldLink RX5 18 RX5 "hither" "[I" ∈ tb := tb_in (List.mem_of_getElem? (i := 363) (by decide +kernel)) (by decide +kernel)
theorem wd_364 : Cond.fieldLink RX5 21 RX5 "value" "[I" ∈ tb := tb_in (List.mem_of_getElem? (i := 364) (by decide +kernel)) (by decide +kernel)
theorem wd_365 : Cond.fieldLink RX5 24 RX5 "lawful" "[I" ∈ tb := tb_in (List.mem_of_getElem? (i := 365) (by decide +kernel)) (by decide +kernel)
theorem wd_366 : Cond.fieldLink RX5 27 RX5 "households" "I" ∈ tb := tb_in (List.mem_of_getElem? (i := 366) (by decide +kernel)) (by decide +kernel)
theorem wd_367 : Cond.fieldLink RX5 31 RX5 "flats" "I" ∈ tb := tb_in (List.mem_of_getElem? (i := 367) (by decide +kernel)) (by decide +kernel)
theorem wd_383 : Cond.classLink RX11 47 RX8 ∈ tb := tb_in (List.mem_of_getElem? (i := 383) (by decide +kernel)) (by decide +kernel)
theorem wd_384 : Cond.instantiable RX8 6 ∈ tb := tb_in (List.mem_of_getElem? (i := 384) (by decide +kernel)) (by decide +kernel)
theorem wd_385 : Cond.methodLink RX11 49 yX8_init ∈ tb := tb_in (List.mem_of_getElem? (i := 385) (by decide +kernel)) (by decide +kernel)
theorem wd_386 : Cond.instanceMethod yX8_init ∈ tb := tb_in (List.mem_of_getElem? (i := 386) (by decide +kernel)) (by decide +kernel)
theorem wd_387 : Cond.code yX8_init cX8_init 3 none ∈ tb := tb_in (List.mem_of_getElem? (i := 387) (by decide +kernel)) (by decide +kernel)
theorem wd_388 : Cond.methodLink RX8 3 objectInit ∈ tb := tb_in (List.mem_of_getElem? (i := 388) (by decide +kernel)) (by decide +kernel)
theorem wd_389 : Cond.fieldLink RX8 9 RX8 "gets" "[I" ∈ tb := tb_in (List.mem_of_getElem? (i := 389) (by decide +kernel)) (by decide +kernel)
theorem wd_390 : Cond.fieldLink RX0 115 RX8 "gets" "[I" ∈ tb := tb_in (List.mem_of_getElem? (i := 390) (by decide +kernel)) (by decide +kernel)
theorem wd_391 : Cond.fieldLink RX11 361 RX8 "gets" "[I" ∈ tb := tb_in (List.mem_of_getElem? (i := 391) (by decide +kernel)) (by decide +kernel)
theorem wd_392 : Cond.fieldLink RX8 15 RX8 "many" "I" ∈ tb := tb_in (List.mem_of_getElem? (i := 392) (by decide +kernel)) (by decide +kernel)
theorem wd_393 : Cond.fieldLink RX11 364 RX8 "many" "I" ∈ tb := tb_in (List.mem_of_getElem? (i := 393) (by decide +kernel)) (by decide +kernel)
theorem wd_394 : Cond.fieldLink RX8 19 RX8 "moved" "I" ∈ tb := tb_in (List.mem_of_getElem? (i := 394) (by decide +kernel)) (by decide +kernel)
theorem wd_395 : Cond.fieldLink RX0 112 RX8 "moved" "I" ∈ tb := tb_in (List.mem_of_getElem? (i := 395) (by decide +kernel)) (by decide +kernel)
theorem wd_396 : Cond.fieldLink RX11 210 RX8 "moved" "I" ∈ tb := tb_in (List.mem_of_getElem? (i := 396) (by decide +kernel)) (by decide +kernel)
theorem wd_397 : Cond.fieldLink RX8 22 RX8 "points" "[I" ∈ tb := tb_in (List.mem_of_getElem? (i := 397) (by decide +kernel)) (by decide +kernel)
theorem wd_398 : Cond.fieldLink RX8 25 RX8 "house" "LFloorsByLot$House;" ∈ tb := tb_in (List.mem_of_getElem? (i := 398) (by decide +kernel)) (by decide +kernel)
theorem wd_399 : Cond.fieldLink RX8 29 RX8 "table" "LFloorsByLot$Table;" ∈ tb := tb_in (List.mem_of_getElem? (i := 399) (by decide +kernel)) (by decide +kernel)
theorem wd_413 : Cond.classLink RX11 56 RX6 ∈ tb := tb_in (List.mem_of_getElem? (i := 413) (by decide +kernel)) (by decide +kernel)
theorem wd_414 : Cond.instantiable RX6 8 ∈ tb := tb_in (List.mem_of_getElem? (i := 414) (by decide +kernel)) (by decide +kernel)
theorem wd_415 : Cond.methodLink RX11 58 yX6_init ∈ tb := tb_in (List.mem_of_getElem? (i := 415) (by decide +kernel)) (by decide +kernel)
theorem wd_416 : Cond.instanceMethod yX6_init ∈ tb := tb_in (List.mem_of_getElem? (i := 416) (by decide +kernel)) (by decide +kernel)
theorem wd_417 : Cond.code yX6_init cX6_init 2 none ∈ tb := tb_in (List.mem_of_getElem? (i := 417) (by decide +kernel)) (by decide +kernel)
theorem wd_418 : Cond.methodLink RX6 3 objectInit ∈ tb := tb_in (List.mem_of_getElem? (i := 418) (by decide +kernel)) (by decide +kernel)
theorem wd_419 : Cond.fieldLink RX6 9 RX6 "least" "I" ∈ tb := tb_in (List.mem_of_getElem? (i := 419) (by decide +kernel)) (by decide +kernel)
theorem wd_420 : Cond.fieldLink RX11 339 RX6 "least" "I" ∈ tb := tb_in (List.mem_of_getElem? (i := 420) (by decide +kernel)) (by decide +kernel)
theorem wd_421 : Cond.fieldLink RX6 15 RX6 "chosen" "[I" ∈ tb := tb_in (List.mem_of_getElem? (i := 421) (by decide +kernel)) (by decide +kernel)
theorem wd_422 : Cond.fieldLink RX11 342 RX6 "chosen" "[I" ∈ tb := tb_in (List.mem_of_getElem? (i := 422) (by decide +kernel)) (by decide +kernel)
theorem wd_423 : Cond.fieldLink RX6 34 RX6 "house" "LFloorsByLot$House;" ∈ tb := tb_in (List.mem_of_getElem? (i := 423) (by decide +kernel)) (by decide +kernel)
theorem wd_424 : Cond.fieldLink RX6 19 RX6 "below" "[I" ∈ tb := tb_in (List.mem_of_getElem? (i := 424) (by decide +kernel)) (by decide +kernel)
theorem wd_425 : Cond.fieldLink RX6 22 RX6 "above" "[I" ∈ tb := tb_in (List.mem_of_getElem? (i := 425) (by decide +kernel)) (by decide +kernel)
theorem wd_426 : Cond.fieldLink RX6 25 RX6 "dweller" "[I" ∈ tb := tb_in (List.mem_of_getElem? (i := 426) (by decide +kernel)) (by decide +kernel)
theorem wd_427 : Cond.fieldLink RX6 28 RX6 "trial" "[I" ∈ tb := tb_in (List.mem_of_getElem? (i := 427) (by decide +kernel)) (by decide +kernel)
theorem wd_428 : Cond.fieldLink RX6 31 RX6 "soughtFor" "I" ∈ tb := tb_in (List.mem_of_getElem? (i := 428) (by decide +kernel)) (by decide +kernel)
theorem wd_446 : Cond.classLink RX11 63 RX3 ∈ tb := tb_in (List.mem_of_getElem? (i := 446) (by decide +kernel)) (by decide +kernel)
theorem wd_447 : Cond.instantiable RX3 10 ∈ tb := tb_in (List.mem_of_getElem? (i := 447) (by decide +kernel)) (by decide +kernel)
theorem wd_448 : Cond.methodLink RX11 65 yX3_init ∈ tb := tb_in (List.mem_of_getElem? (i := 448) (by decide +kernel)) (by decide +kernel)
theorem wd_449 : Cond.instanceMethod yX3_init ∈ tb := tb_in (List.mem_of_getElem? (i := 449) (by decide +kernel)) (by decide +kernel)
theorem wd_450 : Cond.code yX3_init cX3_init 2 none ∈ tb := tb_in (List.mem_of_getElem? (i := 450) (by decide +kernel)) (by decide +kernel)
theorem wd_451 : Cond.methodLink RX3 5 objectInit ∈ tb := tb_in (List.mem_of_getElem? (i := 451) (by decide +kernel)) (by decide +kernel)
theorem wd_452 : Cond.fieldLink RX3 40 RX3 "house" "LFloorsByLot$House;" ∈ tb := tb_in (List.mem_of_getElem? (i := 452) (by decide +kernel)) (by decide +kernel)
theorem wd_453 : Cond.fieldLink RX3 11 RX3 "movers" "I" ∈ tb := tb_in (List.mem_of_getElem? (i := 453) (by decide +kernel)) (by decide +kernel)
theorem wd_454 : Cond.fieldLink RX3 15 RX3 "who" "[I" ∈ tb := tb_in (List.mem_of_getElem? (i := 454) (by decide +kernel)) (by decide +kernel)
theorem wd_455 : Cond.fieldLink RX3 19 RX3 "start" "[I" ∈ tb := tb_in (List.mem_of_getElem? (i := 455) (by decide +kernel)) (by decide +kernel)
theorem wd_456 : Cond.fieldLink RX3 22 RX3 "end" "[I" ∈ tb := tb_in (List.mem_of_getElem? (i := 456) (by decide +kernel)) (by decide +kernel)
theorem wd_457 : Cond.fieldLink RX3 25 RX3 "inTheWay" "[I" ∈ tb := tb_in (List.mem_of_getElem? (i := 457) (by decide +kernel)) (by decide +kernel)
theorem wd_458 : Cond.fieldLink RX3 28 RX3 "firstPhase" "[I" ∈ tb := tb_in (List.mem_of_getElem? (i := 458) (by decide +kernel)) (by decide +kernel)
theorem wd_459 : Cond.fieldLink RX3 31 RX3 "stride" "[I" ∈ tb := tb_in (List.mem_of_getElem? (i := 459) (by decide +kernel)) (by decide +kernel)
theorem wd_460 : Cond.fieldLink RX3 34 RX3 "phase" "[I" ∈ tb := tb_in (List.mem_of_getElem? (i := 460) (by decide +kernel)) (by decide +kernel)
theorem wd_461 : Cond.fieldLink RX3 37 RX3 "cost" "[I" ∈ tb := tb_in (List.mem_of_getElem? (i := 461) (by decide +kernel)) (by decide +kernel)
theorem wd_483 : Cond.classLink RX11 70 RX0 ∈ tb := tb_in (List.mem_of_getElem? (i := 483) (by decide +kernel)) (by decide +kernel)
theorem wd_484 : Cond.instantiable RX0 9 ∈ tb := tb_in (List.mem_of_getElem? (i := 484) (by decide +kernel)) (by decide +kernel)
theorem wd_485 : Cond.methodLink RX11 72 yX0_init ∈ tb := tb_in (List.mem_of_getElem? (i := 485) (by decide +kernel)) (by decide +kernel)
theorem wd_486 : Cond.instanceMethod yX0_init ∈ tb := tb_in (List.mem_of_getElem? (i := 486) (by decide +kernel)) (by decide +kernel)
theorem wd_487 : Cond.code yX0_init cX0_init 5 none ∈ tb := tb_in (List.mem_of_getElem? (i := 487) (by decide +kernel)) (by decide +kernel)
theorem wd_488 : Cond.methodLink RX0 3 objectInit ∈ tb := tb_in (List.mem_of_getElem? (i := 488) (by decide +kernel)) (by decide +kernel)
theorem wd_489 : Cond.fieldLink RX0 9 RX0 "some" "Z" ∈ tb := tb_in (List.mem_of_getElem? (i := 489) (by decide +kernel)) (by decide +kernel)
theorem wd_490 : Cond.fieldLink RX11 272 RX0 "some" "Z" ∈ tb := tb_in (List.mem_of_getElem? (i := 490) (by decide +kernel)) (by decide +kernel)
theorem wd_491 : Cond.fieldLink RX0 15 RX0 "why" "I" ∈ tb := tb_in (List.mem_of_getElem? (i := 491) (by decide +kernel)) (by decide +kernel)
theorem wd_492 : Cond.fieldLink RX11 254 RX0 "why" "I" ∈ tb := tb_in (List.mem_of_getElem? (i := 492) (by decide +kernel)) (by decide +kernel)
theorem wd_493 : Cond.fieldLink RX0 19 RX0 "drawnMap" "I" ∈ tb := tb_in (List.mem_of_getElem? (i := 493) (by decide +kernel)) (by decide +kernel)
theorem wd_494 : Cond.fieldLink RX11 203 RX0 "drawnMap" "I" ∈ tb := tb_in (List.mem_of_getElem? (i := 494) (by decide +kernel)) (by decide +kernel)
theorem wd_495 : Cond.fieldLink RX0 29 RX0 "house" "LFloorsByLot$House;" ∈ tb := tb_in (List.mem_of_getElem? (i := 495) (by decide +kernel)) (by decide +kernel)
theorem wd_496 : Cond.fieldLink RX0 33 RX0 "table" "LFloorsByLot$Table;" ∈ tb := tb_in (List.mem_of_getElem? (i := 496) (by decide +kernel)) (by decide +kernel)
theorem wd_497 : Cond.fieldLink RX0 37 RX0 "chart" "LFloorsByLot$Maps;" ∈ tb := tb_in (List.mem_of_getElem? (i := 497) (by decide +kernel)) (by decide +kernel)
theorem wd_498 : Cond.fieldLink RX0 41 RX0 "ringed" "LFloorsByLot$Rings;" ∈ tb := tb_in (List.mem_of_getElem? (i := 498) (by decide +kernel)) (by decide +kernel)
theorem wd_499 : Cond.fieldLink RX0 22 RX0 "map" "[I" ∈ tb := tb_in (List.mem_of_getElem? (i := 499) (by decide +kernel)) (by decide +kernel)
theorem wd_500 : Cond.fieldLink RX0 26 RX0 "lot" "I" ∈ tb := tb_in (List.mem_of_getElem? (i := 500) (by decide +kernel)) (by decide +kernel)
theorem wd_520 : Cond.classLink RX11 79 RX1 ∈ tb := tb_in (List.mem_of_getElem? (i := 520) (by decide +kernel)) (by decide +kernel)
theorem wd_521 : Cond.instantiable RX1 3 ∈ tb := tb_in (List.mem_of_getElem? (i := 521) (by decide +kernel)) (by decide +kernel)
theorem wd_522 : Cond.methodLink RX11 81 yX1_init ∈ tb := tb_in (List.mem_of_getElem? (i := 522) (by decide +kernel)) (by decide +kernel)
theorem wd_523 : Cond.instanceMethod yX1_init ∈ tb := tb_in (List.mem_of_getElem? (i := 523) (by decide +kernel)) (by decide +kernel)
theorem wd_524 : Cond.code yX1_init cX1_init 2 none ∈ tb := tb_in (List.mem_of_getElem? (i := 524) (by decide +kernel)) (by decide +kernel)
theorem wd_525 : Cond.methodLink RX1 3 objectInit ∈ tb := tb_in (List.mem_of_getElem? (i := 525) (by decide +kernel)) (by decide +kernel)
theorem wd_526 : Cond.classLink RX1 18 RX4 ∈ tb := tb_in (List.mem_of_getElem? (i := 526) (by decide +kernel)) (by decide +kernel)
theorem wd_528 : Cond.methodLink RX1 24 yX4_init ∈ tb := tb_in (List.mem_of_getElem? (i := 528) (by decide +kernel)) (by decide +kernel)
theorem wd_529 : Cond.fieldLink RX1 9 RX1 "length" "I" ∈ tb := tb_in (List.mem_of_getElem? (i := 529) (by decide +kernel)) (by decide +kernel)
theorem wd_530 : Cond.fieldLink RX11 230 RX1 "length" "I" ∈ tb := tb_in (List.mem_of_getElem? (i := 530) (by decide +kernel)) (by decide +kernel)
theorem wd_531 : Cond.fieldLink RX1 15 RX1 "first" "I" ∈ tb := tb_in (List.mem_of_getElem? (i := 531) (by decide +kernel)) (by decide +kernel)
theorem wd_532 : Cond.fieldLink RX1 20 RX1 "rows" "[LFloorsByLot$Living;" ∈ tb := tb_in (List.mem_of_getElem? (i := 532) (by decide +kernel)) (by decide +kernel)
theorem wd_540 : Cond.classLink RX11 86 RX4 ∈ tb := tb_in (List.mem_of_getElem? (i := 540) (by decide +kernel)) (by decide +kernel)
theorem wd_541 : Cond.methodLink RX11 88 yX4_init ∈ tb := tb_in (List.mem_of_getElem? (i := 541) (by decide +kernel)) (by decide +kernel)
theorem wd_542 : Cond.classLink RX11 93 RX10 ∈ tb := tb_in (List.mem_of_getElem? (i := 542) (by decide +kernel)) (by decide +kernel)
theorem wd_545 : Cond.instantiable RX10 3 ∈ tb := tb_in (List.mem_of_getElem? (i := 545) (by decide +kernel)) (by decide +kernel)
theorem wd_547 : Cond.instanceMethod yX10_init ∈ tb := tb_in (List.mem_of_getElem? (i := 547) (by decide +kernel)) (by decide +kernel)
theorem wd_548 : Cond.code yX10_init cX10_init 1 none ∈ tb := tb_in (List.mem_of_getElem? (i := 548) (by decide +kernel)) (by decide +kernel)
theorem wd_549 : Cond.methodLink RX10 3 objectInit ∈ tb := tb_in (List.mem_of_getElem? (i := 549) (by decide +kernel)) (by decide +kernel)
theorem wd_550 : Cond.fieldLink RX10 9 RX10 "length" "I" ∈ tb := tb_in (List.mem_of_getElem? (i := 550) (by decide +kernel)) (by decide +kernel)
theorem wd_551 : Cond.fieldLink RX0 118 RX10 "length" "I" ∈ tb := tb_in (List.mem_of_getElem? (i := 551) (by decide +kernel)) (by decide +kernel)
theorem wd_552 : Cond.fieldLink RX11 396 RX10 "length" "I" ∈ tb := tb_in (List.mem_of_getElem? (i := 552) (by decide +kernel)) (by decide +kernel)
theorem wd_553 : Cond.fieldLink RX10 15 RX10 "places" "[J" ∈ tb := tb_in (List.mem_of_getElem? (i := 553) (by decide +kernel)) (by decide +kernel)
theorem wd_554 : Cond.fieldLink RX0 123 RX10 "places" "[J" ∈ tb := tb_in (List.mem_of_getElem? (i := 554) (by decide +kernel)) (by decide +kernel)
theorem wd_555 : Cond.fieldLink RX11 387 RX10 "places" "[J" ∈ tb := tb_in (List.mem_of_getElem? (i := 555) (by decide +kernel)) (by decide +kernel)
theorem wd_556 : Cond.fieldLink RX10 19 RX10 "sort" "I" ∈ tb := tb_in (List.mem_of_getElem? (i := 556) (by decide +kernel)) (by decide +kernel)
theorem wd_564 : Cond.arrayClass .long ∈ tb := tb_in (List.mem_of_getElem? (i := 564) (by decide +kernel)) (by decide +kernel)
theorem wd_565 : Cond.fieldLink RX11 9 RX11 "tape" "[B" ∈ tb := tb_in (List.mem_of_getElem? (i := 565) (by decide +kernel)) (by decide +kernel)
theorem wd_566 : Cond.fieldLink RX11 13 RX11 "tapeLength" "I" ∈ tb := tb_in (List.mem_of_getElem? (i := 566) (by decide +kernel)) (by decide +kernel)
theorem wd_567 : Cond.fieldLink RX11 20 RX11 "house" "LFloorsByLot$House;" ∈ tb := tb_in (List.mem_of_getElem? (i := 567) (by decide +kernel)) (by decide +kernel)
theorem wd_568 : Cond.fieldLink RX11 27 RX11 "reader" "LFloorsByLot$Reader;" ∈ tb := tb_in (List.mem_of_getElem? (i := 568) (by decide +kernel)) (by decide +kernel)
theorem wd_569 : Cond.fieldLink RX11 36 RX11 "table" "LFloorsByLot$Table;" ∈ tb := tb_in (List.mem_of_getElem? (i := 569) (by decide +kernel)) (by decide +kernel)
theorem wd_570 : Cond.fieldLink RX11 43 RX11 "chart" "LFloorsByLot$Maps;" ∈ tb := tb_in (List.mem_of_getElem? (i := 570) (by decide +kernel)) (by decide +kernel)
theorem wd_571 : Cond.fieldLink RX11 52 RX11 "ringed" "LFloorsByLot$Rings;" ∈ tb := tb_in (List.mem_of_getElem? (i := 571) (by decide +kernel)) (by decide +kernel)
theorem wd_572 : Cond.fieldLink RX11 59 RX11 "quiet" "LFloorsByLot$Quiet;" ∈ tb := tb_in (List.mem_of_getElem? (i := 572) (by decide +kernel)) (by decide +kernel)
theorem wd_573 : Cond.fieldLink RX11 66 RX11 "lift" "LFloorsByLot$Lift;" ∈ tb := tb_in (List.mem_of_getElem? (i := 573) (by decide +kernel)) (by decide +kernel)
theorem wd_574 : Cond.fieldLink RX11 75 RX11 "deeds" "LFloorsByLot$Deeds;" ∈ tb := tb_in (List.mem_of_getElem? (i := 574) (by decide +kernel)) (by decide +kernel)
theorem wd_575 : Cond.fieldLink RX11 82 RX11 "history" "LFloorsByLot$History;" ∈ tb := tb_in (List.mem_of_getElem? (i := 575) (by decide +kernel)) (by decide +kernel)
theorem wd_576 : Cond.fieldLink RX11 89 RX11 "before" "LFloorsByLot$Living;" ∈ tb := tb_in (List.mem_of_getElem? (i := 576) (by decide +kernel)) (by decide +kernel)
theorem wd_577 : Cond.fieldLink RX11 95 RX11 "trays" "[LFloorsByLot$Tray;" ∈ tb := tb_in (List.mem_of_getElem? (i := 577) (by decide +kernel)) (by decide +kernel)
theorem wd_578 : Cond.fieldLink RX11 99 RX11 "kept" "[LFloorsByLot$House;" ∈ tb := tb_in (List.mem_of_getElem? (i := 578) (by decide +kernel)) (by decide +kernel)
theorem wd_579 : Cond.fieldLink RX11 103 RX11 "rows" "[I" ∈ tb := tb_in (List.mem_of_getElem? (i := 579) (by decide +kernel)) (by decide +kernel)
theorem wd_580 : Cond.fieldLink RX11 107 RX11 "picked" "[I" ∈ tb := tb_in (List.mem_of_getElem? (i := 580) (by decide +kernel)) (by decide +kernel)
theorem wd_581 : Cond.fieldLink RX11 110 RX11 "nearestMap" "I" ∈ tb := tb_in (List.mem_of_getElem? (i := 581) (by decide +kernel)) (by decide +kernel)
theorem wd_582 : Cond.fieldLink RX11 113 RX11 "nearestChange" "I" ∈ tb := tb_in (List.mem_of_getElem? (i := 582) (by decide +kernel)) (by decide +kernel)
theorem wd_620 : Cond.methodLink RL 13 yX11_feed ∈ tb := tb_in (List.mem_of_getElem? (i := 620) (by decide +kernel)) (by decide +kernel)
theorem wd_621 : Cond.instanceMethod yX11_feed ∈ tb := tb_in (List.mem_of_getElem? (i := 621) (by decide +kernel)) (by decide +kernel)
theorem wd_622 : Cond.selects RX11 yX11_feed yX11_feed ∈ tb := tb_in (List.mem_of_getElem? (i := 622) (by decide +kernel)) (by decide +kernel)
theorem wd_623 : Cond.code yX11_feed cX11_feed 6 (some .int) ∈ tb := tb_in (List.mem_of_getElem? (i := 623) (by decide +kernel)) (by decide +kernel)
theorem wd_624 : Cond.methodLink RX11 117 yX11_feedInt ∈ tb := tb_in (List.mem_of_getElem? (i := 624) (by decide +kernel)) (by decide +kernel)
theorem wd_626 : Cond.instanceMethod yX11_feedInt ∈ tb := tb_in (List.mem_of_getElem? (i := 626) (by decide +kernel)) (by decide +kernel)
theorem wd_627 : Cond.code yX11_feedInt cX11_feedInt 3 none ∈ tb := tb_in (List.mem_of_getElem? (i := 627) (by decide +kernel)) (by decide +kernel)
theorem wd_628 : Cond.methodLink RL 18 yX11_tower ∈ tb := tb_in (List.mem_of_getElem? (i := 628) (by decide +kernel)) (by decide +kernel)
theorem wd_629 : Cond.instanceMethod yX11_tower ∈ tb := tb_in (List.mem_of_getElem? (i := 629) (by decide +kernel)) (by decide +kernel)
theorem wd_630 : Cond.selects RX11 yX11_tower yX11_tower ∈ tb := tb_in (List.mem_of_getElem? (i := 630) (by decide +kernel)) (by decide +kernel)
theorem wd_631 : Cond.code yX11_tower cX11_tower 2 (some .int) ∈ tb := tb_in (List.mem_of_getElem? (i := 631) (by decide +kernel)) (by decide +kernel)
theorem wd_632 : Cond.methodLink RX11 121 yX7_readAll ∈ tb := tb_in (List.mem_of_getElem? (i := 632) (by decide +kernel)) (by decide +kernel)
theorem wd_633 : Cond.instanceMethod yX7_readAll ∈ tb := tb_in (List.mem_of_getElem? (i := 633) (by decide +kernel)) (by decide +kernel)
theorem wd_634 : Cond.selects RX7 yX7_readAll yX7_readAll ∈ tb := tb_in (List.mem_of_getElem? (i := 634) (by decide +kernel)) (by decide +kernel)
theorem wd_635 : Cond.code yX7_readAll cX7_readAll 5 (some .boolean) ∈ tb := tb_in (List.mem_of_getElem? (i := 635) (by decide +kernel)) (by decide +kernel)
theorem wd_636 : Cond.methodLink RX7 44 Lib.Math.min.name ∈ tb := tb_in (List.mem_of_getElem? (i := 636) (by decide +kernel)) (by decide +kernel)
theorem wd_637 : Cond.static Lib.Math.min.name ∈ tb := tb_in (List.mem_of_getElem? (i := 637) (by decide +kernel)) (by decide +kernel)
theorem wd_638 : Cond.code Lib.Math.min.name Lib.Math.min.code 2 (some .int) ∈ tb := tb_in (List.mem_of_getElem? (i := 638) (by decide +kernel)) (by decide +kernel)
theorem wd_639 : Cond.methodLink RX7 50 yX2_clear ∈ tb := tb_in (List.mem_of_getElem? (i := 639) (by decide +kernel)) (by decide +kernel)
theorem wd_640 : Cond.instanceMethod yX2_clear ∈ tb := tb_in (List.mem_of_getElem? (i := 640) (by decide +kernel)) (by decide +kernel)
theorem wd_641 : Cond.selects RX2 yX2_clear yX2_clear ∈ tb := tb_in (List.mem_of_getElem? (i := 641) (by decide +kernel)) (by decide +kernel)
theorem wd_642 : Cond.code yX2_clear cX2_clear 1 none ∈ tb := tb_in (List.mem_of_getElem? (i := 642) (by decide +kernel)) (by decide +kernel)
theorem wd_643 : Cond.methodLink RX2 56 yJ7_fill_53178 ∈ tb := tb_in (List.mem_of_getElem? (i := 643) (by decide +kernel)) (by decide +kernel)
theorem wd_644 : Cond.methodLink RX2 62 yX4_clear ∈ tb := tb_in (List.mem_of_getElem? (i := 644) (by decide +kernel)) (by decide +kernel)
theorem wd_645 : Cond.instanceMethod yX4_clear ∈ tb := tb_in (List.mem_of_getElem? (i := 645) (by decide +kernel)) (by decide +kernel)
theorem wd_646 : Cond.selects RX4 yX4_clear yX4_clear ∈ tb := tb_in (List.mem_of_getElem? (i := 646) (by decide +kernel)) (by decide +kernel)
theorem wd_647 : Cond.code yX4_clear cX4_clear 1 none ∈ tb := tb_in (List.mem_of_getElem? (i := 647) (by decide +kernel)) (by decide +kernel)
theorem wd_648 : Cond.methodLink RX7 53 yX7_next ∈ tb := tb_in (List.mem_of_getElem? (i := 648) (by decide +kernel)) (by decide +kernel)
theorem wd_650 : Cond.instanceMethod yX7_next ∈ tb := tb_in (List.mem_of_getElem? (i := 650) (by decide +kernel)) (by decide +kernel)
theorem wd_651 : Cond.code yX7_next cX7_next 1 none ∈ tb := tb_in (List.mem_of_getElem? (i := 651) (by decide +kernel)) (by decide +kernel)
theorem wd_652 : Cond.methodLink RX7 173 yX7_isLetter ∈ tb := tb_in (List.mem_of_getElem? (i := 652) (by decide +kernel)) (by decide +kernel)
theorem wd_653 : Cond.static yX7_isLetter ∈ tb := tb_in (List.mem_of_getElem? (i := 653) (by decide +kernel)) (by decide +kernel)
theorem wd_654 : Cond.code yX7_isLetter cX7_isLetter 1 (some .boolean) ∈ tb := tb_in (List.mem_of_getElem? (i := 654) (by decide +kernel)) (by decide +kernel)
theorem wd_655 : Cond.methodLink RX7 176 yX7_wordToken ∈ tb := tb_in (List.mem_of_getElem? (i := 655) (by decide +kernel)) (by decide +kernel)
theorem wd_657 : Cond.instanceMethod yX7_wordToken ∈ tb := tb_in (List.mem_of_getElem? (i := 657) (by decide +kernel)) (by decide +kernel)
theorem wd_658 : Cond.code yX7_wordToken cX7_wordToken 8 (some .int) ∈ tb := tb_in (List.mem_of_getElem? (i := 658) (by decide +kernel)) (by decide +kernel)
theorem wd_708 : Cond.methodLink RX7 179 yX7_isDigit ∈ tb := tb_in (List.mem_of_getElem? (i := 708) (by decide +kernel)) (by decide +kernel)
theorem wd_709 : Cond.static yX7_isDigit ∈ tb := tb_in (List.mem_of_getElem? (i := 709) (by decide +kernel)) (by decide +kernel)
theorem wd_710 : Cond.code yX7_isDigit cX7_isDigit 1 (some .boolean) ∈ tb := tb_in (List.mem_of_getElem? (i := 710) (by decide +kernel)) (by decide +kernel)
theorem wd_728 : Cond.static Lib.Math.max.name ∈ tb := tb_in (List.mem_of_getElem? (i := 728) (by decide +kernel)) (by decide +kernel)
theorem wd_729 : Cond.code Lib.Math.max.name Lib.Math.max.code 2 (some .int) ∈ tb := tb_in (List.mem_of_getElem? (i := 729) (by decide +kernel)) (by decide +kernel)
theorem wd_769 : Cond.methodLink RX7 56 yX7_readFlat ∈ tb := tb_in (List.mem_of_getElem? (i := 769) (by decide +kernel)) (by decide +kernel)
theorem wd_771 : Cond.instanceMethod yX7_readFlat ∈ tb := tb_in (List.mem_of_getElem? (i := 771) (by decide +kernel)) (by decide +kernel)
theorem wd_772 : Cond.code yX7_readFlat cX7_readFlat 4 (some .boolean) ∈ tb := tb_in (List.mem_of_getElem? (i := 772) (by decide +kernel)) (by decide +kernel)
theorem wd_773 : Cond.methodLink RX7 88 yX7_refuse ∈ tb := tb_in (List.mem_of_getElem? (i := 773) (by decide +kernel)) (by decide +kernel)
theorem wd_775 : Cond.instanceMethod yX7_refuse ∈ tb := tb_in (List.mem_of_getElem? (i := 775) (by decide +kernel)) (by decide +kernel)
theorem wd_776 : Cond.code yX7_refuse cX7_refuse 2 (some .boolean) ∈ tb := tb_in (List.mem_of_getElem? (i := 776) (by decide +kernel)) (by decide +kernel)
theorem wd_777 : Cond.methodLink RX7 91 yX7_isNumber ∈ tb := tb_in (List.mem_of_getElem? (i := 777) (by decide +kernel)) (by decide +kernel)
theorem wd_779 : Cond.instanceMethod yX7_isNumber ∈ tb := tb_in (List.mem_of_getElem? (i := 779) (by decide +kernel)) (by decide +kernel)
theorem wd_780 : Cond.code yX7_isNumber cX7_isNumber 3 (some .boolean) ∈ tb := tb_in (List.mem_of_getElem? (i := 780) (by decide +kernel)) (by decide +kernel)
theorem wd_781 : Cond.methodLink RX7 75 yX7_cannotStand ∈ tb := tb_in (List.mem_of_getElem? (i := 781) (by decide +kernel)) (by decide +kernel)
theorem wd_783 : Cond.instanceMethod yX7_cannotStand ∈ tb := tb_in (List.mem_of_getElem? (i := 783) (by decide +kernel)) (by decide +kernel)
theorem wd_784 : Cond.code yX7_cannotStand cX7_cannotStand 1 (some .boolean) ∈ tb := tb_in (List.mem_of_getElem? (i := 784) (by decide +kernel)) (by decide +kernel)
theorem wd_785 : Cond.methodLink RX7 95 yX7_takeValue ∈ tb := tb_in (List.mem_of_getElem? (i := 785) (by decide +kernel)) (by decide +kernel)
theorem wd_787 : Cond.instanceMethod yX7_takeValue ∈ tb := tb_in (List.mem_of_getElem? (i := 787) (by decide +kernel)) (by decide +kernel)
theorem wd_788 : Cond.code yX7_takeValue cX7_takeValue 2 (some .int) ∈ tb := tb_in (List.mem_of_getElem? (i := 788) (by decide +kernel)) (by decide +kernel)
theorem wd_789 : Cond.methodLink RX7 99 yX2_flatAt ∈ tb := tb_in (List.mem_of_getElem? (i := 789) (by decide +kernel)) (by decide +kernel)
theorem wd_790 : Cond.instanceMethod yX2_flatAt ∈ tb := tb_in (List.mem_of_getElem? (i := 790) (by decide +kernel)) (by decide +kernel)
theorem wd_791 : Cond.selects RX2 yX2_flatAt yX2_flatAt ∈ tb := tb_in (List.mem_of_getElem? (i := 791) (by decide +kernel)) (by decide +kernel)
theorem wd_792 : Cond.code yX2_flatAt cX2_flatAt 4 (some .int) ∈ tb := tb_in (List.mem_of_getElem? (i := 792) (by decide +kernel)) (by decide +kernel)
theorem wd_793 : Cond.methodLink RX2 81 yX2_feature ∈ tb := tb_in (List.mem_of_getElem? (i := 793) (by decide +kernel)) (by decide +kernel)
theorem wd_794 : Cond.instanceMethod yX2_feature ∈ tb := tb_in (List.mem_of_getElem? (i := 794) (by decide +kernel)) (by decide +kernel)
theorem wd_795 : Cond.selects RX2 yX2_feature yX2_feature ∈ tb := tb_in (List.mem_of_getElem? (i := 795) (by decide +kernel)) (by decide +kernel)
theorem wd_796 : Cond.code yX2_feature cX2_feature 3 (some .int) ∈ tb := tb_in (List.mem_of_getElem? (i := 796) (by decide +kernel)) (by decide +kernel)
theorem wd_797 : Cond.methodLink RX7 78 yX7_take ∈ tb := tb_in (List.mem_of_getElem? (i := 797) (by decide +kernel)) (by decide +kernel)
theorem wd_799 : Cond.instanceMethod yX7_take ∈ tb := tb_in (List.mem_of_getElem? (i := 799) (by decide +kernel)) (by decide +kernel)
theorem wd_800 : Cond.code yX7_take cX7_take 2 (some .boolean) ∈ tb := tb_in (List.mem_of_getElem? (i := 800) (by decide +kernel)) (by decide +kernel)
theorem wd_801 : Cond.methodLink RX7 106 yX7_readFlatFlags ∈ tb := tb_in (List.mem_of_getElem? (i := 801) (by decide +kernel)) (by decide +kernel)
theorem wd_803 : Cond.instanceMethod yX7_readFlatFlags ∈ tb := tb_in (List.mem_of_getElem? (i := 803) (by decide +kernel)) (by decide +kernel)
theorem wd_804 : Cond.code yX7_readFlatFlags cX7_readFlatFlags 4 (some .boolean) ∈ tb := tb_in (List.mem_of_getElem? (i := 804) (by decide +kernel)) (by decide +kernel)
theorem wd_805 : Cond.methodLink RX7 60 yX7_readHousehold ∈ tb := tb_in (List.mem_of_getElem? (i := 805) (by decide +kernel)) (by decide +kernel)
theorem wd_807 : Cond.instanceMethod yX7_readHousehold ∈ tb := tb_in (List.mem_of_getElem? (i := 807) (by decide +kernel)) (by decide +kernel)
theorem wd_808 : Cond.code yX7_readHousehold cX7_readHousehold 4 (some .boolean) ∈ tb := tb_in (List.mem_of_getElem? (i := 808) (by decide +kernel)) (by decide +kernel)
theorem wd_809 : Cond.methodLink RX7 63 yX7_readLives ∈ tb := tb_in (List.mem_of_getElem? (i := 809) (by decide +kernel)) (by decide +kernel)
theorem wd_811 : Cond.instanceMethod yX7_readLives ∈ tb := tb_in (List.mem_of_getElem? (i := 811) (by decide +kernel)) (by decide +kernel)
theorem wd_812 : Cond.code yX7_readLives cX7_readLives 2 (some .boolean) ∈ tb := tb_in (List.mem_of_getElem? (i := 812) (by decide +kernel)) (by decide +kernel)
theorem wd_813 : Cond.methodLink RX7 127 yX2_dwellerOf ∈ tb := tb_in (List.mem_of_getElem? (i := 813) (by decide +kernel)) (by decide +kernel)
theorem wd_814 : Cond.instanceMethod yX2_dwellerOf ∈ tb := tb_in (List.mem_of_getElem? (i := 814) (by decide +kernel)) (by decide +kernel)
theorem wd_815 : Cond.selects RX2 yX2_dwellerOf yX2_dwellerOf ∈ tb := tb_in (List.mem_of_getElem? (i := 815) (by decide +kernel)) (by decide +kernel)
theorem wd_816 : Cond.code yX2_dwellerOf cX2_dwellerOf 3 (some .int) ∈ tb := tb_in (List.mem_of_getElem? (i := 816) (by decide +kernel)) (by decide +kernel)
theorem wd_817 : Cond.methodLink RX7 66 yX7_readMay ∈ tb := tb_in (List.mem_of_getElem? (i := 817) (by decide +kernel)) (by decide +kernel)
theorem wd_819 : Cond.instanceMethod yX7_readMay ∈ tb := tb_in (List.mem_of_getElem? (i := 819) (by decide +kernel)) (by decide +kernel)
theorem wd_820 : Cond.code yX7_readMay cX7_readMay 2 (some .boolean) ∈ tb := tb_in (List.mem_of_getElem? (i := 820) (by decide +kernel)) (by decide +kernel)
theorem wd_821 : Cond.methodLink RX7 134 yX7_readTruth ∈ tb := tb_in (List.mem_of_getElem? (i := 821) (by decide +kernel)) (by decide +kernel)
theorem wd_823 : Cond.instanceMethod yX7_readTruth ∈ tb := tb_in (List.mem_of_getElem? (i := 823) (by decide +kernel)) (by decide +kernel)
theorem wd_824 : Cond.code yX7_readTruth cX7_readTruth 4 (some .boolean) ∈ tb := tb_in (List.mem_of_getElem? (i := 824) (by decide +kernel)) (by decide +kernel)
theorem wd_825 : Cond.methodLink RX7 155 yX7_readBoth ∈ tb := tb_in (List.mem_of_getElem? (i := 825) (by decide +kernel)) (by decide +kernel)
theorem wd_827 : Cond.instanceMethod yX7_readBoth ∈ tb := tb_in (List.mem_of_getElem? (i := 827) (by decide +kernel)) (by decide +kernel)
theorem wd_828 : Cond.code yX7_readBoth cX7_readBoth 4 (some .boolean) ∈ tb := tb_in (List.mem_of_getElem? (i := 828) (by decide +kernel)) (by decide +kernel)
theorem wd_829 : Cond.methodLink RX7 161 yX7_readUnit ∈ tb := tb_in (List.mem_of_getElem? (i := 829) (by decide +kernel)) (by decide +kernel)
theorem wd_831 : Cond.instanceMethod yX7_readUnit ∈ tb := tb_in (List.mem_of_getElem? (i := 831) (by decide +kernel)) (by decide +kernel)
theorem wd_832 : Cond.code yX7_readUnit cX7_readUnit 3 (some .boolean) ∈ tb := tb_in (List.mem_of_getElem? (i := 832) (by decide +kernel)) (by decide +kernel)
theorem wd_833 : Cond.methodLink RX7 158 yX7_emit ∈ tb := tb_in (List.mem_of_getElem? (i := 833) (by decide +kernel)) (by decide +kernel)
theorem wd_835 : Cond.instanceMethod yX7_emit ∈ tb := tb_in (List.mem_of_getElem? (i := 835) (by decide +kernel)) (by decide +kernel)
theorem wd_836 : Cond.code yX7_emit cX7_emit 2 (some .boolean) ∈ tb := tb_in (List.mem_of_getElem? (i := 836) (by decide +kernel)) (by decide +kernel)
theorem wd_837 : Cond.methodLink RX7 143 yX7_readSum ∈ tb := tb_in (List.mem_of_getElem? (i := 837) (by decide +kernel)) (by decide +kernel)
theorem wd_839 : Cond.instanceMethod yX7_readSum ∈ tb := tb_in (List.mem_of_getElem? (i := 839) (by decide +kernel)) (by decide +kernel)
theorem wd_840 : Cond.code yX7_readSum cX7_readSum 5 (some .boolean) ∈ tb := tb_in (List.mem_of_getElem? (i := 840) (by decide +kernel)) (by decide +kernel)
theorem wd_841 : Cond.methodLink RX7 164 yX7_readTerm ∈ tb := tb_in (List.mem_of_getElem? (i := 841) (by decide +kernel)) (by decide +kernel)
theorem wd_843 : Cond.instanceMethod yX7_readTerm ∈ tb := tb_in (List.mem_of_getElem? (i := 843) (by decide +kernel)) (by decide +kernel)
theorem wd_844 : Cond.code yX7_readTerm cX7_readTerm 4 (some .boolean) ∈ tb := tb_in (List.mem_of_getElem? (i := 844) (by decide +kernel)) (by decide +kernel)
theorem wd_845 : Cond.methodLink RX7 167 yX7_readAtom ∈ tb := tb_in (List.mem_of_getElem? (i := 845) (by decide +kernel)) (by decide +kernel)
theorem wd_847 : Cond.instanceMethod yX7_readAtom ∈ tb := tb_in (List.mem_of_getElem? (i := 847) (by decide +kernel)) (by decide +kernel)
theorem wd_848 : Cond.code yX7_readAtom cX7_readAtom 3 (some .boolean) ∈ tb := tb_in (List.mem_of_getElem? (i := 848) (by decide +kernel)) (by decide +kernel)
theorem wd_849 : Cond.methodLink RX7 69 yX7_readWorth ∈ tb := tb_in (List.mem_of_getElem? (i := 849) (by decide +kernel)) (by decide +kernel)
theorem wd_851 : Cond.instanceMethod yX7_readWorth ∈ tb := tb_in (List.mem_of_getElem? (i := 851) (by decide +kernel)) (by decide +kernel)
theorem wd_852 : Cond.code yX7_readWorth cX7_readWorth 2 (some .boolean) ∈ tb := tb_in (List.mem_of_getElem? (i := 852) (by decide +kernel)) (by decide +kernel)
theorem wd_853 : Cond.methodLink RX7 72 yX7_readQuarter ∈ tb := tb_in (List.mem_of_getElem? (i := 853) (by decide +kernel)) (by decide +kernel)
theorem wd_855 : Cond.instanceMethod yX7_readQuarter ∈ tb := tb_in (List.mem_of_getElem? (i := 855) (by decide +kernel)) (by decide +kernel)
theorem wd_856 : Cond.code yX7_readQuarter cX7_readQuarter 1 (some .boolean) ∈ tb := tb_in (List.mem_of_getElem? (i := 856) (by decide +kernel)) (by decide +kernel)
theorem wd_857 : Cond.methodLink RX11 131 yX2_copyFrom ∈ tb := tb_in (List.mem_of_getElem? (i := 857) (by decide +kernel)) (by decide +kernel)
theorem wd_858 : Cond.instanceMethod yX2_copyFrom ∈ tb := tb_in (List.mem_of_getElem? (i := 858) (by decide +kernel)) (by decide +kernel)
theorem wd_859 : Cond.selects RX2 yX2_copyFrom yX2_copyFrom ∈ tb := tb_in (List.mem_of_getElem? (i := 859) (by decide +kernel)) (by decide +kernel)
theorem wd_860 : Cond.code yX2_copyFrom cX2_copyFrom 2 none ∈ tb := tb_in (List.mem_of_getElem? (i := 860) (by decide +kernel)) (by decide +kernel)
theorem wd_861 : Cond.methodLink RX2 65 arraycopyName ∈ tb := tb_in (List.mem_of_getElem? (i := 861) (by decide +kernel)) (by decide +kernel)
theorem wd_862 : Cond.static arraycopyName ∈ tb := tb_in (List.mem_of_getElem? (i := 862) (by decide +kernel)) (by decide +kernel)
theorem wd_863 : Cond.native arraycopyName ∈ tb := tb_in (List.mem_of_getElem? (i := 863) (by decide +kernel)) (by decide +kernel)
theorem wd_864 : Cond.methodLink RX2 71 yX4_copyFrom ∈ tb := tb_in (List.mem_of_getElem? (i := 864) (by decide +kernel)) (by decide +kernel)
theorem wd_865 : Cond.instanceMethod yX4_copyFrom ∈ tb := tb_in (List.mem_of_getElem? (i := 865) (by decide +kernel)) (by decide +kernel)
theorem wd_866 : Cond.selects RX4 yX4_copyFrom yX4_copyFrom ∈ tb := tb_in (List.mem_of_getElem? (i := 866) (by decide +kernel)) (by decide +kernel)
theorem wd_867 : Cond.code yX4_copyFrom cX4_copyFrom 2 none ∈ tb := tb_in (List.mem_of_getElem? (i := 867) (by decide +kernel)) (by decide +kernel)
theorem wd_868 : Cond.methodLink RX4 31 arraycopyName ∈ tb := tb_in (List.mem_of_getElem? (i := 868) (by decide +kernel)) (by decide +kernel)
theorem wd_869 : Cond.methodLink RX11 134 yX1_forget ∈ tb := tb_in (List.mem_of_getElem? (i := 869) (by decide +kernel)) (by decide +kernel)
theorem wd_870 : Cond.instanceMethod yX1_forget ∈ tb := tb_in (List.mem_of_getElem? (i := 870) (by decide +kernel)) (by decide +kernel)
theorem wd_871 : Cond.selects RX1 yX1_forget yX1_forget ∈ tb := tb_in (List.mem_of_getElem? (i := 871) (by decide +kernel)) (by decide +kernel)
theorem wd_872 : Cond.code yX1_forget cX1_forget 1 none ∈ tb := tb_in (List.mem_of_getElem? (i := 872) (by decide +kernel)) (by decide +kernel)
theorem wd_873 : Cond.methodLink RL 23 yX11_fault ∈ tb := tb_in (List.mem_of_getElem? (i := 873) (by decide +kernel)) (by decide +kernel)
theorem wd_874 : Cond.instanceMethod yX11_fault ∈ tb := tb_in (List.mem_of_getElem? (i := 874) (by decide +kernel)) (by decide +kernel)
theorem wd_875 : Cond.selects RX11 yX11_fault yX11_fault ∈ tb := tb_in (List.mem_of_getElem? (i := 875) (by decide +kernel)) (by decide +kernel)
theorem wd_876 : Cond.code yX11_fault cX11_fault 2 (some .int) ∈ tb := tb_in (List.mem_of_getElem? (i := 876) (by decide +kernel)) (by decide +kernel)
theorem wd_877 : Cond.methodLink RL 27 yX11_flat ∈ tb := tb_in (List.mem_of_getElem? (i := 877) (by decide +kernel)) (by decide +kernel)
theorem wd_878 : Cond.instanceMethod yX11_flat ∈ tb := tb_in (List.mem_of_getElem? (i := 878) (by decide +kernel)) (by decide +kernel)
theorem wd_879 : Cond.selects RX11 yX11_flat yX11_flat ∈ tb := tb_in (List.mem_of_getElem? (i := 879) (by decide +kernel)) (by decide +kernel)
theorem wd_880 : Cond.code yX11_flat cX11_flat 3 (some .int) ∈ tb := tb_in (List.mem_of_getElem? (i := 880) (by decide +kernel)) (by decide +kernel)
theorem wd_881 : Cond.methodLink RX11 143 yX11_isFlat ∈ tb := tb_in (List.mem_of_getElem? (i := 881) (by decide +kernel)) (by decide +kernel)
theorem wd_883 : Cond.instanceMethod yX11_isFlat ∈ tb := tb_in (List.mem_of_getElem? (i := 883) (by decide +kernel)) (by decide +kernel)
theorem wd_884 : Cond.code yX11_isFlat cX11_isFlat 2 (some .boolean) ∈ tb := tb_in (List.mem_of_getElem? (i := 884) (by decide +kernel)) (by decide +kernel)
theorem wd_885 : Cond.methodLink RX11 147 yX2_feature ∈ tb := tb_in (List.mem_of_getElem? (i := 885) (by decide +kernel)) (by decide +kernel)
theorem wd_886 : Cond.methodLink RX11 157 yX2_dwellerOf ∈ tb := tb_in (List.mem_of_getElem? (i := 886) (by decide +kernel)) (by decide +kernel)
theorem wd_887 : Cond.methodLink RL 32 yX11_household ∈ tb := tb_in (List.mem_of_getElem? (i := 887) (by decide +kernel)) (by decide +kernel)
theorem wd_888 : Cond.instanceMethod yX11_household ∈ tb := tb_in (List.mem_of_getElem? (i := 888) (by decide +kernel)) (by decide +kernel)
theorem wd_889 : Cond.selects RX11 yX11_household yX11_household ∈ tb := tb_in (List.mem_of_getElem? (i := 889) (by decide +kernel)) (by decide +kernel)
theorem wd_890 : Cond.code yX11_household cX11_household 3 (some .int) ∈ tb := tb_in (List.mem_of_getElem? (i := 890) (by decide +kernel)) (by decide +kernel)
theorem wd_891 : Cond.methodLink RX11 161 yX11_isHousehold ∈ tb := tb_in (List.mem_of_getElem? (i := 891) (by decide +kernel)) (by decide +kernel)
theorem wd_893 : Cond.instanceMethod yX11_isHousehold ∈ tb := tb_in (List.mem_of_getElem? (i := 893) (by decide +kernel)) (by decide +kernel)
theorem wd_894 : Cond.code yX11_isHousehold cX11_isHousehold 2 (some .boolean) ∈ tb := tb_in (List.mem_of_getElem? (i := 894) (by decide +kernel)) (by decide +kernel)
theorem wd_895 : Cond.methodLink RX11 164 yX2_trait ∈ tb := tb_in (List.mem_of_getElem? (i := 895) (by decide +kernel)) (by decide +kernel)
theorem wd_896 : Cond.instanceMethod yX2_trait ∈ tb := tb_in (List.mem_of_getElem? (i := 896) (by decide +kernel)) (by decide +kernel)
theorem wd_897 : Cond.selects RX2 yX2_trait yX2_trait ∈ tb := tb_in (List.mem_of_getElem? (i := 897) (by decide +kernel)) (by decide +kernel)
theorem wd_898 : Cond.code yX2_trait cX2_trait 3 (some .int) ∈ tb := tb_in (List.mem_of_getElem? (i := 898) (by decide +kernel)) (by decide +kernel)
theorem wd_899 : Cond.methodLink RL 36 yX11_times ∈ tb := tb_in (List.mem_of_getElem? (i := 899) (by decide +kernel)) (by decide +kernel)
theorem wd_900 : Cond.instanceMethod yX11_times ∈ tb := tb_in (List.mem_of_getElem? (i := 900) (by decide +kernel)) (by decide +kernel)
theorem wd_901 : Cond.selects RX11 yX11_times yX11_times ∈ tb := tb_in (List.mem_of_getElem? (i := 901) (by decide +kernel)) (by decide +kernel)
theorem wd_902 : Cond.code yX11_times cX11_times 3 (some .int) ∈ tb := tb_in (List.mem_of_getElem? (i := 902) (by decide +kernel)) (by decide +kernel)
theorem wd_903 : Cond.methodLink RX11 170 yX11_isPair ∈ tb := tb_in (List.mem_of_getElem? (i := 903) (by decide +kernel)) (by decide +kernel)
theorem wd_905 : Cond.instanceMethod yX11_isPair ∈ tb := tb_in (List.mem_of_getElem? (i := 905) (by decide +kernel)) (by decide +kernel)
theorem wd_906 : Cond.code yX11_isPair cX11_isPair 3 (some .boolean) ∈ tb := tb_in (List.mem_of_getElem? (i := 906) (by decide +kernel)) (by decide +kernel)
theorem wd_907 : Cond.methodLink RL 40 yX11_may ∈ tb := tb_in (List.mem_of_getElem? (i := 907) (by decide +kernel)) (by decide +kernel)
theorem wd_908 : Cond.instanceMethod yX11_may ∈ tb := tb_in (List.mem_of_getElem? (i := 908) (by decide +kernel)) (by decide +kernel)
theorem wd_909 : Cond.selects RX11 yX11_may yX11_may ∈ tb := tb_in (List.mem_of_getElem? (i := 909) (by decide +kernel)) (by decide +kernel)
theorem wd_910 : Cond.code yX11_may cX11_may 3 (some .int) ∈ tb := tb_in (List.mem_of_getElem? (i := 910) (by decide +kernel)) (by decide +kernel)
theorem wd_911 : Cond.methodLink RX11 177 yX9_refresh ∈ tb := tb_in (List.mem_of_getElem? (i := 911) (by decide +kernel)) (by decide +kernel)
theorem wd_912 : Cond.instanceMethod yX9_refresh ∈ tb := tb_in (List.mem_of_getElem? (i := 912) (by decide +kernel)) (by decide +kernel)
theorem wd_913 : Cond.selects RX9 yX9_refresh yX9_refresh ∈ tb := tb_in (List.mem_of_getElem? (i := 913) (by decide +kernel)) (by decide +kernel)
theorem wd_914 : Cond.code yX9_refresh cX9_refresh 4 none ∈ tb := tb_in (List.mem_of_getElem? (i := 914) (by decide +kernel)) (by decide +kernel)
theorem wd_915 : Cond.methodLink RX9 45 yX9_learn ∈ tb := tb_in (List.mem_of_getElem? (i := 915) (by decide +kernel)) (by decide +kernel)
theorem wd_917 : Cond.instanceMethod yX9_learn ∈ tb := tb_in (List.mem_of_getElem? (i := 917) (by decide +kernel)) (by decide +kernel)
theorem wd_918 : Cond.code yX9_learn cX9_learn 4 none ∈ tb := tb_in (List.mem_of_getElem? (i := 918) (by decide +kernel)) (by decide +kernel)
theorem wd_919 : Cond.methodLink RX9 78 yX2_feature ∈ tb := tb_in (List.mem_of_getElem? (i := 919) (by decide +kernel)) (by decide +kernel)
theorem wd_920 : Cond.methodLink RX9 84 yX2_trait ∈ tb := tb_in (List.mem_of_getElem? (i := 920) (by decide +kernel)) (by decide +kernel)
theorem wd_921 : Cond.methodLink RX9 55 yX9_run ∈ tb := tb_in (List.mem_of_getElem? (i := 921) (by decide +kernel)) (by decide +kernel)
theorem wd_923 : Cond.instanceMethod yX9_run ∈ tb := tb_in (List.mem_of_getElem? (i := 923) (by decide +kernel)) (by decide +kernel)
theorem wd_924 : Cond.code yX9_run cX9_run 6 (some .int) ∈ tb := tb_in (List.mem_of_getElem? (i := 924) (by decide +kernel)) (by decide +kernel)
theorem wd_925 : Cond.methodLink RX9 96 yX9_joined ∈ tb := tb_in (List.mem_of_getElem? (i := 925) (by decide +kernel)) (by decide +kernel)
theorem wd_926 : Cond.static yX9_joined ∈ tb := tb_in (List.mem_of_getElem? (i := 926) (by decide +kernel)) (by decide +kernel)
theorem wd_927 : Cond.code yX9_joined cX9_joined 7 (some .int) ∈ tb := tb_in (List.mem_of_getElem? (i := 927) (by decide +kernel)) (by decide +kernel)
theorem wd_928 : Cond.constantLong RX9 100 (-1000000) ∈ tb := tb_in (List.mem_of_getElem? (i := 928) (by decide +kernel)) (by decide +kernel)
theorem wd_929 : Cond.constantLong RX9 102 1000000 ∈ tb := tb_in (List.mem_of_getElem? (i := 929) (by decide +kernel)) (by decide +kernel)
theorem wd_930 : Cond.methodLink RX9 104 Lib.MathLoose.min_long.x ∈ tb := tb_in (List.mem_of_getElem? (i := 930) (by decide +kernel)) (by decide +kernel)
theorem wd_931 : Cond.static Lib.MathLoose.min_long.x ∈ tb := tb_in (List.mem_of_getElem? (i := 931) (by decide +kernel)) (by decide +kernel)
theorem wd_932 : Cond.code Lib.MathLoose.min_long.x Lib.MathLoose.min_long.code 4 (some .long) ∈ tb := tb_in (List.mem_of_getElem? (i := 932) (by decide +kernel)) (by decide +kernel)
theorem wd_933 : Cond.methodLink RX9 110 Lib.MathLoose.max_long.x ∈ tb := tb_in (List.mem_of_getElem? (i := 933) (by decide +kernel)) (by decide +kernel)
theorem wd_934 : Cond.static Lib.MathLoose.max_long.x ∈ tb := tb_in (List.mem_of_getElem? (i := 934) (by decide +kernel)) (by decide +kernel)
theorem wd_935 : Cond.code Lib.MathLoose.max_long.x Lib.MathLoose.max_long.code 4 (some .long) ∈ tb := tb_in (List.mem_of_getElem? (i := 935) (by decide +kernel)) (by decide +kernel)
theorem wd_936 : Cond.methodLink RX11 180 yX9_permits ∈ tb := tb_in (List.mem_of_getElem? (i := 936) (by decide +kernel)) (by decide +kernel)
theorem wd_937 : Cond.instanceMethod yX9_permits ∈ tb := tb_in (List.mem_of_getElem? (i := 937) (by decide +kernel)) (by decide +kernel)
theorem wd_938 : Cond.selects RX9 yX9_permits yX9_permits ∈ tb := tb_in (List.mem_of_getElem? (i := 938) (by decide +kernel)) (by decide +kernel)
theorem wd_939 : Cond.code yX9_permits cX9_permits 3 (some .boolean) ∈ tb := tb_in (List.mem_of_getElem? (i := 939) (by decide +kernel)) (by decide +kernel)
theorem wd_940 : Cond.methodLink RL 44 yX11_worth ∈ tb := tb_in (List.mem_of_getElem? (i := 940) (by decide +kernel)) (by decide +kernel)
theorem wd_941 : Cond.instanceMethod yX11_worth ∈ tb := tb_in (List.mem_of_getElem? (i := 941) (by decide +kernel)) (by decide +kernel)
theorem wd_942 : Cond.selects RX11 yX11_worth yX11_worth ∈ tb := tb_in (List.mem_of_getElem? (i := 942) (by decide +kernel)) (by decide +kernel)
theorem wd_943 : Cond.code yX11_worth cX11_worth 3 (some .int) ∈ tb := tb_in (List.mem_of_getElem? (i := 943) (by decide +kernel)) (by decide +kernel)
theorem wd_944 : Cond.constant RX11 183 (-2000000) ∈ tb := tb_in (List.mem_of_getElem? (i := 944) (by decide +kernel)) (by decide +kernel)
theorem wd_945 : Cond.methodLink RL 48 yX11_draws ∈ tb := tb_in (List.mem_of_getElem? (i := 945) (by decide +kernel)) (by decide +kernel)
theorem wd_946 : Cond.instanceMethod yX11_draws ∈ tb := tb_in (List.mem_of_getElem? (i := 946) (by decide +kernel)) (by decide +kernel)
theorem wd_947 : Cond.selects RX11 yX11_draws yX11_draws ∈ tb := tb_in (List.mem_of_getElem? (i := 947) (by decide +kernel)) (by decide +kernel)
theorem wd_948 : Cond.code yX11_draws cX11_draws 2 (some .int) ∈ tb := tb_in (List.mem_of_getElem? (i := 948) (by decide +kernel)) (by decide +kernel)
theorem wd_949 : Cond.methodLink RX11 193 yX4_copyFrom ∈ tb := tb_in (List.mem_of_getElem? (i := 949) (by decide +kernel)) (by decide +kernel)
theorem wd_950 : Cond.methodLink RX11 196 yX0_draw ∈ tb := tb_in (List.mem_of_getElem? (i := 950) (by decide +kernel)) (by decide +kernel)
theorem wd_951 : Cond.instanceMethod yX0_draw ∈ tb := tb_in (List.mem_of_getElem? (i := 951) (by decide +kernel)) (by decide +kernel)
theorem wd_952 : Cond.selects RX0 yX0_draw yX0_draw ∈ tb := tb_in (List.mem_of_getElem? (i := 952) (by decide +kernel)) (by decide +kernel)
theorem wd_953 : Cond.code yX0_draw cX0_draw 5 (some .int) ∈ tb := tb_in (List.mem_of_getElem? (i := 953) (by decide +kernel)) (by decide +kernel)
theorem wd_954 : Cond.methodLink RX0 57 yX9_refresh ∈ tb := tb_in (List.mem_of_getElem? (i := 954) (by decide +kernel)) (by decide +kernel)
theorem wd_955 : Cond.methodLink RX0 88 yX5_tally ∈ tb := tb_in (List.mem_of_getElem? (i := 955) (by decide +kernel)) (by decide +kernel)
theorem wd_956 : Cond.instanceMethod yX5_tally ∈ tb := tb_in (List.mem_of_getElem? (i := 956) (by decide +kernel)) (by decide +kernel)
theorem wd_957 : Cond.selects RX5 yX5_tally yX5_tally ∈ tb := tb_in (List.mem_of_getElem? (i := 957) (by decide +kernel)) (by decide +kernel)
theorem wd_958 : Cond.code yX5_tally cX5_tally 5 (some .int) ∈ tb := tb_in (List.mem_of_getElem? (i := 958) (by decide +kernel)) (by decide +kernel)
theorem wd_959 : Cond.methodLink RX5 34 Lib.Math.min.name ∈ tb := tb_in (List.mem_of_getElem? (i := 959) (by decide +kernel)) (by decide +kernel)
theorem wd_960 : Cond.methodLink RX5 40 Lib.Math.max.name ∈ tb := tb_in (List.mem_of_getElem? (i := 960) (by decide +kernel)) (by decide +kernel)
theorem wd_961 : Cond.methodLink RX5 43 arraycopyName ∈ tb := tb_in (List.mem_of_getElem? (i := 961) (by decide +kernel)) (by decide +kernel)
theorem wd_962 : Cond.methodLink RX5 49 yX5_waysFrom ∈ tb := tb_in (List.mem_of_getElem? (i := 962) (by decide +kernel)) (by decide +kernel)
theorem wd_964 : Cond.instanceMethod yX5_waysFrom ∈ tb := tb_in (List.mem_of_getElem? (i := 964) (by decide +kernel)) (by decide +kernel)
theorem wd_965 : Cond.code yX5_waysFrom cX5_waysFrom 6 (some .int) ∈ tb := tb_in (List.mem_of_getElem? (i := 965) (by decide +kernel)) (by decide +kernel)
theorem wd_966 : Cond.methodLink RX5 53 yJ6_bitCount_0f7a4 ∈ tb := tb_in (List.mem_of_getElem? (i := 966) (by decide +kernel)) (by decide +kernel)
theorem wd_967 : Cond.static yJ6_bitCount_0f7a4 ∈ tb := tb_in (List.mem_of_getElem? (i := 967) (by decide +kernel)) (by decide +kernel)
theorem wd_968 : Cond.code yJ6_bitCount_0f7a4 cJ6_bitCount_0f7a4 1 (some .int) ∈ tb := tb_in (List.mem_of_getElem? (i := 968) (by decide +kernel)) (by decide +kernel)
theorem wd_969 : Cond.constant RJ6 265 1431655765 ∈ tb := tb_in (List.mem_of_getElem? (i := 969) (by decide +kernel)) (by decide +kernel)
theorem wd_970 : Cond.constant RJ6 266 858993459 ∈ tb := tb_in (List.mem_of_getElem? (i := 970) (by decide +kernel)) (by decide +kernel)
theorem wd_971 : Cond.constant RJ6 267 252645135 ∈ tb := tb_in (List.mem_of_getElem? (i := 971) (by decide +kernel)) (by decide +kernel)
theorem wd_972 : Cond.methodLink RX0 94 yX5_find ∈ tb := tb_in (List.mem_of_getElem? (i := 972) (by decide +kernel)) (by decide +kernel)
theorem wd_973 : Cond.instanceMethod yX5_find ∈ tb := tb_in (List.mem_of_getElem? (i := 973) (by decide +kernel)) (by decide +kernel)
theorem wd_974 : Cond.selects RX5 yX5_find yX5_find ∈ tb := tb_in (List.mem_of_getElem? (i := 974) (by decide +kernel)) (by decide +kernel)
theorem wd_975 : Cond.code yX5_find cX5_find 7 none ∈ tb := tb_in (List.mem_of_getElem? (i := 975) (by decide +kernel)) (by decide +kernel)
theorem wd_976 : Cond.methodLink RX5 68 yX5_goesOn ∈ tb := tb_in (List.mem_of_getElem? (i := 976) (by decide +kernel)) (by decide +kernel)
theorem wd_977 : Cond.instanceMethod yX5_goesOn ∈ tb := tb_in (List.mem_of_getElem? (i := 977) (by decide +kernel)) (by decide +kernel)
theorem wd_978 : Cond.selects RX5 yX5_goesOn yX5_goesOn ∈ tb := tb_in (List.mem_of_getElem? (i := 978) (by decide +kernel)) (by decide +kernel)
theorem wd_979 : Cond.code yX5_goesOn cX5_goesOn 4 (some .boolean) ∈ tb := tb_in (List.mem_of_getElem? (i := 979) (by decide +kernel)) (by decide +kernel)
theorem wd_980 : Cond.methodLink RX0 66 yX2_setHome ∈ tb := tb_in (List.mem_of_getElem? (i := 980) (by decide +kernel)) (by decide +kernel)
theorem wd_981 : Cond.instanceMethod yX2_setHome ∈ tb := tb_in (List.mem_of_getElem? (i := 981) (by decide +kernel)) (by decide +kernel)
theorem wd_982 : Cond.selects RX2 yX2_setHome yX2_setHome ∈ tb := tb_in (List.mem_of_getElem? (i := 982) (by decide +kernel)) (by decide +kernel)
theorem wd_983 : Cond.code yX2_setHome cX2_setHome 3 none ∈ tb := tb_in (List.mem_of_getElem? (i := 983) (by decide +kernel)) (by decide +kernel)
theorem wd_984 : Cond.methodLink RX11 200 yX1_keep ∈ tb := tb_in (List.mem_of_getElem? (i := 984) (by decide +kernel)) (by decide +kernel)
theorem wd_985 : Cond.instanceMethod yX1_keep ∈ tb := tb_in (List.mem_of_getElem? (i := 985) (by decide +kernel)) (by decide +kernel)
theorem wd_986 : Cond.selects RX1 yX1_keep yX1_keep ∈ tb := tb_in (List.mem_of_getElem? (i := 986) (by decide +kernel)) (by decide +kernel)
theorem wd_987 : Cond.code yX1_keep cX1_keep 2 none ∈ tb := tb_in (List.mem_of_getElem? (i := 987) (by decide +kernel)) (by decide +kernel)
theorem wd_988 : Cond.methodLink RX1 25 yX4_copyFrom ∈ tb := tb_in (List.mem_of_getElem? (i := 988) (by decide +kernel)) (by decide +kernel)
theorem wd_989 : Cond.methodLink RL 52 yX11_rings ∈ tb := tb_in (List.mem_of_getElem? (i := 989) (by decide +kernel)) (by decide +kernel)
theorem wd_990 : Cond.instanceMethod yX11_rings ∈ tb := tb_in (List.mem_of_getElem? (i := 990) (by decide +kernel)) (by decide +kernel)
theorem wd_991 : Cond.selects RX11 yX11_rings yX11_rings ∈ tb := tb_in (List.mem_of_getElem? (i := 991) (by decide +kernel)) (by decide +kernel)
theorem wd_992 : Cond.code yX11_rings cX11_rings 1 (some .int) ∈ tb := tb_in (List.mem_of_getElem? (i := 992) (by decide +kernel)) (by decide +kernel)
theorem wd_993 : Cond.methodLink RX11 206 yX0_swapByRings ∈ tb := tb_in (List.mem_of_getElem? (i := 993) (by decide +kernel)) (by decide +kernel)
theorem wd_994 : Cond.instanceMethod yX0_swapByRings ∈ tb := tb_in (List.mem_of_getElem? (i := 994) (by decide +kernel)) (by decide +kernel)
theorem wd_995 : Cond.selects RX0 yX0_swapByRings yX0_swapByRings ∈ tb := tb_in (List.mem_of_getElem? (i := 995) (by decide +kernel)) (by decide +kernel)
theorem wd_996 : Cond.code yX0_swapByRings cX0_swapByRings 2 (some .int) ∈ tb := tb_in (List.mem_of_getElem? (i := 996) (by decide +kernel)) (by decide +kernel)
theorem wd_997 : Cond.methodLink RX0 107 yX8_turn ∈ tb := tb_in (List.mem_of_getElem? (i := 997) (by decide +kernel)) (by decide +kernel)
theorem wd_998 : Cond.instanceMethod yX8_turn ∈ tb := tb_in (List.mem_of_getElem? (i := 998) (by decide +kernel)) (by decide +kernel)
theorem wd_999 : Cond.selects RX8 yX8_turn yX8_turn ∈ tb := tb_in (List.mem_of_getElem? (i := 999) (by decide +kernel)) (by decide +kernel)
theorem wd_1000 : Cond.code yX8_turn cX8_turn 4 none ∈ tb := tb_in (List.mem_of_getElem? (i := 1000) (by decide +kernel)) (by decide +kernel)
theorem wd_1001 : Cond.methodLink RX8 47 yX8_ownerWanted ∈ tb := tb_in (List.mem_of_getElem? (i := 1001) (by decide +kernel)) (by decide +kernel)
theorem wd_1003 : Cond.instanceMethod yX8_ownerWanted ∈ tb := tb_in (List.mem_of_getElem? (i := 1003) (by decide +kernel)) (by decide +kernel)
theorem wd_1004 : Cond.code yX8_ownerWanted cX8_ownerWanted 9 (some .int) ∈ tb := tb_in (List.mem_of_getElem? (i := 1004) (by decide +kernel)) (by decide +kernel)
theorem wd_1005 : Cond.constant RX8 55 (-2000000) ∈ tb := tb_in (List.mem_of_getElem? (i := 1005) (by decide +kernel)) (by decide +kernel)
theorem wd_1006 : Cond.methodLink RX8 59 yX2_dwellerOf ∈ tb := tb_in (List.mem_of_getElem? (i := 1006) (by decide +kernel)) (by decide +kernel)
theorem wd_1007 : Cond.methodLink RX8 62 yX9_permits ∈ tb := tb_in (List.mem_of_getElem? (i := 1007) (by decide +kernel)) (by decide +kernel)
theorem wd_1008 : Cond.methodLink RX8 51 yX8_closeOne ∈ tb := tb_in (List.mem_of_getElem? (i := 1008) (by decide +kernel)) (by decide +kernel)
theorem wd_1010 : Cond.instanceMethod yX8_closeOne ∈ tb := tb_in (List.mem_of_getElem? (i := 1010) (by decide +kernel)) (by decide +kernel)
theorem wd_1011 : Cond.code yX8_closeOne cX8_closeOne 5 (some .int) ∈ tb := tb_in (List.mem_of_getElem? (i := 1011) (by decide +kernel)) (by decide +kernel)
theorem wd_1012 : Cond.methodLink RX8 71 yJ6_bitCount_0f7a4 ∈ tb := tb_in (List.mem_of_getElem? (i := 1012) (by decide +kernel)) (by decide +kernel)
theorem wd_1013 : Cond.methodLink RL 57 yX11_moves ∈ tb := tb_in (List.mem_of_getElem? (i := 1013) (by decide +kernel)) (by decide +kernel)
theorem wd_1014 : Cond.instanceMethod yX11_moves ∈ tb := tb_in (List.mem_of_getElem? (i := 1014) (by decide +kernel)) (by decide +kernel)
theorem wd_1015 : Cond.selects RX11 yX11_moves yX11_moves ∈ tb := tb_in (List.mem_of_getElem? (i := 1015) (by decide +kernel)) (by decide +kernel)
theorem wd_1016 : Cond.code yX11_moves cX11_moves 6 (some .int) ∈ tb := tb_in (List.mem_of_getElem? (i := 1016) (by decide +kernel)) (by decide +kernel)
theorem wd_1017 : Cond.methodLink RX11 213 yX0_settle ∈ tb := tb_in (List.mem_of_getElem? (i := 1017) (by decide +kernel)) (by decide +kernel)
theorem wd_1018 : Cond.instanceMethod yX0_settle ∈ tb := tb_in (List.mem_of_getElem? (i := 1018) (by decide +kernel)) (by decide +kernel)
theorem wd_1019 : Cond.selects RX0 yX0_settle yX0_settle ∈ tb := tb_in (List.mem_of_getElem? (i := 1019) (by decide +kernel)) (by decide +kernel)
theorem wd_1020 : Cond.code yX0_settle cX0_settle 3 (some .int) ∈ tb := tb_in (List.mem_of_getElem? (i := 1020) (by decide +kernel)) (by decide +kernel)
theorem wd_1021 : Cond.methodLink RX0 53 yX2_dwellerOf ∈ tb := tb_in (List.mem_of_getElem? (i := 1021) (by decide +kernel)) (by decide +kernel)
theorem wd_1022 : Cond.methodLink RX0 62 yX9_permits ∈ tb := tb_in (List.mem_of_getElem? (i := 1022) (by decide +kernel)) (by decide +kernel)
theorem wd_1023 : Cond.methodLink RX11 216 Lib.Math.abs.name ∈ tb := tb_in (List.mem_of_getElem? (i := 1023) (by decide +kernel)) (by decide +kernel)
theorem wd_1024 : Cond.static Lib.Math.abs.name ∈ tb := tb_in (List.mem_of_getElem? (i := 1024) (by decide +kernel)) (by decide +kernel)
theorem wd_1025 : Cond.code Lib.Math.abs.name Lib.Math.abs.code 1 (some .int) ∈ tb := tb_in (List.mem_of_getElem? (i := 1025) (by decide +kernel)) (by decide +kernel)
theorem wd_1026 : Cond.methodLink RL 61 yX11_leaves ∈ tb := tb_in (List.mem_of_getElem? (i := 1026) (by decide +kernel)) (by decide +kernel)
theorem wd_1027 : Cond.instanceMethod yX11_leaves ∈ tb := tb_in (List.mem_of_getElem? (i := 1027) (by decide +kernel)) (by decide +kernel)
theorem wd_1028 : Cond.selects RX11 yX11_leaves yX11_leaves ∈ tb := tb_in (List.mem_of_getElem? (i := 1028) (by decide +kernel)) (by decide +kernel)
theorem wd_1029 : Cond.code yX11_leaves cX11_leaves 3 (some .int) ∈ tb := tb_in (List.mem_of_getElem? (i := 1029) (by decide +kernel)) (by decide +kernel)
theorem wd_1030 : Cond.methodLink RX11 221 yX0_depart ∈ tb := tb_in (List.mem_of_getElem? (i := 1030) (by decide +kernel)) (by decide +kernel)
theorem wd_1031 : Cond.instanceMethod yX0_depart ∈ tb := tb_in (List.mem_of_getElem? (i := 1031) (by decide +kernel)) (by decide +kernel)
theorem wd_1032 : Cond.selects RX0 yX0_depart yX0_depart ∈ tb := tb_in (List.mem_of_getElem? (i := 1032) (by decide +kernel)) (by decide +kernel)
theorem wd_1033 : Cond.code yX0_depart cX0_depart 2 (some .int) ∈ tb := tb_in (List.mem_of_getElem? (i := 1033) (by decide +kernel)) (by decide +kernel)
theorem wd_1034 : Cond.methodLink RL 65 yX11_spoils ∈ tb := tb_in (List.mem_of_getElem? (i := 1034) (by decide +kernel)) (by decide +kernel)
theorem wd_1035 : Cond.instanceMethod yX11_spoils ∈ tb := tb_in (List.mem_of_getElem? (i := 1035) (by decide +kernel)) (by decide +kernel)
theorem wd_1036 : Cond.selects RX11 yX11_spoils yX11_spoils ∈ tb := tb_in (List.mem_of_getElem? (i := 1036) (by decide +kernel)) (by decide +kernel)
theorem wd_1037 : Cond.code yX11_spoils cX11_spoils 3 (some .int) ∈ tb := tb_in (List.mem_of_getElem? (i := 1037) (by decide +kernel)) (by decide +kernel)
theorem wd_1038 : Cond.methodLink RX11 224 yX0_spoil ∈ tb := tb_in (List.mem_of_getElem? (i := 1038) (by decide +kernel)) (by decide +kernel)
theorem wd_1039 : Cond.instanceMethod yX0_spoil ∈ tb := tb_in (List.mem_of_getElem? (i := 1039) (by decide +kernel)) (by decide +kernel)
theorem wd_1040 : Cond.selects RX0 yX0_spoil yX0_spoil ∈ tb := tb_in (List.mem_of_getElem? (i := 1040) (by decide +kernel)) (by decide +kernel)
theorem wd_1041 : Cond.code yX0_spoil cX0_spoil 2 (some .int) ∈ tb := tb_in (List.mem_of_getElem? (i := 1041) (by decide +kernel)) (by decide +kernel)
theorem wd_1042 : Cond.methodLink RX0 82 yX2_setFaults ∈ tb := tb_in (List.mem_of_getElem? (i := 1042) (by decide +kernel)) (by decide +kernel)
theorem wd_1043 : Cond.instanceMethod yX2_setFaults ∈ tb := tb_in (List.mem_of_getElem? (i := 1043) (by decide +kernel)) (by decide +kernel)
theorem wd_1044 : Cond.selects RX2 yX2_setFaults yX2_setFaults ∈ tb := tb_in (List.mem_of_getElem? (i := 1044) (by decide +kernel)) (by decide +kernel)
theorem wd_1045 : Cond.code yX2_setFaults cX2_setFaults 3 none ∈ tb := tb_in (List.mem_of_getElem? (i := 1045) (by decide +kernel)) (by decide +kernel)
theorem wd_1046 : Cond.methodLink RL 69 yX11_mends ∈ tb := tb_in (List.mem_of_getElem? (i := 1046) (by decide +kernel)) (by decide +kernel)
theorem wd_1047 : Cond.instanceMethod yX11_mends ∈ tb := tb_in (List.mem_of_getElem? (i := 1047) (by decide +kernel)) (by decide +kernel)
theorem wd_1048 : Cond.selects RX11 yX11_mends yX11_mends ∈ tb := tb_in (List.mem_of_getElem? (i := 1048) (by decide +kernel)) (by decide +kernel)
theorem wd_1049 : Cond.code yX11_mends cX11_mends 3 (some .int) ∈ tb := tb_in (List.mem_of_getElem? (i := 1049) (by decide +kernel)) (by decide +kernel)
theorem wd_1050 : Cond.methodLink RX11 227 yX0_mend ∈ tb := tb_in (List.mem_of_getElem? (i := 1050) (by decide +kernel)) (by decide +kernel)
theorem wd_1051 : Cond.instanceMethod yX0_mend ∈ tb := tb_in (List.mem_of_getElem? (i := 1051) (by decide +kernel)) (by decide +kernel)
theorem wd_1052 : Cond.selects RX0 yX0_mend yX0_mend ∈ tb := tb_in (List.mem_of_getElem? (i := 1052) (by decide +kernel)) (by decide +kernel)
theorem wd_1053 : Cond.code yX0_mend cX0_mend 2 (some .int) ∈ tb := tb_in (List.mem_of_getElem? (i := 1053) (by decide +kernel)) (by decide +kernel)
theorem wd_1054 : Cond.methodLink RL 73 yX11_undo ∈ tb := tb_in (List.mem_of_getElem? (i := 1054) (by decide +kernel)) (by decide +kernel)
theorem wd_1055 : Cond.instanceMethod yX11_undo ∈ tb := tb_in (List.mem_of_getElem? (i := 1055) (by decide +kernel)) (by decide +kernel)
theorem wd_1056 : Cond.selects RX11 yX11_undo yX11_undo ∈ tb := tb_in (List.mem_of_getElem? (i := 1056) (by decide +kernel)) (by decide +kernel)
theorem wd_1057 : Cond.code yX11_undo cX11_undo 2 (some .int) ∈ tb := tb_in (List.mem_of_getElem? (i := 1057) (by decide +kernel)) (by decide +kernel)
theorem wd_1058 : Cond.methodLink RX11 233 yX1_takeBack ∈ tb := tb_in (List.mem_of_getElem? (i := 1058) (by decide +kernel)) (by decide +kernel)
theorem wd_1059 : Cond.instanceMethod yX1_takeBack ∈ tb := tb_in (List.mem_of_getElem? (i := 1059) (by decide +kernel)) (by decide +kernel)
theorem wd_1060 : Cond.selects RX1 yX1_takeBack yX1_takeBack ∈ tb := tb_in (List.mem_of_getElem? (i := 1060) (by decide +kernel)) (by decide +kernel)
theorem wd_1061 : Cond.code yX1_takeBack cX1_takeBack 2 (some (.object "FloorsByLot$Living")) ∈ tb := tb_in (List.mem_of_getElem? (i := 1061) (by decide +kernel)) (by decide +kernel)
theorem wd_1062 : Cond.methodLink RX1 29 Lib.Math.max.name ∈ tb := tb_in (List.mem_of_getElem? (i := 1062) (by decide +kernel)) (by decide +kernel)
theorem wd_1063 : Cond.methodLink RX11 237 yX2_liveAs ∈ tb := tb_in (List.mem_of_getElem? (i := 1063) (by decide +kernel)) (by decide +kernel)
theorem wd_1064 : Cond.instanceMethod yX2_liveAs ∈ tb := tb_in (List.mem_of_getElem? (i := 1064) (by decide +kernel)) (by decide +kernel)
theorem wd_1065 : Cond.selects RX2 yX2_liveAs yX2_liveAs ∈ tb := tb_in (List.mem_of_getElem? (i := 1065) (by decide +kernel)) (by decide +kernel)
theorem wd_1066 : Cond.code yX2_liveAs cX2_liveAs 2 none ∈ tb := tb_in (List.mem_of_getElem? (i := 1066) (by decide +kernel)) (by decide +kernel)
theorem wd_1067 : Cond.methodLink RL 77 yX11_judge ∈ tb := tb_in (List.mem_of_getElem? (i := 1067) (by decide +kernel)) (by decide +kernel)
theorem wd_1068 : Cond.instanceMethod yX11_judge ∈ tb := tb_in (List.mem_of_getElem? (i := 1068) (by decide +kernel)) (by decide +kernel)
theorem wd_1069 : Cond.selects RX11 yX11_judge yX11_judge ∈ tb := tb_in (List.mem_of_getElem? (i := 1069) (by decide +kernel)) (by decide +kernel)
theorem wd_1070 : Cond.code yX11_judge cX11_judge 5 (some .int) ∈ tb := tb_in (List.mem_of_getElem? (i := 1070) (by decide +kernel)) (by decide +kernel)
theorem wd_1071 : Cond.methodLink RX11 240 yX11_isTray ∈ tb := tb_in (List.mem_of_getElem? (i := 1071) (by decide +kernel)) (by decide +kernel)
theorem wd_1072 : Cond.static yX11_isTray ∈ tb := tb_in (List.mem_of_getElem? (i := 1072) (by decide +kernel)) (by decide +kernel)
theorem wd_1073 : Cond.code yX11_isTray cX11_isTray 1 (some .boolean) ∈ tb := tb_in (List.mem_of_getElem? (i := 1073) (by decide +kernel)) (by decide +kernel)
theorem wd_1074 : Cond.methodLink RX11 243 yX10_isMissing ∈ tb := tb_in (List.mem_of_getElem? (i := 1074) (by decide +kernel)) (by decide +kernel)
theorem wd_1075 : Cond.instanceMethod yX10_isMissing ∈ tb := tb_in (List.mem_of_getElem? (i := 1075) (by decide +kernel)) (by decide +kernel)
theorem wd_1076 : Cond.selects RX10 yX10_isMissing yX10_isMissing ∈ tb := tb_in (List.mem_of_getElem? (i := 1076) (by decide +kernel)) (by decide +kernel)
theorem wd_1077 : Cond.code yX10_isMissing cX10_isMissing 1 (some .boolean) ∈ tb := tb_in (List.mem_of_getElem? (i := 1077) (by decide +kernel)) (by decide +kernel)
theorem wd_1078 : Cond.methodLink RX11 247 yX0_doAll ∈ tb := tb_in (List.mem_of_getElem? (i := 1078) (by decide +kernel)) (by decide +kernel)
theorem wd_1079 : Cond.instanceMethod yX0_doAll ∈ tb := tb_in (List.mem_of_getElem? (i := 1079) (by decide +kernel)) (by decide +kernel)
theorem wd_1080 : Cond.selects RX0 yX0_doAll yX0_doAll ∈ tb := tb_in (List.mem_of_getElem? (i := 1080) (by decide +kernel)) (by decide +kernel)
theorem wd_1081 : Cond.code yX0_doAll cX0_doAll 3 (some .int) ∈ tb := tb_in (List.mem_of_getElem? (i := 1081) (by decide +kernel)) (by decide +kernel)
theorem wd_1082 : Cond.methodLink RX0 127 yX0_doOne ∈ tb := tb_in (List.mem_of_getElem? (i := 1082) (by decide +kernel)) (by decide +kernel)
theorem wd_1084 : Cond.instanceMethod yX0_doOne ∈ tb := tb_in (List.mem_of_getElem? (i := 1084) (by decide +kernel)) (by decide +kernel)
theorem wd_1085 : Cond.code yX0_doOne cX0_doOne 4 (some .int) ∈ tb := tb_in (List.mem_of_getElem? (i := 1085) (by decide +kernel)) (by decide +kernel)
theorem wd_1086 : Cond.constantLong RX0 137 4000 ∈ tb := tb_in (List.mem_of_getElem? (i := 1086) (by decide +kernel)) (by decide +kernel)
theorem wd_1087 : Cond.methodLink RX0 139 yX0_draw ∈ tb := tb_in (List.mem_of_getElem? (i := 1087) (by decide +kernel)) (by decide +kernel)
theorem wd_1088 : Cond.methodLink RX0 142 yX0_noted ∈ tb := tb_in (List.mem_of_getElem? (i := 1088) (by decide +kernel)) (by decide +kernel)
theorem wd_1090 : Cond.instanceMethod yX0_noted ∈ tb := tb_in (List.mem_of_getElem? (i := 1090) (by decide +kernel)) (by decide +kernel)
theorem wd_1091 : Cond.code yX0_noted cX0_noted 2 (some .int) ∈ tb := tb_in (List.mem_of_getElem? (i := 1091) (by decide +kernel)) (by decide +kernel)
theorem wd_1092 : Cond.constantLong RX0 145 3000 ∈ tb := tb_in (List.mem_of_getElem? (i := 1092) (by decide +kernel)) (by decide +kernel)
theorem wd_1093 : Cond.methodLink RX0 147 yX0_swapByRings ∈ tb := tb_in (List.mem_of_getElem? (i := 1093) (by decide +kernel)) (by decide +kernel)
theorem wd_1094 : Cond.methodLink RX0 151 yX0_mend ∈ tb := tb_in (List.mem_of_getElem? (i := 1094) (by decide +kernel)) (by decide +kernel)
theorem wd_1095 : Cond.methodLink RX0 154 yX0_spoil ∈ tb := tb_in (List.mem_of_getElem? (i := 1095) (by decide +kernel)) (by decide +kernel)
theorem wd_1096 : Cond.methodLink RX0 157 yX0_depart ∈ tb := tb_in (List.mem_of_getElem? (i := 1096) (by decide +kernel)) (by decide +kernel)
theorem wd_1097 : Cond.methodLink RX0 160 yX0_settle ∈ tb := tb_in (List.mem_of_getElem? (i := 1097) (by decide +kernel)) (by decide +kernel)
theorem wd_1098 : Cond.methodLink RX0 131 Lib.Math.max.name ∈ tb := tb_in (List.mem_of_getElem? (i := 1098) (by decide +kernel)) (by decide +kernel)
theorem wd_1099 : Cond.methodLink RX11 251 yX11_judged ∈ tb := tb_in (List.mem_of_getElem? (i := 1099) (by decide +kernel)) (by decide +kernel)
theorem wd_1101 : Cond.instanceMethod yX11_judged ∈ tb := tb_in (List.mem_of_getElem? (i := 1101) (by decide +kernel)) (by decide +kernel)
theorem wd_1102 : Cond.code yX11_judged cX11_judged 3 (some .int) ∈ tb := tb_in (List.mem_of_getElem? (i := 1102) (by decide +kernel)) (by decide +kernel)
theorem wd_1103 : Cond.methodLink RX11 260 yX2_awayMany ∈ tb := tb_in (List.mem_of_getElem? (i := 1103) (by decide +kernel)) (by decide +kernel)
theorem wd_1104 : Cond.instanceMethod yX2_awayMany ∈ tb := tb_in (List.mem_of_getElem? (i := 1104) (by decide +kernel)) (by decide +kernel)
theorem wd_1105 : Cond.selects RX2 yX2_awayMany yX2_awayMany ∈ tb := tb_in (List.mem_of_getElem? (i := 1105) (by decide +kernel)) (by decide +kernel)
theorem wd_1106 : Cond.code yX2_awayMany cX2_awayMany 3 (some .int) ∈ tb := tb_in (List.mem_of_getElem? (i := 1106) (by decide +kernel)) (by decide +kernel)
theorem wd_1107 : Cond.methodLink RL 81 yX11_perform ∈ tb := tb_in (List.mem_of_getElem? (i := 1107) (by decide +kernel)) (by decide +kernel)
theorem wd_1108 : Cond.instanceMethod yX11_perform ∈ tb := tb_in (List.mem_of_getElem? (i := 1108) (by decide +kernel)) (by decide +kernel)
theorem wd_1109 : Cond.selects RX11 yX11_perform yX11_perform ∈ tb := tb_in (List.mem_of_getElem? (i := 1109) (by decide +kernel)) (by decide +kernel)
theorem wd_1110 : Cond.code yX11_perform cX11_perform 4 (some .int) ∈ tb := tb_in (List.mem_of_getElem? (i := 1110) (by decide +kernel)) (by decide +kernel)
theorem wd_1111 : Cond.methodLink RX11 263 yX11_trayCode ∈ tb := tb_in (List.mem_of_getElem? (i := 1111) (by decide +kernel)) (by decide +kernel)
theorem wd_1113 : Cond.instanceMethod yX11_trayCode ∈ tb := tb_in (List.mem_of_getElem? (i := 1113) (by decide +kernel)) (by decide +kernel)
theorem wd_1114 : Cond.code yX11_trayCode cX11_trayCode 2 (some .int) ∈ tb := tb_in (List.mem_of_getElem? (i := 1114) (by decide +kernel)) (by decide +kernel)
theorem wd_1115 : Cond.methodLink RX11 266 yX11_keepIfSome ∈ tb := tb_in (List.mem_of_getElem? (i := 1115) (by decide +kernel)) (by decide +kernel)
theorem wd_1117 : Cond.instanceMethod yX11_keepIfSome ∈ tb := tb_in (List.mem_of_getElem? (i := 1117) (by decide +kernel)) (by decide +kernel)
theorem wd_1118 : Cond.code yX11_keepIfSome cX11_keepIfSome 1 none ∈ tb := tb_in (List.mem_of_getElem? (i := 1118) (by decide +kernel)) (by decide +kernel)
theorem wd_1119 : Cond.methodLink RL 85 yX11_year ∈ tb := tb_in (List.mem_of_getElem? (i := 1119) (by decide +kernel)) (by decide +kernel)
theorem wd_1120 : Cond.instanceMethod yX11_year ∈ tb := tb_in (List.mem_of_getElem? (i := 1120) (by decide +kernel)) (by decide +kernel)
theorem wd_1121 : Cond.selects RX11 yX11_year yX11_year ∈ tb := tb_in (List.mem_of_getElem? (i := 1121) (by decide +kernel)) (by decide +kernel)
theorem wd_1122 : Cond.code yX11_year cX11_year 4 (some .int) ∈ tb := tb_in (List.mem_of_getElem? (i := 1122) (by decide +kernel)) (by decide +kernel)
theorem wd_1123 : Cond.methodLink RX11 269 yX0_doYear ∈ tb := tb_in (List.mem_of_getElem? (i := 1123) (by decide +kernel)) (by decide +kernel)
theorem wd_1124 : Cond.instanceMethod yX0_doYear ∈ tb := tb_in (List.mem_of_getElem? (i := 1124) (by decide +kernel)) (by decide +kernel)
theorem wd_1125 : Cond.selects RX0 yX0_doYear yX0_doYear ∈ tb := tb_in (List.mem_of_getElem? (i := 1125) (by decide +kernel)) (by decide +kernel)
theorem wd_1126 : Cond.code yX0_doYear cX0_doYear 5 (some .int) ∈ tb := tb_in (List.mem_of_getElem? (i := 1126) (by decide +kernel)) (by decide +kernel)
theorem wd_1127 : Cond.methodLink RX0 163 yX0_doByLot ∈ tb := tb_in (List.mem_of_getElem? (i := 1127) (by decide +kernel)) (by decide +kernel)
theorem wd_1129 : Cond.instanceMethod yX0_doByLot ∈ tb := tb_in (List.mem_of_getElem? (i := 1129) (by decide +kernel)) (by decide +kernel)
theorem wd_1130 : Cond.code yX0_doByLot cX0_doByLot 3 (some .int) ∈ tb := tb_in (List.mem_of_getElem? (i := 1130) (by decide +kernel)) (by decide +kernel)
theorem wd_1131 : Cond.methodLink RX0 166 yX0_nextLot ∈ tb := tb_in (List.mem_of_getElem? (i := 1131) (by decide +kernel)) (by decide +kernel)
theorem wd_1133 : Cond.instanceMethod yX0_nextLot ∈ tb := tb_in (List.mem_of_getElem? (i := 1133) (by decide +kernel)) (by decide +kernel)
theorem wd_1134 : Cond.code yX0_nextLot cX0_nextLot 1 (some .int) ∈ tb := tb_in (List.mem_of_getElem? (i := 1134) (by decide +kernel)) (by decide +kernel)
theorem wd_1135 : Cond.constant RX0 169 1103515245 ∈ tb := tb_in (List.mem_of_getElem? (i := 1135) (by decide +kernel)) (by decide +kernel)
theorem wd_1136 : Cond.methodLink RL 89 yX11_maps ∈ tb := tb_in (List.mem_of_getElem? (i := 1136) (by decide +kernel)) (by decide +kernel)
theorem wd_1137 : Cond.instanceMethod yX11_maps ∈ tb := tb_in (List.mem_of_getElem? (i := 1137) (by decide +kernel)) (by decide +kernel)
theorem wd_1138 : Cond.selects RX11 yX11_maps yX11_maps ∈ tb := tb_in (List.mem_of_getElem? (i := 1138) (by decide +kernel)) (by decide +kernel)
theorem wd_1139 : Cond.code yX11_maps cX11_maps 1 (some .int) ∈ tb := tb_in (List.mem_of_getElem? (i := 1139) (by decide +kernel)) (by decide +kernel)
theorem wd_1140 : Cond.methodLink RX11 276 yX11_tallyAll ∈ tb := tb_in (List.mem_of_getElem? (i := 1140) (by decide +kernel)) (by decide +kernel)
theorem wd_1142 : Cond.instanceMethod yX11_tallyAll ∈ tb := tb_in (List.mem_of_getElem? (i := 1142) (by decide +kernel)) (by decide +kernel)
theorem wd_1143 : Cond.code yX11_tallyAll cX11_tallyAll 1 (some .int) ∈ tb := tb_in (List.mem_of_getElem? (i := 1143) (by decide +kernel)) (by decide +kernel)
theorem wd_1144 : Cond.methodLink RX11 302 yX5_tally ∈ tb := tb_in (List.mem_of_getElem? (i := 1144) (by decide +kernel)) (by decide +kernel)
theorem wd_1145 : Cond.methodLink RL 93 yX11_inMap ∈ tb := tb_in (List.mem_of_getElem? (i := 1145) (by decide +kernel)) (by decide +kernel)
theorem wd_1146 : Cond.instanceMethod yX11_inMap ∈ tb := tb_in (List.mem_of_getElem? (i := 1146) (by decide +kernel)) (by decide +kernel)
theorem wd_1147 : Cond.selects RX11 yX11_inMap yX11_inMap ∈ tb := tb_in (List.mem_of_getElem? (i := 1147) (by decide +kernel)) (by decide +kernel)
theorem wd_1148 : Cond.code yX11_inMap cX11_inMap 3 (some .int) ∈ tb := tb_in (List.mem_of_getElem? (i := 1148) (by decide +kernel)) (by decide +kernel)
theorem wd_1149 : Cond.methodLink RX11 279 yX5_find ∈ tb := tb_in (List.mem_of_getElem? (i := 1149) (by decide +kernel)) (by decide +kernel)
theorem wd_1150 : Cond.methodLink RL 97 yX11_with ∈ tb := tb_in (List.mem_of_getElem? (i := 1150) (by decide +kernel)) (by decide +kernel)
theorem wd_1151 : Cond.instanceMethod yX11_with ∈ tb := tb_in (List.mem_of_getElem? (i := 1151) (by decide +kernel)) (by decide +kernel)
theorem wd_1152 : Cond.selects RX11 yX11_with yX11_with ∈ tb := tb_in (List.mem_of_getElem? (i := 1152) (by decide +kernel)) (by decide +kernel)
theorem wd_1153 : Cond.code yX11_with cX11_with 3 (some .int) ∈ tb := tb_in (List.mem_of_getElem? (i := 1153) (by decide +kernel)) (by decide +kernel)
theorem wd_1154 : Cond.methodLink RX11 283 yX11_copyRows ∈ tb := tb_in (List.mem_of_getElem? (i := 1154) (by decide +kernel)) (by decide +kernel)
theorem wd_1156 : Cond.instanceMethod yX11_copyRows ∈ tb := tb_in (List.mem_of_getElem? (i := 1156) (by decide +kernel)) (by decide +kernel)
theorem wd_1157 : Cond.code yX11_copyRows cX11_copyRows 1 none ∈ tb := tb_in (List.mem_of_getElem? (i := 1157) (by decide +kernel)) (by decide +kernel)
theorem wd_1158 : Cond.methodLink RX11 309 arraycopyName ∈ tb := tb_in (List.mem_of_getElem? (i := 1158) (by decide +kernel)) (by decide +kernel)
theorem wd_1159 : Cond.methodLink RX11 286 yX11_tallyRows ∈ tb := tb_in (List.mem_of_getElem? (i := 1159) (by decide +kernel)) (by decide +kernel)
theorem wd_1161 : Cond.instanceMethod yX11_tallyRows ∈ tb := tb_in (List.mem_of_getElem? (i := 1161) (by decide +kernel)) (by decide +kernel)
theorem wd_1162 : Cond.code yX11_tallyRows cX11_tallyRows 1 (some .int) ∈ tb := tb_in (List.mem_of_getElem? (i := 1162) (by decide +kernel)) (by decide +kernel)
theorem wd_1163 : Cond.methodLink RL 101 yX11_near ∈ tb := tb_in (List.mem_of_getElem? (i := 1163) (by decide +kernel)) (by decide +kernel)
theorem wd_1164 : Cond.instanceMethod yX11_near ∈ tb := tb_in (List.mem_of_getElem? (i := 1164) (by decide +kernel)) (by decide +kernel)
theorem wd_1165 : Cond.selects RX11 yX11_near yX11_near ∈ tb := tb_in (List.mem_of_getElem? (i := 1165) (by decide +kernel)) (by decide +kernel)
theorem wd_1166 : Cond.code yX11_near cX11_near 6 (some .int) ∈ tb := tb_in (List.mem_of_getElem? (i := 1166) (by decide +kernel)) (by decide +kernel)
theorem wd_1167 : Cond.methodLink RX11 289 yX2_flatBelow ∈ tb := tb_in (List.mem_of_getElem? (i := 1167) (by decide +kernel)) (by decide +kernel)
theorem wd_1168 : Cond.instanceMethod yX2_flatBelow ∈ tb := tb_in (List.mem_of_getElem? (i := 1168) (by decide +kernel)) (by decide +kernel)
theorem wd_1169 : Cond.selects RX2 yX2_flatBelow yX2_flatBelow ∈ tb := tb_in (List.mem_of_getElem? (i := 1169) (by decide +kernel)) (by decide +kernel)
theorem wd_1170 : Cond.code yX2_flatBelow cX2_flatBelow 2 (some .int) ∈ tb := tb_in (List.mem_of_getElem? (i := 1170) (by decide +kernel)) (by decide +kernel)
theorem wd_1171 : Cond.methodLink RX2 85 yX2_flatAt ∈ tb := tb_in (List.mem_of_getElem? (i := 1171) (by decide +kernel)) (by decide +kernel)
theorem wd_1172 : Cond.methodLink RX11 292 yX11_mapsWithBoth ∈ tb := tb_in (List.mem_of_getElem? (i := 1172) (by decide +kernel)) (by decide +kernel)
theorem wd_1174 : Cond.instanceMethod yX11_mapsWithBoth ∈ tb := tb_in (List.mem_of_getElem? (i := 1174) (by decide +kernel)) (by decide +kernel)
theorem wd_1175 : Cond.code yX11_mapsWithBoth cX11_mapsWithBoth 5 (some .int) ∈ tb := tb_in (List.mem_of_getElem? (i := 1175) (by decide +kernel)) (by decide +kernel)
theorem wd_1176 : Cond.methodLink RL 105 yX11_allElse ∈ tb := tb_in (List.mem_of_getElem? (i := 1176) (by decide +kernel)) (by decide +kernel)
theorem wd_1177 : Cond.instanceMethod yX11_allElse ∈ tb := tb_in (List.mem_of_getElem? (i := 1177) (by decide +kernel)) (by decide +kernel)
theorem wd_1178 : Cond.selects RX11 yX11_allElse yX11_allElse ∈ tb := tb_in (List.mem_of_getElem? (i := 1178) (by decide +kernel)) (by decide +kernel)
theorem wd_1179 : Cond.code yX11_allElse cX11_allElse 3 (some .int) ∈ tb := tb_in (List.mem_of_getElem? (i := 1179) (by decide +kernel)) (by decide +kernel)
theorem wd_1180 : Cond.methodLink RL 109 yX11_likeliest ∈ tb := tb_in (List.mem_of_getElem? (i := 1180) (by decide +kernel)) (by decide +kernel)
theorem wd_1181 : Cond.instanceMethod yX11_likeliest ∈ tb := tb_in (List.mem_of_getElem? (i := 1181) (by decide +kernel)) (by decide +kernel)
theorem wd_1182 : Cond.selects RX11 yX11_likeliest yX11_likeliest ∈ tb := tb_in (List.mem_of_getElem? (i := 1182) (by decide +kernel)) (by decide +kernel)
theorem wd_1183 : Cond.code yX11_likeliest cX11_likeliest 6 (some .int) ∈ tb := tb_in (List.mem_of_getElem? (i := 1183) (by decide +kernel)) (by decide +kernel)
theorem wd_1184 : Cond.methodLink RX11 296 yX5_tallyEach ∈ tb := tb_in (List.mem_of_getElem? (i := 1184) (by decide +kernel)) (by decide +kernel)
theorem wd_1185 : Cond.instanceMethod yX5_tallyEach ∈ tb := tb_in (List.mem_of_getElem? (i := 1185) (by decide +kernel)) (by decide +kernel)
theorem wd_1186 : Cond.selects RX5 yX5_tallyEach yX5_tallyEach ∈ tb := tb_in (List.mem_of_getElem? (i := 1186) (by decide +kernel)) (by decide +kernel)
theorem wd_1187 : Cond.code yX5_tallyEach cX5_tallyEach 3 none ∈ tb := tb_in (List.mem_of_getElem? (i := 1187) (by decide +kernel)) (by decide +kernel)
theorem wd_1188 : Cond.methodLink RX5 58 yJ7_fill_53178 ∈ tb := tb_in (List.mem_of_getElem? (i := 1188) (by decide +kernel)) (by decide +kernel)
theorem wd_1189 : Cond.methodLink RX5 64 yX5_passOn ∈ tb := tb_in (List.mem_of_getElem? (i := 1189) (by decide +kernel)) (by decide +kernel)
theorem wd_1191 : Cond.instanceMethod yX5_passOn ∈ tb := tb_in (List.mem_of_getElem? (i := 1191) (by decide +kernel)) (by decide +kernel)
theorem wd_1192 : Cond.code yX5_passOn cX5_passOn 5 none ∈ tb := tb_in (List.mem_of_getElem? (i := 1192) (by decide +kernel)) (by decide +kernel)
theorem wd_1193 : Cond.methodLink RL 113 yX11_sure ∈ tb := tb_in (List.mem_of_getElem? (i := 1193) (by decide +kernel)) (by decide +kernel)
theorem wd_1194 : Cond.instanceMethod yX11_sure ∈ tb := tb_in (List.mem_of_getElem? (i := 1194) (by decide +kernel)) (by decide +kernel)
theorem wd_1195 : Cond.selects RX11 yX11_sure yX11_sure ∈ tb := tb_in (List.mem_of_getElem? (i := 1195) (by decide +kernel)) (by decide +kernel)
theorem wd_1196 : Cond.code yX11_sure cX11_sure 8 (some .int) ∈ tb := tb_in (List.mem_of_getElem? (i := 1196) (by decide +kernel)) (by decide +kernel)
theorem wd_1197 : Cond.methodLink RL 117 yX11_tooMany ∈ tb := tb_in (List.mem_of_getElem? (i := 1197) (by decide +kernel)) (by decide +kernel)
theorem wd_1198 : Cond.instanceMethod yX11_tooMany ∈ tb := tb_in (List.mem_of_getElem? (i := 1198) (by decide +kernel)) (by decide +kernel)
theorem wd_1199 : Cond.selects RX11 yX11_tooMany yX11_tooMany ∈ tb := tb_in (List.mem_of_getElem? (i := 1199) (by decide +kernel)) (by decide +kernel)
theorem wd_1200 : Cond.code yX11_tooMany cX11_tooMany 4 (some .int) ∈ tb := tb_in (List.mem_of_getElem? (i := 1200) (by decide +kernel)) (by decide +kernel)
theorem wd_1201 : Cond.methodLink RL 121 yX11_best ∈ tb := tb_in (List.mem_of_getElem? (i := 1201) (by decide +kernel)) (by decide +kernel)
theorem wd_1202 : Cond.instanceMethod yX11_best ∈ tb := tb_in (List.mem_of_getElem? (i := 1202) (by decide +kernel)) (by decide +kernel)
theorem wd_1203 : Cond.selects RX11 yX11_best yX11_best ∈ tb := tb_in (List.mem_of_getElem? (i := 1203) (by decide +kernel)) (by decide +kernel)
theorem wd_1204 : Cond.code yX11_best cX11_best 3 (some .int) ∈ tb := tb_in (List.mem_of_getElem? (i := 1204) (by decide +kernel)) (by decide +kernel)
theorem wd_1205 : Cond.methodLink RX11 315 yX11_asksOfMap ∈ tb := tb_in (List.mem_of_getElem? (i := 1205) (by decide +kernel)) (by decide +kernel)
theorem wd_1206 : Cond.static yX11_asksOfMap ∈ tb := tb_in (List.mem_of_getElem? (i := 1206) (by decide +kernel)) (by decide +kernel)
theorem wd_1207 : Cond.code yX11_asksOfMap cX11_asksOfMap 1 (some .boolean) ∈ tb := tb_in (List.mem_of_getElem? (i := 1207) (by decide +kernel)) (by decide +kernel)
theorem wd_1208 : Cond.methodLink RX11 318 yX5_mostInSum ∈ tb := tb_in (List.mem_of_getElem? (i := 1208) (by decide +kernel)) (by decide +kernel)
theorem wd_1209 : Cond.instanceMethod yX5_mostInSum ∈ tb := tb_in (List.mem_of_getElem? (i := 1209) (by decide +kernel)) (by decide +kernel)
theorem wd_1210 : Cond.selects RX5 yX5_mostInSum yX5_mostInSum ∈ tb := tb_in (List.mem_of_getElem? (i := 1210) (by decide +kernel)) (by decide +kernel)
theorem wd_1211 : Cond.code yX5_mostInSum cX5_mostInSum 5 (some .int) ∈ tb := tb_in (List.mem_of_getElem? (i := 1211) (by decide +kernel)) (by decide +kernel)
theorem wd_1212 : Cond.constant RX5 72 (-1000000000) ∈ tb := tb_in (List.mem_of_getElem? (i := 1212) (by decide +kernel)) (by decide +kernel)
theorem wd_1213 : Cond.methodLink RX11 322 yX5_pickMostInSum ∈ tb := tb_in (List.mem_of_getElem? (i := 1213) (by decide +kernel)) (by decide +kernel)
theorem wd_1214 : Cond.instanceMethod yX5_pickMostInSum ∈ tb := tb_in (List.mem_of_getElem? (i := 1214) (by decide +kernel)) (by decide +kernel)
theorem wd_1215 : Cond.selects RX5 yX5_pickMostInSum yX5_pickMostInSum ∈ tb := tb_in (List.mem_of_getElem? (i := 1215) (by decide +kernel)) (by decide +kernel)
theorem wd_1216 : Cond.code yX5_pickMostInSum cX5_pickMostInSum 6 none ∈ tb := tb_in (List.mem_of_getElem? (i := 1216) (by decide +kernel)) (by decide +kernel)
theorem wd_1217 : Cond.methodLink RX5 73 yX5_isOfMost ∈ tb := tb_in (List.mem_of_getElem? (i := 1217) (by decide +kernel)) (by decide +kernel)
theorem wd_1219 : Cond.instanceMethod yX5_isOfMost ∈ tb := tb_in (List.mem_of_getElem? (i := 1219) (by decide +kernel)) (by decide +kernel)
theorem wd_1220 : Cond.code yX5_isOfMost cX5_isOfMost 5 (some .boolean) ∈ tb := tb_in (List.mem_of_getElem? (i := 1220) (by decide +kernel)) (by decide +kernel)
theorem wd_1221 : Cond.methodLink RX11 326 yX11_pickedFlat ∈ tb := tb_in (List.mem_of_getElem? (i := 1221) (by decide +kernel)) (by decide +kernel)
theorem wd_1223 : Cond.instanceMethod yX11_pickedFlat ∈ tb := tb_in (List.mem_of_getElem? (i := 1223) (by decide +kernel)) (by decide +kernel)
theorem wd_1224 : Cond.code yX11_pickedFlat cX11_pickedFlat 3 (some .int) ∈ tb := tb_in (List.mem_of_getElem? (i := 1224) (by decide +kernel)) (by decide +kernel)
theorem wd_1225 : Cond.methodLink RL 125 yX11_fairest ∈ tb := tb_in (List.mem_of_getElem? (i := 1225) (by decide +kernel)) (by decide +kernel)
theorem wd_1226 : Cond.instanceMethod yX11_fairest ∈ tb := tb_in (List.mem_of_getElem? (i := 1226) (by decide +kernel)) (by decide +kernel)
theorem wd_1227 : Cond.selects RX11 yX11_fairest yX11_fairest ∈ tb := tb_in (List.mem_of_getElem? (i := 1227) (by decide +kernel)) (by decide +kernel)
theorem wd_1228 : Cond.code yX11_fairest cX11_fairest 3 (some .int) ∈ tb := tb_in (List.mem_of_getElem? (i := 1228) (by decide +kernel)) (by decide +kernel)
theorem wd_1229 : Cond.methodLink RX11 329 yX5_greatestLeast ∈ tb := tb_in (List.mem_of_getElem? (i := 1229) (by decide +kernel)) (by decide +kernel)
theorem wd_1230 : Cond.instanceMethod yX5_greatestLeast ∈ tb := tb_in (List.mem_of_getElem? (i := 1230) (by decide +kernel)) (by decide +kernel)
theorem wd_1231 : Cond.selects RX5 yX5_greatestLeast yX5_greatestLeast ∈ tb := tb_in (List.mem_of_getElem? (i := 1231) (by decide +kernel)) (by decide +kernel)
theorem wd_1232 : Cond.code yX5_greatestLeast cX5_greatestLeast 6 (some .int) ∈ tb := tb_in (List.mem_of_getElem? (i := 1232) (by decide +kernel)) (by decide +kernel)
theorem wd_1233 : Cond.constant RX5 77 1000000000 ∈ tb := tb_in (List.mem_of_getElem? (i := 1233) (by decide +kernel)) (by decide +kernel)
theorem wd_1234 : Cond.methodLink RX11 332 yX11_keepRowsOfWorth ∈ tb := tb_in (List.mem_of_getElem? (i := 1234) (by decide +kernel)) (by decide +kernel)
theorem wd_1236 : Cond.instanceMethod yX11_keepRowsOfWorth ∈ tb := tb_in (List.mem_of_getElem? (i := 1236) (by decide +kernel)) (by decide +kernel)
theorem wd_1237 : Cond.code yX11_keepRowsOfWorth cX11_keepRowsOfWorth 4 none ∈ tb := tb_in (List.mem_of_getElem? (i := 1237) (by decide +kernel)) (by decide +kernel)
theorem wd_1238 : Cond.methodLink RL 129 yX11_stillest ∈ tb := tb_in (List.mem_of_getElem? (i := 1238) (by decide +kernel)) (by decide +kernel)
theorem wd_1239 : Cond.instanceMethod yX11_stillest ∈ tb := tb_in (List.mem_of_getElem? (i := 1239) (by decide +kernel)) (by decide +kernel)
theorem wd_1240 : Cond.selects RX11 yX11_stillest yX11_stillest ∈ tb := tb_in (List.mem_of_getElem? (i := 1240) (by decide +kernel)) (by decide +kernel)
theorem wd_1241 : Cond.code yX11_stillest cX11_stillest 2 (some .int) ∈ tb := tb_in (List.mem_of_getElem? (i := 1241) (by decide +kernel)) (by decide +kernel)
theorem wd_1242 : Cond.methodLink RX11 335 yX6_search ∈ tb := tb_in (List.mem_of_getElem? (i := 1242) (by decide +kernel)) (by decide +kernel)
theorem wd_1243 : Cond.instanceMethod yX6_search ∈ tb := tb_in (List.mem_of_getElem? (i := 1243) (by decide +kernel)) (by decide +kernel)
theorem wd_1244 : Cond.selects RX6 yX6_search yX6_search ∈ tb := tb_in (List.mem_of_getElem? (i := 1244) (by decide +kernel)) (by decide +kernel)
theorem wd_1245 : Cond.code yX6_search cX6_search 3 none ∈ tb := tb_in (List.mem_of_getElem? (i := 1245) (by decide +kernel)) (by decide +kernel)
theorem wd_1246 : Cond.methodLink RX6 60 yJ7_fill_53178 ∈ tb := tb_in (List.mem_of_getElem? (i := 1246) (by decide +kernel)) (by decide +kernel)
theorem wd_1247 : Cond.methodLink RX6 43 yX2_flatBelow ∈ tb := tb_in (List.mem_of_getElem? (i := 1247) (by decide +kernel)) (by decide +kernel)
theorem wd_1248 : Cond.constant RX6 66 1000000 ∈ tb := tb_in (List.mem_of_getElem? (i := 1248) (by decide +kernel)) (by decide +kernel)
theorem wd_1249 : Cond.methodLink RX6 67 yX6_seek ∈ tb := tb_in (List.mem_of_getElem? (i := 1249) (by decide +kernel)) (by decide +kernel)
theorem wd_1251 : Cond.instanceMethod yX6_seek ∈ tb := tb_in (List.mem_of_getElem? (i := 1251) (by decide +kernel)) (by decide +kernel)
theorem wd_1252 : Cond.code yX6_seek cX6_seek 6 none ∈ tb := tb_in (List.mem_of_getElem? (i := 1252) (by decide +kernel)) (by decide +kernel)
theorem wd_1253 : Cond.methodLink RX6 74 arraycopyName ∈ tb := tb_in (List.mem_of_getElem? (i := 1253) (by decide +kernel)) (by decide +kernel)
theorem wd_1254 : Cond.methodLink RX6 80 yX5_goesOn ∈ tb := tb_in (List.mem_of_getElem? (i := 1254) (by decide +kernel)) (by decide +kernel)
theorem wd_1255 : Cond.methodLink RX6 86 yX6_harmAround ∈ tb := tb_in (List.mem_of_getElem? (i := 1255) (by decide +kernel)) (by decide +kernel)
theorem wd_1257 : Cond.instanceMethod yX6_harmAround ∈ tb := tb_in (List.mem_of_getElem? (i := 1257) (by decide +kernel)) (by decide +kernel)
theorem wd_1258 : Cond.code yX6_harmAround cX6_harmAround 4 (some .int) ∈ tb := tb_in (List.mem_of_getElem? (i := 1258) (by decide +kernel)) (by decide +kernel)
theorem wd_1259 : Cond.methodLink RX6 50 yX6_harmOf ∈ tb := tb_in (List.mem_of_getElem? (i := 1259) (by decide +kernel)) (by decide +kernel)
theorem wd_1261 : Cond.instanceMethod yX6_harmOf ∈ tb := tb_in (List.mem_of_getElem? (i := 1261) (by decide +kernel)) (by decide +kernel)
theorem wd_1262 : Cond.code yX6_harmOf cX6_harmOf 3 (some .int) ∈ tb := tb_in (List.mem_of_getElem? (i := 1262) (by decide +kernel)) (by decide +kernel)
theorem wd_1263 : Cond.methodLink RX6 54 yX2_trait ∈ tb := tb_in (List.mem_of_getElem? (i := 1263) (by decide +kernel)) (by decide +kernel)
theorem wd_1264 : Cond.methodLink RL 133 yX11_bestMending ∈ tb := tb_in (List.mem_of_getElem? (i := 1264) (by decide +kernel)) (by decide +kernel)
theorem wd_1265 : Cond.instanceMethod yX11_bestMending ∈ tb := tb_in (List.mem_of_getElem? (i := 1265) (by decide +kernel)) (by decide +kernel)
theorem wd_1266 : Cond.selects RX11 yX11_bestMending yX11_bestMending ∈ tb := tb_in (List.mem_of_getElem? (i := 1266) (by decide +kernel)) (by decide +kernel)
theorem wd_1267 : Cond.code yX11_bestMending cX11_bestMending 6 (some .int) ∈ tb := tb_in (List.mem_of_getElem? (i := 1267) (by decide +kernel)) (by decide +kernel)
theorem wd_1268 : Cond.methodLink RX11 345 yX2_setFaults ∈ tb := tb_in (List.mem_of_getElem? (i := 1268) (by decide +kernel)) (by decide +kernel)
theorem wd_1269 : Cond.methodLink RL 137 yX11_thisMap ∈ tb := tb_in (List.mem_of_getElem? (i := 1269) (by decide +kernel)) (by decide +kernel)
theorem wd_1270 : Cond.instanceMethod yX11_thisMap ∈ tb := tb_in (List.mem_of_getElem? (i := 1270) (by decide +kernel)) (by decide +kernel)
theorem wd_1271 : Cond.selects RX11 yX11_thisMap yX11_thisMap ∈ tb := tb_in (List.mem_of_getElem? (i := 1271) (by decide +kernel)) (by decide +kernel)
theorem wd_1272 : Cond.code yX11_thisMap cX11_thisMap 3 (some .int) ∈ tb := tb_in (List.mem_of_getElem? (i := 1272) (by decide +kernel)) (by decide +kernel)
theorem wd_1273 : Cond.methodLink RX11 349 yX5_numberOf ∈ tb := tb_in (List.mem_of_getElem? (i := 1273) (by decide +kernel)) (by decide +kernel)
theorem wd_1274 : Cond.instanceMethod yX5_numberOf ∈ tb := tb_in (List.mem_of_getElem? (i := 1274) (by decide +kernel)) (by decide +kernel)
theorem wd_1275 : Cond.selects RX5 yX5_numberOf yX5_numberOf ∈ tb := tb_in (List.mem_of_getElem? (i := 1275) (by decide +kernel)) (by decide +kernel)
theorem wd_1276 : Cond.code yX5_numberOf cX5_numberOf 6 (some .int) ∈ tb := tb_in (List.mem_of_getElem? (i := 1276) (by decide +kernel)) (by decide +kernel)
theorem wd_1277 : Cond.methodLink RL 141 yX11_harm ∈ tb := tb_in (List.mem_of_getElem? (i := 1277) (by decide +kernel)) (by decide +kernel)
theorem wd_1278 : Cond.instanceMethod yX11_harm ∈ tb := tb_in (List.mem_of_getElem? (i := 1278) (by decide +kernel)) (by decide +kernel)
theorem wd_1279 : Cond.selects RX11 yX11_harm yX11_harm ∈ tb := tb_in (List.mem_of_getElem? (i := 1279) (by decide +kernel)) (by decide +kernel)
theorem wd_1280 : Cond.code yX11_harm cX11_harm 1 (some .int) ∈ tb := tb_in (List.mem_of_getElem? (i := 1280) (by decide +kernel)) (by decide +kernel)
theorem wd_1281 : Cond.methodLink RX11 352 yX6_harmNow ∈ tb := tb_in (List.mem_of_getElem? (i := 1281) (by decide +kernel)) (by decide +kernel)
theorem wd_1282 : Cond.instanceMethod yX6_harmNow ∈ tb := tb_in (List.mem_of_getElem? (i := 1282) (by decide +kernel)) (by decide +kernel)
theorem wd_1283 : Cond.selects RX6 yX6_harmNow yX6_harmNow ∈ tb := tb_in (List.mem_of_getElem? (i := 1283) (by decide +kernel)) (by decide +kernel)
theorem wd_1284 : Cond.code yX6_harmNow cX6_harmNow 4 (some .int) ∈ tb := tb_in (List.mem_of_getElem? (i := 1284) (by decide +kernel)) (by decide +kernel)
theorem wd_1285 : Cond.methodLink RX6 47 yX2_dwellerOf ∈ tb := tb_in (List.mem_of_getElem? (i := 1285) (by decide +kernel)) (by decide +kernel)
theorem wd_1286 : Cond.methodLink RL 145 yX11_envies ∈ tb := tb_in (List.mem_of_getElem? (i := 1286) (by decide +kernel)) (by decide +kernel)
theorem wd_1287 : Cond.instanceMethod yX11_envies ∈ tb := tb_in (List.mem_of_getElem? (i := 1287) (by decide +kernel)) (by decide +kernel)
theorem wd_1288 : Cond.selects RX11 yX11_envies yX11_envies ∈ tb := tb_in (List.mem_of_getElem? (i := 1288) (by decide +kernel)) (by decide +kernel)
theorem wd_1289 : Cond.code yX11_envies cX11_envies 4 (some .int) ∈ tb := tb_in (List.mem_of_getElem? (i := 1289) (by decide +kernel)) (by decide +kernel)
theorem wd_1290 : Cond.methodLink RX11 355 yX9_isEnvious ∈ tb := tb_in (List.mem_of_getElem? (i := 1290) (by decide +kernel)) (by decide +kernel)
theorem wd_1291 : Cond.instanceMethod yX9_isEnvious ∈ tb := tb_in (List.mem_of_getElem? (i := 1291) (by decide +kernel)) (by decide +kernel)
theorem wd_1292 : Cond.selects RX9 yX9_isEnvious yX9_isEnvious ∈ tb := tb_in (List.mem_of_getElem? (i := 1292) (by decide +kernel)) (by decide +kernel)
theorem wd_1293 : Cond.code yX9_isEnvious cX9_isEnvious 5 (some .boolean) ∈ tb := tb_in (List.mem_of_getElem? (i := 1293) (by decide +kernel)) (by decide +kernel)
theorem wd_1294 : Cond.methodLink RX9 74 yX9_permits ∈ tb := tb_in (List.mem_of_getElem? (i := 1294) (by decide +kernel)) (by decide +kernel)
theorem wd_1295 : Cond.methodLink RL 149 yX11_wouldSwap ∈ tb := tb_in (List.mem_of_getElem? (i := 1295) (by decide +kernel)) (by decide +kernel)
theorem wd_1296 : Cond.instanceMethod yX11_wouldSwap ∈ tb := tb_in (List.mem_of_getElem? (i := 1296) (by decide +kernel)) (by decide +kernel)
theorem wd_1297 : Cond.selects RX11 yX11_wouldSwap yX11_wouldSwap ∈ tb := tb_in (List.mem_of_getElem? (i := 1297) (by decide +kernel)) (by decide +kernel)
theorem wd_1298 : Cond.code yX11_wouldSwap cX11_wouldSwap 3 (some .int) ∈ tb := tb_in (List.mem_of_getElem? (i := 1298) (by decide +kernel)) (by decide +kernel)
theorem wd_1299 : Cond.methodLink RL 153 yX11_byRings ∈ tb := tb_in (List.mem_of_getElem? (i := 1299) (by decide +kernel)) (by decide +kernel)
theorem wd_1300 : Cond.instanceMethod yX11_byRings ∈ tb := tb_in (List.mem_of_getElem? (i := 1300) (by decide +kernel)) (by decide +kernel)
theorem wd_1301 : Cond.selects RX11 yX11_byRings yX11_byRings ∈ tb := tb_in (List.mem_of_getElem? (i := 1301) (by decide +kernel)) (by decide +kernel)
theorem wd_1302 : Cond.code yX11_byRings cX11_byRings 2 (some .int) ∈ tb := tb_in (List.mem_of_getElem? (i := 1302) (by decide +kernel)) (by decide +kernel)
theorem wd_1303 : Cond.methodLink RX11 358 yX8_turn ∈ tb := tb_in (List.mem_of_getElem? (i := 1303) (by decide +kernel)) (by decide +kernel)
theorem wd_1304 : Cond.methodLink RL 157 yX11_ringsMany ∈ tb := tb_in (List.mem_of_getElem? (i := 1304) (by decide +kernel)) (by decide +kernel)
theorem wd_1305 : Cond.instanceMethod yX11_ringsMany ∈ tb := tb_in (List.mem_of_getElem? (i := 1305) (by decide +kernel)) (by decide +kernel)
theorem wd_1306 : Cond.selects RX11 yX11_ringsMany yX11_ringsMany ∈ tb := tb_in (List.mem_of_getElem? (i := 1306) (by decide +kernel)) (by decide +kernel)
theorem wd_1307 : Cond.code yX11_ringsMany cX11_ringsMany 1 (some .int) ∈ tb := tb_in (List.mem_of_getElem? (i := 1307) (by decide +kernel)) (by decide +kernel)
theorem wd_1308 : Cond.methodLink RL 161 yX11_moving ∈ tb := tb_in (List.mem_of_getElem? (i := 1308) (by decide +kernel)) (by decide +kernel)
theorem wd_1309 : Cond.instanceMethod yX11_moving ∈ tb := tb_in (List.mem_of_getElem? (i := 1309) (by decide +kernel)) (by decide +kernel)
theorem wd_1310 : Cond.selects RX11 yX11_moving yX11_moving ∈ tb := tb_in (List.mem_of_getElem? (i := 1310) (by decide +kernel)) (by decide +kernel)
theorem wd_1311 : Cond.code yX11_moving cX11_moving 4 (some .int) ∈ tb := tb_in (List.mem_of_getElem? (i := 1311) (by decide +kernel)) (by decide +kernel)
theorem wd_1312 : Cond.constant RX11 367 1000000 ∈ tb := tb_in (List.mem_of_getElem? (i := 1312) (by decide +kernel)) (by decide +kernel)
theorem wd_1313 : Cond.methodLink RX11 368 yX3_cheapest ∈ tb := tb_in (List.mem_of_getElem? (i := 1313) (by decide +kernel)) (by decide +kernel)
theorem wd_1314 : Cond.instanceMethod yX3_cheapest ∈ tb := tb_in (List.mem_of_getElem? (i := 1314) (by decide +kernel)) (by decide +kernel)
theorem wd_1315 : Cond.selects RX3 yX3_cheapest yX3_cheapest ∈ tb := tb_in (List.mem_of_getElem? (i := 1315) (by decide +kernel)) (by decide +kernel)
theorem wd_1316 : Cond.code yX3_cheapest cX3_cheapest 6 (some .int) ∈ tb := tb_in (List.mem_of_getElem? (i := 1316) (by decide +kernel)) (by decide +kernel)
theorem wd_1317 : Cond.methodLink RX3 44 yX3_gather ∈ tb := tb_in (List.mem_of_getElem? (i := 1317) (by decide +kernel)) (by decide +kernel)
theorem wd_1319 : Cond.instanceMethod yX3_gather ∈ tb := tb_in (List.mem_of_getElem? (i := 1319) (by decide +kernel)) (by decide +kernel)
theorem wd_1320 : Cond.code yX3_gather cX3_gather 5 (some .int) ∈ tb := tb_in (List.mem_of_getElem? (i := 1320) (by decide +kernel)) (by decide +kernel)
theorem wd_1321 : Cond.methodLink RX3 83 yX2_feature ∈ tb := tb_in (List.mem_of_getElem? (i := 1321) (by decide +kernel)) (by decide +kernel)
theorem wd_1322 : Cond.methodLink RX3 86 yX2_dwellerOf ∈ tb := tb_in (List.mem_of_getElem? (i := 1322) (by decide +kernel)) (by decide +kernel)
theorem wd_1323 : Cond.methodLink RX3 89 yX3_moverOf ∈ tb := tb_in (List.mem_of_getElem? (i := 1323) (by decide +kernel)) (by decide +kernel)
theorem wd_1325 : Cond.instanceMethod yX3_moverOf ∈ tb := tb_in (List.mem_of_getElem? (i := 1325) (by decide +kernel)) (by decide +kernel)
theorem wd_1326 : Cond.code yX3_moverOf cX3_moverOf 3 (some .int) ∈ tb := tb_in (List.mem_of_getElem? (i := 1326) (by decide +kernel)) (by decide +kernel)
theorem wd_1327 : Cond.methodLink RX3 48 yX3_floorsToGo ∈ tb := tb_in (List.mem_of_getElem? (i := 1327) (by decide +kernel)) (by decide +kernel)
theorem wd_1329 : Cond.instanceMethod yX3_floorsToGo ∈ tb := tb_in (List.mem_of_getElem? (i := 1329) (by decide +kernel)) (by decide +kernel)
theorem wd_1330 : Cond.code yX3_floorsToGo cX3_floorsToGo 6 (some .int) ∈ tb := tb_in (List.mem_of_getElem? (i := 1330) (by decide +kernel)) (by decide +kernel)
theorem wd_1331 : Cond.methodLink RX3 92 yX3_floorOf ∈ tb := tb_in (List.mem_of_getElem? (i := 1331) (by decide +kernel)) (by decide +kernel)
theorem wd_1333 : Cond.instanceMethod yX3_floorOf ∈ tb := tb_in (List.mem_of_getElem? (i := 1333) (by decide +kernel)) (by decide +kernel)
theorem wd_1334 : Cond.code yX3_floorOf cX3_floorOf 2 (some .int) ∈ tb := tb_in (List.mem_of_getElem? (i := 1334) (by decide +kernel)) (by decide +kernel)
theorem wd_1335 : Cond.methodLink RX3 95 Lib.Math.abs.name ∈ tb := tb_in (List.mem_of_getElem? (i := 1335) (by decide +kernel)) (by decide +kernel)
theorem wd_1336 : Cond.constant RX3 52 32000000 ∈ tb := tb_in (List.mem_of_getElem? (i := 1336) (by decide +kernel)) (by decide +kernel)
theorem wd_1337 : Cond.methodLink RX3 53 yJ7_fill_fda19 ∈ tb := tb_in (List.mem_of_getElem? (i := 1337) (by decide +kernel)) (by decide +kernel)
theorem wd_1338 : Cond.static yJ7_fill_fda19 ∈ tb := tb_in (List.mem_of_getElem? (i := 1338) (by decide +kernel)) (by decide +kernel)
theorem wd_1339 : Cond.code yJ7_fill_fda19 cJ7_fill_fda19 5 none ∈ tb := tb_in (List.mem_of_getElem? (i := 1339) (by decide +kernel)) (by decide +kernel)
theorem wd_1340 : Cond.methodLink RJ7 13 yJ7_rangeCheck_23922 ∈ tb := tb_in (List.mem_of_getElem? (i := 1340) (by decide +kernel)) (by decide +kernel)
theorem wd_1341 : Cond.static yJ7_rangeCheck_23922 ∈ tb := tb_in (List.mem_of_getElem? (i := 1341) (by decide +kernel)) (by decide +kernel)
theorem wd_1342 : Cond.code yJ7_rangeCheck_23922 cJ7_rangeCheck_23922 3 none ∈ tb := tb_in (List.mem_of_getElem? (i := 1342) (by decide +kernel)) (by decide +kernel)
theorem wd_1343 : Cond.methodLink RX3 59 yX3_expand ∈ tb := tb_in (List.mem_of_getElem? (i := 1343) (by decide +kernel)) (by decide +kernel)
theorem wd_1345 : Cond.instanceMethod yX3_expand ∈ tb := tb_in (List.mem_of_getElem? (i := 1345) (by decide +kernel)) (by decide +kernel)
theorem wd_1346 : Cond.code yX3_expand cX3_expand 6 none ∈ tb := tb_in (List.mem_of_getElem? (i := 1346) (by decide +kernel)) (by decide +kernel)
theorem wd_1347 : Cond.methodLink RX3 98 yX3_ride ∈ tb := tb_in (List.mem_of_getElem? (i := 1347) (by decide +kernel)) (by decide +kernel)
theorem wd_1349 : Cond.instanceMethod yX3_ride ∈ tb := tb_in (List.mem_of_getElem? (i := 1349) (by decide +kernel)) (by decide +kernel)
theorem wd_1350 : Cond.code yX3_ride cX3_ride 8 none ∈ tb := tb_in (List.mem_of_getElem? (i := 1350) (by decide +kernel)) (by decide +kernel)
theorem wd_1351 : Cond.methodLink RX3 102 yX3_arrive ∈ tb := tb_in (List.mem_of_getElem? (i := 1351) (by decide +kernel)) (by decide +kernel)
theorem wd_1353 : Cond.instanceMethod yX3_arrive ∈ tb := tb_in (List.mem_of_getElem? (i := 1353) (by decide +kernel)) (by decide +kernel)
theorem wd_1354 : Cond.code yX3_arrive cX3_arrive 5 none ∈ tb := tb_in (List.mem_of_getElem? (i := 1354) (by decide +kernel)) (by decide +kernel)
theorem wd_1355 : Cond.methodLink RX3 63 Lib.Math.min.name ∈ tb := tb_in (List.mem_of_getElem? (i := 1355) (by decide +kernel)) (by decide +kernel)
theorem wd_1356 : Cond.methodLink RL 165 yX11_nearest ∈ tb := tb_in (List.mem_of_getElem? (i := 1356) (by decide +kernel)) (by decide +kernel)
theorem wd_1357 : Cond.instanceMethod yX11_nearest ∈ tb := tb_in (List.mem_of_getElem? (i := 1357) (by decide +kernel)) (by decide +kernel)
theorem wd_1358 : Cond.selects RX11 yX11_nearest yX11_nearest ∈ tb := tb_in (List.mem_of_getElem? (i := 1358) (by decide +kernel)) (by decide +kernel)
theorem wd_1359 : Cond.code yX11_nearest cX11_nearest 2 (some .int) ∈ tb := tb_in (List.mem_of_getElem? (i := 1359) (by decide +kernel)) (by decide +kernel)
theorem wd_1360 : Cond.methodLink RX11 375 yX11_seekNearest ∈ tb := tb_in (List.mem_of_getElem? (i := 1360) (by decide +kernel)) (by decide +kernel)
theorem wd_1362 : Cond.instanceMethod yX11_seekNearest ∈ tb := tb_in (List.mem_of_getElem? (i := 1362) (by decide +kernel)) (by decide +kernel)
theorem wd_1363 : Cond.code yX11_seekNearest cX11_seekNearest 6 (some .int) ∈ tb := tb_in (List.mem_of_getElem? (i := 1363) (by decide +kernel)) (by decide +kernel)
theorem wd_1364 : Cond.methodLink RL 169 yX11_seen ∈ tb := tb_in (List.mem_of_getElem? (i := 1364) (by decide +kernel)) (by decide +kernel)
theorem wd_1365 : Cond.instanceMethod yX11_seen ∈ tb := tb_in (List.mem_of_getElem? (i := 1365) (by decide +kernel)) (by decide +kernel)
theorem wd_1366 : Cond.selects RX11 yX11_seen yX11_seen ∈ tb := tb_in (List.mem_of_getElem? (i := 1366) (by decide +kernel)) (by decide +kernel)
theorem wd_1367 : Cond.code yX11_seen cX11_seen 3 (some .int) ∈ tb := tb_in (List.mem_of_getElem? (i := 1367) (by decide +kernel)) (by decide +kernel)
theorem wd_1368 : Cond.methodLink RX11 378 yX11_seenCode ∈ tb := tb_in (List.mem_of_getElem? (i := 1368) (by decide +kernel)) (by decide +kernel)
theorem wd_1370 : Cond.instanceMethod yX11_seenCode ∈ tb := tb_in (List.mem_of_getElem? (i := 1370) (by decide +kernel)) (by decide +kernel)
theorem wd_1371 : Cond.code yX11_seenCode cX11_seenCode 6 (some .int) ∈ tb := tb_in (List.mem_of_getElem? (i := 1371) (by decide +kernel)) (by decide +kernel)
theorem wd_1372 : Cond.constantLong RX11 397 99 ∈ tb := tb_in (List.mem_of_getElem? (i := 1372) (by decide +kernel)) (by decide +kernel)
theorem wd_1373 : Cond.constantLong RX11 391 (-1) ∈ tb := tb_in (List.mem_of_getElem? (i := 1373) (by decide +kernel)) (by decide +kernel)
theorem wd_1374 : Cond.methodLink RX11 381 yX11_tallySeen ∈ tb := tb_in (List.mem_of_getElem? (i := 1374) (by decide +kernel)) (by decide +kernel)
theorem wd_1376 : Cond.instanceMethod yX11_tallySeen ∈ tb := tb_in (List.mem_of_getElem? (i := 1376) (by decide +kernel)) (by decide +kernel)
theorem wd_1377 : Cond.code yX11_tallySeen cX11_tallySeen 6 (some .int) ∈ tb := tb_in (List.mem_of_getElem? (i := 1377) (by decide +kernel)) (by decide +kernel)
theorem wd_1378 : Cond.methodLink RL 173 yX11_had ∈ tb := tb_in (List.mem_of_getElem? (i := 1378) (by decide +kernel)) (by decide +kernel)
theorem wd_1379 : Cond.instanceMethod yX11_had ∈ tb := tb_in (List.mem_of_getElem? (i := 1379) (by decide +kernel)) (by decide +kernel)
theorem wd_1380 : Cond.selects RX11 yX11_had yX11_had ∈ tb := tb_in (List.mem_of_getElem? (i := 1380) (by decide +kernel)) (by decide +kernel)
theorem wd_1381 : Cond.code yX11_had cX11_had 6 (some .int) ∈ tb := tb_in (List.mem_of_getElem? (i := 1381) (by decide +kernel)) (by decide +kernel)
theorem wd_1382 : Cond.methodLink RL 177 yX11_wall ∈ tb := tb_in (List.mem_of_getElem? (i := 1382) (by decide +kernel)) (by decide +kernel)
theorem wd_1383 : Cond.instanceMethod yX11_wall ∈ tb := tb_in (List.mem_of_getElem? (i := 1383) (by decide +kernel)) (by decide +kernel)
theorem wd_1384 : Cond.selects RX11 yX11_wall yX11_wall ∈ tb := tb_in (List.mem_of_getElem? (i := 1384) (by decide +kernel)) (by decide +kernel)
theorem wd_1385 : Cond.code yX11_wall cX11_wall 8 (some .int) ∈ tb := tb_in (List.mem_of_getElem? (i := 1385) (by decide +kernel)) (by decide +kernel)
theorem wd_1386 : Cond.methodLink RX11 384 yX11_mostFrequent ∈ tb := tb_in (List.mem_of_getElem? (i := 1386) (by decide +kernel)) (by decide +kernel)
theorem wd_1388 : Cond.instanceMethod yX11_mostFrequent ∈ tb := tb_in (List.mem_of_getElem? (i := 1388) (by decide +kernel)) (by decide +kernel)
theorem wd_1389 : Cond.code yX11_mostFrequent cX11_mostFrequent 7 (some .int) ∈ tb := tb_in (List.mem_of_getElem? (i := 1389) (by decide +kernel)) (by decide +kernel)
theorem wd_1390 : Cond.methodLink RX11 393 Lib.Math.max.name ∈ tb := tb_in (List.mem_of_getElem? (i := 1390) (by decide +kernel)) (by decide +kernel)
theorem wd_1391 : Cond.methodLink RL 181 yX11_numbers ∈ tb := tb_in (List.mem_of_getElem? (i := 1391) (by decide +kernel)) (by decide +kernel)
theorem wd_1392 : Cond.instanceMethod yX11_numbers ∈ tb := tb_in (List.mem_of_getElem? (i := 1392) (by decide +kernel)) (by decide +kernel)
theorem wd_1393 : Cond.selects RX11 yX11_numbers yX11_numbers ∈ tb := tb_in (List.mem_of_getElem? (i := 1393) (by decide +kernel)) (by decide +kernel)
theorem wd_1394 : Cond.code yX11_numbers cX11_numbers 4 (some .int) ∈ tb := tb_in (List.mem_of_getElem? (i := 1394) (by decide +kernel)) (by decide +kernel)
theorem wd_1395 : Cond.methodLink RX11 399 yX10_lay ∈ tb := tb_in (List.mem_of_getElem? (i := 1395) (by decide +kernel)) (by decide +kernel)
theorem wd_1396 : Cond.instanceMethod yX10_lay ∈ tb := tb_in (List.mem_of_getElem? (i := 1396) (by decide +kernel)) (by decide +kernel)
theorem wd_1397 : Cond.selects RX10 yX10_lay yX10_lay ∈ tb := tb_in (List.mem_of_getElem? (i := 1397) (by decide +kernel)) (by decide +kernel)
theorem wd_1398 : Cond.code yX10_lay cX10_lay 3 none ∈ tb := tb_in (List.mem_of_getElem? (i := 1398) (by decide +kernel)) (by decide +kernel)
theorem wd_1399 : Cond.methodLink RX10 22 yJ7_fill_d0a16 ∈ tb := tb_in (List.mem_of_getElem? (i := 1399) (by decide +kernel)) (by decide +kernel)
theorem wd_1400 : Cond.static yJ7_fill_d0a16 ∈ tb := tb_in (List.mem_of_getElem? (i := 1400) (by decide +kernel)) (by decide +kernel)
theorem wd_1401 : Cond.code yJ7_fill_d0a16 cJ7_fill_d0a16 5 none ∈ tb := tb_in (List.mem_of_getElem? (i := 1401) (by decide +kernel)) (by decide +kernel)
theorem wd_1402 : Cond.methodLink RL 188 yX11_write ∈ tb := tb_in (List.mem_of_getElem? (i := 1402) (by decide +kernel)) (by decide +kernel)
theorem wd_1403 : Cond.instanceMethod yX11_write ∈ tb := tb_in (List.mem_of_getElem? (i := 1403) (by decide +kernel)) (by decide +kernel)
theorem wd_1404 : Cond.selects RX11 yX11_write yX11_write ∈ tb := tb_in (List.mem_of_getElem? (i := 1404) (by decide +kernel)) (by decide +kernel)
theorem wd_1405 : Cond.code yX11_write cX11_write 6 (some .long) ∈ tb := tb_in (List.mem_of_getElem? (i := 1405) (by decide +kernel)) (by decide +kernel)
theorem wd_1406 : Cond.constantLong RX11 402 (-7) ∈ tb := tb_in (List.mem_of_getElem? (i := 1406) (by decide +kernel)) (by decide +kernel)
theorem wd_1407 : Cond.methodLink RX11 404 yX10_put ∈ tb := tb_in (List.mem_of_getElem? (i := 1407) (by decide +kernel)) (by decide +kernel)
theorem wd_1408 : Cond.instanceMethod yX10_put ∈ tb := tb_in (List.mem_of_getElem? (i := 1408) (by decide +kernel)) (by decide +kernel)
theorem wd_1409 : Cond.selects RX10 yX10_put yX10_put ∈ tb := tb_in (List.mem_of_getElem? (i := 1409) (by decide +kernel)) (by decide +kernel)
theorem wd_1410 : Cond.code yX10_put cX10_put 4 none ∈ tb := tb_in (List.mem_of_getElem? (i := 1410) (by decide +kernel)) (by decide +kernel)
theorem wd_1411 : Cond.methodLink RL 193 yX11_lists ∈ tb := tb_in (List.mem_of_getElem? (i := 1411) (by decide +kernel)) (by decide +kernel)
theorem wd_1412 : Cond.instanceMethod yX11_lists ∈ tb := tb_in (List.mem_of_getElem? (i := 1412) (by decide +kernel)) (by decide +kernel)
theorem wd_1413 : Cond.selects RX11 yX11_lists yX11_lists ∈ tb := tb_in (List.mem_of_getElem? (i := 1413) (by decide +kernel)) (by decide +kernel)
theorem wd_1414 : Cond.code yX11_lists cX11_lists 6 (some .int) ∈ tb := tb_in (List.mem_of_getElem? (i := 1414) (by decide +kernel)) (by decide +kernel)
theorem wd_1415 : Cond.methodLink RX11 408 Lib.Math.min.name ∈ tb := tb_in (List.mem_of_getElem? (i := 1415) (by decide +kernel)) (by decide +kernel)
theorem wd_1416 : Cond.methodLink RL 197 yX11_image ∈ tb := tb_in (List.mem_of_getElem? (i := 1416) (by decide +kernel)) (by decide +kernel)
theorem wd_1417 : Cond.instanceMethod yX11_image ∈ tb := tb_in (List.mem_of_getElem? (i := 1417) (by decide +kernel)) (by decide +kernel)
theorem wd_1418 : Cond.selects RX11 yX11_image yX11_image ∈ tb := tb_in (List.mem_of_getElem? (i := 1418) (by decide +kernel)) (by decide +kernel)
theorem wd_1419 : Cond.code yX11_image cX11_image 2 (some .int) ∈ tb := tb_in (List.mem_of_getElem? (i := 1419) (by decide +kernel)) (by decide +kernel)
theorem wd_1420 : Cond.methodLink RL 201 yX11_restore ∈ tb := tb_in (List.mem_of_getElem? (i := 1420) (by decide +kernel)) (by decide +kernel)
theorem wd_1421 : Cond.instanceMethod yX11_restore ∈ tb := tb_in (List.mem_of_getElem? (i := 1421) (by decide +kernel)) (by decide +kernel)
theorem wd_1422 : Cond.selects RX11 yX11_restore yX11_restore ∈ tb := tb_in (List.mem_of_getElem? (i := 1422) (by decide +kernel)) (by decide +kernel)
theorem wd_1423 : Cond.code yX11_restore cX11_restore 2 (some .int) ∈ tb := tb_in (List.mem_of_getElem? (i := 1423) (by decide +kernel)) (by decide +kernel)
theorem wd_1424 : Cond.methodLink RL 205 yX11_count ∈ tb := tb_in (List.mem_of_getElem? (i := 1424) (by decide +kernel)) (by decide +kernel)
theorem wd_1425 : Cond.instanceMethod yX11_count ∈ tb := tb_in (List.mem_of_getElem? (i := 1425) (by decide +kernel)) (by decide +kernel)
theorem wd_1426 : Cond.selects RX11 yX11_count yX11_count ∈ tb := tb_in (List.mem_of_getElem? (i := 1426) (by decide +kernel)) (by decide +kernel)
theorem wd_1427 : Cond.code yX11_count cX11_count 2 (some .int) ∈ tb := tb_in (List.mem_of_getElem? (i := 1427) (by decide +kernel)) (by decide +kernel)
theorem wd_1428 : Cond.methodLink RX11 411 yX2_faultsOfAll ∈ tb := tb_in (List.mem_of_getElem? (i := 1428) (by decide +kernel)) (by decide +kernel)
theorem wd_1429 : Cond.instanceMethod yX2_faultsOfAll ∈ tb := tb_in (List.mem_of_getElem? (i := 1429) (by decide +kernel)) (by decide +kernel)
theorem wd_1430 : Cond.selects RX2 yX2_faultsOfAll yX2_faultsOfAll ∈ tb := tb_in (List.mem_of_getElem? (i := 1430) (by decide +kernel)) (by decide +kernel)
theorem wd_1431 : Cond.code yX2_faultsOfAll cX2_faultsOfAll 3 (some .int) ∈ tb := tb_in (List.mem_of_getElem? (i := 1431) (by decide +kernel)) (by decide +kernel)
theorem wd_1432 : Cond.classLink RL 10 RX12 ∈ tb := tb_in (List.mem_of_getElem? (i := 1432) (by decide +kernel)) (by decide +kernel)
theorem wd_1433 : Cond.instantiable RX12 31 ∈ tb := tb_in (List.mem_of_getElem? (i := 1433) (by decide +kernel)) (by decide +kernel)
theorem wd_1434 : Cond.methodLink RL 12 yX12_init ∈ tb := tb_in (List.mem_of_getElem? (i := 1434) (by decide +kernel)) (by decide +kernel)
theorem wd_1435 : Cond.instanceMethod yX12_init ∈ tb := tb_in (List.mem_of_getElem? (i := 1435) (by decide +kernel)) (by decide +kernel)
theorem wd_1436 : Cond.code yX12_init cX12_init 1 none ∈ tb := tb_in (List.mem_of_getElem? (i := 1436) (by decide +kernel)) (by decide +kernel)
theorem wd_1437 : Cond.methodLink RX12 7 objectInit ∈ tb := tb_in (List.mem_of_getElem? (i := 1437) (by decide +kernel)) (by decide +kernel)
theorem wd_1438 : Cond.constant RX12 39 40320 ∈ tb := tb_in (List.mem_of_getElem? (i := 1438) (by decide +kernel)) (by decide +kernel)
theorem wd_1439 : Cond.methodLink RX12 68 yX12_plain ∈ tb := tb_in (List.mem_of_getElem? (i := 1439) (by decide +kernel)) (by decide +kernel)
theorem wd_1440 : Cond.static yX12_plain ∈ tb := tb_in (List.mem_of_getElem? (i := 1440) (by decide +kernel)) (by decide +kernel)
theorem wd_1441 : Cond.code yX12_plain cX12_plain 2 none ∈ tb := tb_in (List.mem_of_getElem? (i := 1441) (by decide +kernel)) (by decide +kernel)
theorem wd_1442 : Cond.fieldLink RX12 1 RX12 "thrown" "I" ∈ tb := tb_in (List.mem_of_getElem? (i := 1442) (by decide +kernel)) (by decide +kernel)
theorem wd_1443 : Cond.fieldLink RX12 13 RX12 "all" "[I" ∈ tb := tb_in (List.mem_of_getElem? (i := 1443) (by decide +kernel)) (by decide +kernel)
theorem wd_1444 : Cond.fieldLink RX12 17 RX12 "hasImage" "[Z" ∈ tb := tb_in (List.mem_of_getElem? (i := 1444) (by decide +kernel)) (by decide +kernel)
theorem wd_1445 : Cond.fieldLink RX12 21 RX12 "tape" "[I" ∈ tb := tb_in (List.mem_of_getElem? (i := 1445) (by decide +kernel)) (by decide +kernel)
theorem wd_1446 : Cond.fieldLink RX12 24 RX12 "fresh" "[I" ∈ tb := tb_in (List.mem_of_getElem? (i := 1446) (by decide +kernel)) (by decide +kernel)
theorem wd_1447 : Cond.fieldLink RX12 72 RX12 "taped" "I" ∈ tb := tb_in (List.mem_of_getElem? (i := 1447) (by decide +kernel)) (by decide +kernel)
theorem wd_1448 : Cond.fieldLink RX12 90 RX12 "at" "I" ∈ tb := tb_in (List.mem_of_getElem? (i := 1448) (by decide +kernel)) (by decide +kernel)
theorem wd_1449 : Cond.fieldLink RX12 93 RX12 "behind" "I" ∈ tb := tb_in (List.mem_of_getElem? (i := 1449) (by decide +kernel)) (by decide +kernel)
theorem wd_1450 : Cond.fieldLink RX12 75 RX12 "size" "I" ∈ tb := tb_in (List.mem_of_getElem? (i := 1450) (by decide +kernel)) (by decide +kernel)
theorem wd_1451 : Cond.fieldLink RX12 100 RX12 "kind" "I" ∈ tb := tb_in (List.mem_of_getElem? (i := 1451) (by decide +kernel)) (by decide +kernel)
theorem wd_1452 : Cond.fieldLink RX12 113 RX12 "number" "I" ∈ tb := tb_in (List.mem_of_getElem? (i := 1452) (by decide +kernel)) (by decide +kernel)
theorem wd_1453 : Cond.fieldLink RX12 118 RX12 "wrong" "I" ∈ tb := tb_in (List.mem_of_getElem? (i := 1453) (by decide +kernel)) (by decide +kernel)
theorem wd_1454 : Cond.fieldLink RX12 121 RX12 "wrongAt" "I" ∈ tb := tb_in (List.mem_of_getElem? (i := 1454) (by decide +kernel)) (by decide +kernel)
theorem wd_1455 : Cond.fieldLink RX12 195 RX12 "faultKind" "I" ∈ tb := tb_in (List.mem_of_getElem? (i := 1455) (by decide +kernel)) (by decide +kernel)
theorem wd_1456 : Cond.fieldLink RX12 27 RX12 "faultPlace" "I" ∈ tb := tb_in (List.mem_of_getElem? (i := 1456) (by decide +kernel)) (by decide +kernel)
theorem wd_1457 : Cond.fieldLink RX12 30 RX12 "reckoned" "[I" ∈ tb := tb_in (List.mem_of_getElem? (i := 1457) (by decide +kernel)) (by decide +kernel)
theorem wd_1458 : Cond.fieldLink RX12 33 RX12 "may" "[I" ∈ tb := tb_in (List.mem_of_getElem? (i := 1458) (by decide +kernel)) (by decide +kernel)
theorem wd_1459 : Cond.fieldLink RX12 36 RX12 "worth" "[I" ∈ tb := tb_in (List.mem_of_getElem? (i := 1459) (by decide +kernel)) (by decide +kernel)
theorem wd_1460 : Cond.fieldLink RX12 40 RX12 "maps" "[I" ∈ tb := tb_in (List.mem_of_getElem? (i := 1460) (by decide +kernel)) (by decide +kernel)
theorem wd_1461 : Cond.fieldLink RX12 244 RX12 "many" "I" ∈ tb := tb_in (List.mem_of_getElem? (i := 1461) (by decide +kernel)) (by decide +kernel)
theorem wd_1462 : Cond.fieldLink RX12 43 RX12 "was" "[I" ∈ tb := tb_in (List.mem_of_getElem? (i := 1462) (by decide +kernel)) (by decide +kernel)
theorem wd_1463 : Cond.fieldLink RX12 46 RX12 "gets" "[I" ∈ tb := tb_in (List.mem_of_getElem? (i := 1463) (by decide +kernel)) (by decide +kernel)
theorem wd_1464 : Cond.fieldLink RX12 271 RX12 "rounds" "I" ∈ tb := tb_in (List.mem_of_getElem? (i := 1464) (by decide +kernel)) (by decide +kernel)
theorem wd_1465 : Cond.fieldLink RX12 322 RX12 "toldWhy" "I" ∈ tb := tb_in (List.mem_of_getElem? (i := 1465) (by decide +kernel)) (by decide +kernel)
theorem wd_1466 : Cond.fieldLink RX12 345 RX12 "x" "I" ∈ tb := tb_in (List.mem_of_getElem? (i := 1466) (by decide +kernel)) (by decide +kernel)
theorem wd_1467 : Cond.fieldLink RX12 49 RX12 "day" "[I" ∈ tb := tb_in (List.mem_of_getElem? (i := 1467) (by decide +kernel)) (by decide +kernel)
theorem wd_1468 : Cond.fieldLink RX12 52 RX12 "power" "[I" ∈ tb := tb_in (List.mem_of_getElem? (i := 1468) (by decide +kernel)) (by decide +kernel)
theorem wd_1469 : Cond.fieldLink RX12 55 RX12 "often" "[I" ∈ tb := tb_in (List.mem_of_getElem? (i := 1469) (by decide +kernel)) (by decide +kernel)
theorem wd_1470 : Cond.fieldLink RX12 58 RX12 "rowSort" "[I" ∈ tb := tb_in (List.mem_of_getElem? (i := 1470) (by decide +kernel)) (by decide +kernel)
theorem wd_1471 : Cond.fieldLink RX12 61 RX12 "rowMany" "[I" ∈ tb := tb_in (List.mem_of_getElem? (i := 1471) (by decide +kernel)) (by decide +kernel)
theorem wd_1472 : Cond.fieldLink RX12 64 RX12 "numbers" "[J" ∈ tb := tb_in (List.mem_of_getElem? (i := 1472) (by decide +kernel)) (by decide +kernel)
theorem wd_1536 : Cond.arrayClass .boolean ∈ tb := tb_in (List.mem_of_getElem? (i := 1536) (by decide +kernel)) (by decide +kernel)
theorem wd_1537 : Cond.methodLink RL 17 yX12_feed ∈ tb := tb_in (List.mem_of_getElem? (i := 1537) (by decide +kernel)) (by decide +kernel)
theorem wd_1538 : Cond.instanceMethod yX12_feed ∈ tb := tb_in (List.mem_of_getElem? (i := 1538) (by decide +kernel)) (by decide +kernel)
theorem wd_1539 : Cond.selects RX12 yX12_feed yX12_feed ∈ tb := tb_in (List.mem_of_getElem? (i := 1539) (by decide +kernel)) (by decide +kernel)
theorem wd_1540 : Cond.code yX12_feed cX12_feed 8 (some .int) ∈ tb := tb_in (List.mem_of_getElem? (i := 1540) (by decide +kernel)) (by decide +kernel)
theorem wd_1541 : Cond.methodLink RL 22 yX12_tower ∈ tb := tb_in (List.mem_of_getElem? (i := 1541) (by decide +kernel)) (by decide +kernel)
theorem wd_1542 : Cond.instanceMethod yX12_tower ∈ tb := tb_in (List.mem_of_getElem? (i := 1542) (by decide +kernel)) (by decide +kernel)
theorem wd_1543 : Cond.selects RX12 yX12_tower yX12_tower ∈ tb := tb_in (List.mem_of_getElem? (i := 1543) (by decide +kernel)) (by decide +kernel)
theorem wd_1544 : Cond.code yX12_tower cX12_tower 3 (some .int) ∈ tb := tb_in (List.mem_of_getElem? (i := 1544) (by decide +kernel)) (by decide +kernel)
theorem wd_1545 : Cond.methodLink RX12 134 yX12_within ∈ tb := tb_in (List.mem_of_getElem? (i := 1545) (by decide +kernel)) (by decide +kernel)
theorem wd_1546 : Cond.static yX12_within ∈ tb := tb_in (List.mem_of_getElem? (i := 1546) (by decide +kernel)) (by decide +kernel)
theorem wd_1547 : Cond.code yX12_within cX12_within 6 (some .boolean) ∈ tb := tb_in (List.mem_of_getElem? (i := 1547) (by decide +kernel)) (by decide +kernel)
theorem wd_1548 : Cond.methodLink RX12 127 yX12_next ∈ tb := tb_in (List.mem_of_getElem? (i := 1548) (by decide +kernel)) (by decide +kernel)
theorem wd_1550 : Cond.instanceMethod yX12_next ∈ tb := tb_in (List.mem_of_getElem? (i := 1550) (by decide +kernel)) (by decide +kernel)
theorem wd_1551 : Cond.code yX12_next cX12_next 2 none ∈ tb := tb_in (List.mem_of_getElem? (i := 1551) (by decide +kernel)) (by decide +kernel)
theorem wd_1552 : Cond.methodLink RX12 96 yX12_see ∈ tb := tb_in (List.mem_of_getElem? (i := 1552) (by decide +kernel)) (by decide +kernel)
theorem wd_1554 : Cond.instanceMethod yX12_see ∈ tb := tb_in (List.mem_of_getElem? (i := 1554) (by decide +kernel)) (by decide +kernel)
theorem wd_1555 : Cond.code yX12_see cX12_see 2 (some .int) ∈ tb := tb_in (List.mem_of_getElem? (i := 1555) (by decide +kernel)) (by decide +kernel)
theorem wd_1556 : Cond.methodLink RX12 103 yX12_isSmall ∈ tb := tb_in (List.mem_of_getElem? (i := 1556) (by decide +kernel)) (by decide +kernel)
theorem wd_1557 : Cond.static yX12_isSmall ∈ tb := tb_in (List.mem_of_getElem? (i := 1557) (by decide +kernel)) (by decide +kernel)
theorem wd_1558 : Cond.code yX12_isSmall cX12_isSmall 1 (some .boolean) ∈ tb := tb_in (List.mem_of_getElem? (i := 1558) (by decide +kernel)) (by decide +kernel)
theorem wd_1559 : Cond.methodLink RX12 107 yX12_keyAt ∈ tb := tb_in (List.mem_of_getElem? (i := 1559) (by decide +kernel)) (by decide +kernel)
theorem wd_1561 : Cond.instanceMethod yX12_keyAt ∈ tb := tb_in (List.mem_of_getElem? (i := 1561) (by decide +kernel)) (by decide +kernel)
theorem wd_1562 : Cond.code yX12_keyAt cX12_keyAt 4 (some .int) ∈ tb := tb_in (List.mem_of_getElem? (i := 1562) (by decide +kernel)) (by decide +kernel)
theorem wd_1566 : Cond.methodLink RX12 110 yX12_isDigit ∈ tb := tb_in (List.mem_of_getElem? (i := 1566) (by decide +kernel)) (by decide +kernel)
theorem wd_1567 : Cond.static yX12_isDigit ∈ tb := tb_in (List.mem_of_getElem? (i := 1567) (by decide +kernel)) (by decide +kernel)
theorem wd_1568 : Cond.code yX12_isDigit cX12_isDigit 1 (some .boolean) ∈ tb := tb_in (List.mem_of_getElem? (i := 1568) (by decide +kernel)) (by decide +kernel)
theorem wd_1570 : Cond.methodLink RX12 192 yX12_readLine ∈ tb := tb_in (List.mem_of_getElem? (i := 1570) (by decide +kernel)) (by decide +kernel)
theorem wd_1572 : Cond.instanceMethod yX12_readLine ∈ tb := tb_in (List.mem_of_getElem? (i := 1572) (by decide +kernel)) (by decide +kernel)
theorem wd_1573 : Cond.code yX12_readLine cX12_readLine 2 none ∈ tb := tb_in (List.mem_of_getElem? (i := 1573) (by decide +kernel)) (by decide +kernel)
theorem wd_1574 : Cond.methodLink RX12 124 yX12_is ∈ tb := tb_in (List.mem_of_getElem? (i := 1574) (by decide +kernel)) (by decide +kernel)
theorem wd_1576 : Cond.instanceMethod yX12_is ∈ tb := tb_in (List.mem_of_getElem? (i := 1576) (by decide +kernel)) (by decide +kernel)
theorem wd_1577 : Cond.code yX12_is cX12_is 2 (some .boolean) ∈ tb := tb_in (List.mem_of_getElem? (i := 1577) (by decide +kernel)) (by decide +kernel)
theorem wd_1578 : Cond.methodLink RX12 180 yX12_readFlat ∈ tb := tb_in (List.mem_of_getElem? (i := 1578) (by decide +kernel)) (by decide +kernel)
theorem wd_1580 : Cond.instanceMethod yX12_readFlat ∈ tb := tb_in (List.mem_of_getElem? (i := 1580) (by decide +kernel)) (by decide +kernel)
theorem wd_1581 : Cond.code yX12_readFlat cX12_readFlat 5 none ∈ tb := tb_in (List.mem_of_getElem? (i := 1581) (by decide +kernel)) (by decide +kernel)
theorem wd_1582 : Cond.methodLink RX12 130 yX12_fails ∈ tb := tb_in (List.mem_of_getElem? (i := 1582) (by decide +kernel)) (by decide +kernel)
theorem wd_1584 : Cond.instanceMethod yX12_fails ∈ tb := tb_in (List.mem_of_getElem? (i := 1584) (by decide +kernel)) (by decide +kernel)
theorem wd_1585 : Cond.code yX12_fails cX12_fails 2 none ∈ tb := tb_in (List.mem_of_getElem? (i := 1585) (by decide +kernel)) (by decide +kernel)
theorem wd_1586 : Cond.methodLink RX12 169 yX12_takes ∈ tb := tb_in (List.mem_of_getElem? (i := 1586) (by decide +kernel)) (by decide +kernel)
theorem wd_1588 : Cond.instanceMethod yX12_takes ∈ tb := tb_in (List.mem_of_getElem? (i := 1588) (by decide +kernel)) (by decide +kernel)
theorem wd_1589 : Cond.code yX12_takes cX12_takes 4 (some .int) ∈ tb := tb_in (List.mem_of_getElem? (i := 1589) (by decide +kernel)) (by decide +kernel)
theorem wd_1590 : Cond.methodLink RX12 151 yX12_eats ∈ tb := tb_in (List.mem_of_getElem? (i := 1590) (by decide +kernel)) (by decide +kernel)
theorem wd_1592 : Cond.instanceMethod yX12_eats ∈ tb := tb_in (List.mem_of_getElem? (i := 1592) (by decide +kernel)) (by decide +kernel)
theorem wd_1593 : Cond.code yX12_eats cX12_eats 2 (some .boolean) ∈ tb := tb_in (List.mem_of_getElem? (i := 1593) (by decide +kernel)) (by decide +kernel)
theorem wd_1594 : Cond.methodLink RX12 173 yX12_readFlag ∈ tb := tb_in (List.mem_of_getElem? (i := 1594) (by decide +kernel)) (by decide +kernel)
theorem wd_1596 : Cond.instanceMethod yX12_readFlag ∈ tb := tb_in (List.mem_of_getElem? (i := 1596) (by decide +kernel)) (by decide +kernel)
theorem wd_1597 : Cond.code yX12_readFlag cX12_readFlag 2 (some .boolean) ∈ tb := tb_in (List.mem_of_getElem? (i := 1597) (by decide +kernel)) (by decide +kernel)
theorem wd_1598 : Cond.methodLink RX12 183 yX12_readHousehold ∈ tb := tb_in (List.mem_of_getElem? (i := 1598) (by decide +kernel)) (by decide +kernel)
theorem wd_1600 : Cond.instanceMethod yX12_readHousehold ∈ tb := tb_in (List.mem_of_getElem? (i := 1600) (by decide +kernel)) (by decide +kernel)
theorem wd_1601 : Cond.code yX12_readHousehold cX12_readHousehold 3 none ∈ tb := tb_in (List.mem_of_getElem? (i := 1601) (by decide +kernel)) (by decide +kernel)
theorem wd_1602 : Cond.constantLong RX12 176 14 ∈ tb := tb_in (List.mem_of_getElem? (i := 1602) (by decide +kernel)) (by decide +kernel)
theorem wd_1603 : Cond.constantLong RX12 178 17 ∈ tb := tb_in (List.mem_of_getElem? (i := 1603) (by decide +kernel)) (by decide +kernel)
theorem wd_1604 : Cond.methodLink RX12 186 yX12_readLives ∈ tb := tb_in (List.mem_of_getElem? (i := 1604) (by decide +kernel)) (by decide +kernel)
theorem wd_1606 : Cond.instanceMethod yX12_readLives ∈ tb := tb_in (List.mem_of_getElem? (i := 1606) (by decide +kernel)) (by decide +kernel)
theorem wd_1607 : Cond.code yX12_readLives cX12_readLives 3 none ∈ tb := tb_in (List.mem_of_getElem? (i := 1607) (by decide +kernel)) (by decide +kernel)
theorem wd_1608 : Cond.methodLink RX12 189 yX12_readLaw ∈ tb := tb_in (List.mem_of_getElem? (i := 1608) (by decide +kernel)) (by decide +kernel)
theorem wd_1610 : Cond.instanceMethod yX12_readLaw ∈ tb := tb_in (List.mem_of_getElem? (i := 1610) (by decide +kernel)) (by decide +kernel)
theorem wd_1611 : Cond.code yX12_readLaw cX12_readLaw 3 none ∈ tb := tb_in (List.mem_of_getElem? (i := 1611) (by decide +kernel)) (by decide +kernel)
theorem wd_1612 : Cond.methodLink RX12 148 yX12_readSum ∈ tb := tb_in (List.mem_of_getElem? (i := 1612) (by decide +kernel)) (by decide +kernel)
theorem wd_1614 : Cond.instanceMethod yX12_readSum ∈ tb := tb_in (List.mem_of_getElem? (i := 1614) (by decide +kernel)) (by decide +kernel)
theorem wd_1615 : Cond.code yX12_readSum cX12_readSum 3 none ∈ tb := tb_in (List.mem_of_getElem? (i := 1615) (by decide +kernel)) (by decide +kernel)
theorem wd_1616 : Cond.methodLink RX12 157 yX12_readTerm ∈ tb := tb_in (List.mem_of_getElem? (i := 1616) (by decide +kernel)) (by decide +kernel)
theorem wd_1618 : Cond.instanceMethod yX12_readTerm ∈ tb := tb_in (List.mem_of_getElem? (i := 1618) (by decide +kernel)) (by decide +kernel)
theorem wd_1619 : Cond.code yX12_readTerm cX12_readTerm 2 none ∈ tb := tb_in (List.mem_of_getElem? (i := 1619) (by decide +kernel)) (by decide +kernel)
theorem wd_1620 : Cond.methodLink RX12 154 yX12_readAtom ∈ tb := tb_in (List.mem_of_getElem? (i := 1620) (by decide +kernel)) (by decide +kernel)
theorem wd_1622 : Cond.instanceMethod yX12_readAtom ∈ tb := tb_in (List.mem_of_getElem? (i := 1622) (by decide +kernel)) (by decide +kernel)
theorem wd_1623 : Cond.code yX12_readAtom cX12_readAtom 2 none ∈ tb := tb_in (List.mem_of_getElem? (i := 1623) (by decide +kernel)) (by decide +kernel)
theorem wd_1624 : Cond.methodLink RX12 138 yX12_codes ∈ tb := tb_in (List.mem_of_getElem? (i := 1624) (by decide +kernel)) (by decide +kernel)
theorem wd_1626 : Cond.instanceMethod yX12_codes ∈ tb := tb_in (List.mem_of_getElem? (i := 1626) (by decide +kernel)) (by decide +kernel)
theorem wd_1627 : Cond.code yX12_codes cX12_codes 2 none ∈ tb := tb_in (List.mem_of_getElem? (i := 1627) (by decide +kernel)) (by decide +kernel)
theorem wd_1628 : Cond.constantLong RX12 141 8 ∈ tb := tb_in (List.mem_of_getElem? (i := 1628) (by decide +kernel)) (by decide +kernel)
theorem wd_1629 : Cond.constantLong RX12 143 20 ∈ tb := tb_in (List.mem_of_getElem? (i := 1629) (by decide +kernel)) (by decide +kernel)
theorem wd_1630 : Cond.methodLink RX12 145 yX12_goesIn ∈ tb := tb_in (List.mem_of_getElem? (i := 1630) (by decide +kernel)) (by decide +kernel)
theorem wd_1632 : Cond.instanceMethod yX12_goesIn ∈ tb := tb_in (List.mem_of_getElem? (i := 1632) (by decide +kernel)) (by decide +kernel)
theorem wd_1633 : Cond.code yX12_goesIn cX12_goesIn 2 (some .boolean) ∈ tb := tb_in (List.mem_of_getElem? (i := 1633) (by decide +kernel)) (by decide +kernel)
theorem wd_1634 : Cond.methodLink RX12 163 yX12_readTruth ∈ tb := tb_in (List.mem_of_getElem? (i := 1634) (by decide +kernel)) (by decide +kernel)
theorem wd_1636 : Cond.instanceMethod yX12_readTruth ∈ tb := tb_in (List.mem_of_getElem? (i := 1636) (by decide +kernel)) (by decide +kernel)
theorem wd_1637 : Cond.code yX12_readTruth cX12_readTruth 2 none ∈ tb := tb_in (List.mem_of_getElem? (i := 1637) (by decide +kernel)) (by decide +kernel)
theorem wd_1638 : Cond.methodLink RX12 166 yX12_readBoth ∈ tb := tb_in (List.mem_of_getElem? (i := 1638) (by decide +kernel)) (by decide +kernel)
theorem wd_1640 : Cond.instanceMethod yX12_readBoth ∈ tb := tb_in (List.mem_of_getElem? (i := 1640) (by decide +kernel)) (by decide +kernel)
theorem wd_1641 : Cond.code yX12_readBoth cX12_readBoth 2 none ∈ tb := tb_in (List.mem_of_getElem? (i := 1641) (by decide +kernel)) (by decide +kernel)
theorem wd_1642 : Cond.methodLink RX12 160 yX12_readUnit ∈ tb := tb_in (List.mem_of_getElem? (i := 1642) (by decide +kernel)) (by decide +kernel)
theorem wd_1644 : Cond.instanceMethod yX12_readUnit ∈ tb := tb_in (List.mem_of_getElem? (i := 1644) (by decide +kernel)) (by decide +kernel)
theorem wd_1645 : Cond.code yX12_readUnit cX12_readUnit 3 none ∈ tb := tb_in (List.mem_of_getElem? (i := 1645) (by decide +kernel)) (by decide +kernel)
theorem wd_1646 : Cond.methodLink RL 26 yX12_fault ∈ tb := tb_in (List.mem_of_getElem? (i := 1646) (by decide +kernel)) (by decide +kernel)
theorem wd_1647 : Cond.instanceMethod yX12_fault ∈ tb := tb_in (List.mem_of_getElem? (i := 1647) (by decide +kernel)) (by decide +kernel)
theorem wd_1648 : Cond.selects RX12 yX12_fault yX12_fault ∈ tb := tb_in (List.mem_of_getElem? (i := 1648) (by decide +kernel)) (by decide +kernel)
theorem wd_1649 : Cond.code yX12_fault cX12_fault 2 (some .int) ∈ tb := tb_in (List.mem_of_getElem? (i := 1649) (by decide +kernel)) (by decide +kernel)
theorem wd_1650 : Cond.methodLink RL 31 yX12_flat ∈ tb := tb_in (List.mem_of_getElem? (i := 1650) (by decide +kernel)) (by decide +kernel)
theorem wd_1651 : Cond.instanceMethod yX12_flat ∈ tb := tb_in (List.mem_of_getElem? (i := 1651) (by decide +kernel)) (by decide +kernel)
theorem wd_1652 : Cond.selects RX12 yX12_flat yX12_flat ∈ tb := tb_in (List.mem_of_getElem? (i := 1652) (by decide +kernel)) (by decide +kernel)
theorem wd_1653 : Cond.code yX12_flat cX12_flat 3 (some .int) ∈ tb := tb_in (List.mem_of_getElem? (i := 1653) (by decide +kernel)) (by decide +kernel)
theorem wd_1654 : Cond.methodLink RX12 216 yX12_isFlat ∈ tb := tb_in (List.mem_of_getElem? (i := 1654) (by decide +kernel)) (by decide +kernel)
theorem wd_1656 : Cond.instanceMethod yX12_isFlat ∈ tb := tb_in (List.mem_of_getElem? (i := 1656) (by decide +kernel)) (by decide +kernel)
theorem wd_1657 : Cond.code yX12_isFlat cX12_isFlat 3 (some .boolean) ∈ tb := tb_in (List.mem_of_getElem? (i := 1657) (by decide +kernel)) (by decide +kernel)
theorem wd_1658 : Cond.constantLong RX12 220 3 ∈ tb := tb_in (List.mem_of_getElem? (i := 1658) (by decide +kernel)) (by decide +kernel)
theorem wd_1659 : Cond.methodLink RX12 222 yX12_livesIn ∈ tb := tb_in (List.mem_of_getElem? (i := 1659) (by decide +kernel)) (by decide +kernel)
theorem wd_1661 : Cond.instanceMethod yX12_livesIn ∈ tb := tb_in (List.mem_of_getElem? (i := 1661) (by decide +kernel)) (by decide +kernel)
theorem wd_1662 : Cond.code yX12_livesIn cX12_livesIn 3 (some .int) ∈ tb := tb_in (List.mem_of_getElem? (i := 1662) (by decide +kernel)) (by decide +kernel)
theorem wd_1663 : Cond.methodLink RL 35 yX12_household ∈ tb := tb_in (List.mem_of_getElem? (i := 1663) (by decide +kernel)) (by decide +kernel)
theorem wd_1664 : Cond.instanceMethod yX12_household ∈ tb := tb_in (List.mem_of_getElem? (i := 1664) (by decide +kernel)) (by decide +kernel)
theorem wd_1665 : Cond.selects RX12 yX12_household yX12_household ∈ tb := tb_in (List.mem_of_getElem? (i := 1665) (by decide +kernel)) (by decide +kernel)
theorem wd_1666 : Cond.code yX12_household cX12_household 3 (some .int) ∈ tb := tb_in (List.mem_of_getElem? (i := 1666) (by decide +kernel)) (by decide +kernel)
theorem wd_1667 : Cond.methodLink RX12 225 yX12_isHousehold ∈ tb := tb_in (List.mem_of_getElem? (i := 1667) (by decide +kernel)) (by decide +kernel)
theorem wd_1669 : Cond.instanceMethod yX12_isHousehold ∈ tb := tb_in (List.mem_of_getElem? (i := 1669) (by decide +kernel)) (by decide +kernel)
theorem wd_1670 : Cond.code yX12_isHousehold cX12_isHousehold 3 (some .boolean) ∈ tb := tb_in (List.mem_of_getElem? (i := 1670) (by decide +kernel)) (by decide +kernel)
theorem wd_1671 : Cond.constantLong RX12 228 4 ∈ tb := tb_in (List.mem_of_getElem? (i := 1671) (by decide +kernel)) (by decide +kernel)
theorem wd_1672 : Cond.methodLink RL 39 yX12_times ∈ tb := tb_in (List.mem_of_getElem? (i := 1672) (by decide +kernel)) (by decide +kernel)
theorem wd_1673 : Cond.instanceMethod yX12_times ∈ tb := tb_in (List.mem_of_getElem? (i := 1673) (by decide +kernel)) (by decide +kernel)
theorem wd_1674 : Cond.selects RX12 yX12_times yX12_times ∈ tb := tb_in (List.mem_of_getElem? (i := 1674) (by decide +kernel)) (by decide +kernel)
theorem wd_1675 : Cond.code yX12_times cX12_times 3 (some .int) ∈ tb := tb_in (List.mem_of_getElem? (i := 1675) (by decide +kernel)) (by decide +kernel)
theorem wd_1676 : Cond.methodLink RX12 230 yX12_areBoth ∈ tb := tb_in (List.mem_of_getElem? (i := 1676) (by decide +kernel)) (by decide +kernel)
theorem wd_1678 : Cond.instanceMethod yX12_areBoth ∈ tb := tb_in (List.mem_of_getElem? (i := 1678) (by decide +kernel)) (by decide +kernel)
theorem wd_1679 : Cond.code yX12_areBoth cX12_areBoth 3 (some .boolean) ∈ tb := tb_in (List.mem_of_getElem? (i := 1679) (by decide +kernel)) (by decide +kernel)
theorem wd_1680 : Cond.methodLink RL 43 yX12_may ∈ tb := tb_in (List.mem_of_getElem? (i := 1680) (by decide +kernel)) (by decide +kernel)
theorem wd_1681 : Cond.instanceMethod yX12_may ∈ tb := tb_in (List.mem_of_getElem? (i := 1681) (by decide +kernel)) (by decide +kernel)
theorem wd_1682 : Cond.selects RX12 yX12_may yX12_may ∈ tb := tb_in (List.mem_of_getElem? (i := 1682) (by decide +kernel)) (by decide +kernel)
theorem wd_1683 : Cond.code yX12_may cX12_may 3 (some .int) ∈ tb := tb_in (List.mem_of_getElem? (i := 1683) (by decide +kernel)) (by decide +kernel)
theorem wd_1684 : Cond.methodLink RX12 234 yX12_mayLive ∈ tb := tb_in (List.mem_of_getElem? (i := 1684) (by decide +kernel)) (by decide +kernel)
theorem wd_1686 : Cond.instanceMethod yX12_mayLive ∈ tb := tb_in (List.mem_of_getElem? (i := 1686) (by decide +kernel)) (by decide +kernel)
theorem wd_1687 : Cond.code yX12_mayLive cX12_mayLive 3 (some .boolean) ∈ tb := tb_in (List.mem_of_getElem? (i := 1687) (by decide +kernel)) (by decide +kernel)
theorem wd_1688 : Cond.methodLink RX12 213 yX12_reckons ∈ tb := tb_in (List.mem_of_getElem? (i := 1688) (by decide +kernel)) (by decide +kernel)
theorem wd_1690 : Cond.instanceMethod yX12_reckons ∈ tb := tb_in (List.mem_of_getElem? (i := 1690) (by decide +kernel)) (by decide +kernel)
theorem wd_1691 : Cond.code yX12_reckons cX12_reckons 7 (some .int) ∈ tb := tb_in (List.mem_of_getElem? (i := 1691) (by decide +kernel)) (by decide +kernel)
theorem wd_1692 : Cond.methodLink RX12 206 yX12_valueOf ∈ tb := tb_in (List.mem_of_getElem? (i := 1692) (by decide +kernel)) (by decide +kernel)
theorem wd_1694 : Cond.instanceMethod yX12_valueOf ∈ tb := tb_in (List.mem_of_getElem? (i := 1694) (by decide +kernel)) (by decide +kernel)
theorem wd_1695 : Cond.code yX12_valueOf cX12_valueOf 4 (some .int) ∈ tb := tb_in (List.mem_of_getElem? (i := 1695) (by decide +kernel)) (by decide +kernel)
theorem wd_1696 : Cond.constantLong RX12 202 5 ∈ tb := tb_in (List.mem_of_getElem? (i := 1696) (by decide +kernel)) (by decide +kernel)
theorem wd_1697 : Cond.constantLong RX12 204 9 ∈ tb := tb_in (List.mem_of_getElem? (i := 1697) (by decide +kernel)) (by decide +kernel)
theorem wd_1698 : Cond.methodLink RX12 210 yX12_between ∈ tb := tb_in (List.mem_of_getElem? (i := 1698) (by decide +kernel)) (by decide +kernel)
theorem wd_1699 : Cond.static yX12_between ∈ tb := tb_in (List.mem_of_getElem? (i := 1699) (by decide +kernel)) (by decide +kernel)
theorem wd_1700 : Cond.code yX12_between cX12_between 5 (some .int) ∈ tb := tb_in (List.mem_of_getElem? (i := 1700) (by decide +kernel)) (by decide +kernel)
theorem wd_1701 : Cond.constantLong RX12 198 1000000 ∈ tb := tb_in (List.mem_of_getElem? (i := 1701) (by decide +kernel)) (by decide +kernel)
theorem wd_1702 : Cond.constantLong RX12 200 (-1000000) ∈ tb := tb_in (List.mem_of_getElem? (i := 1702) (by decide +kernel)) (by decide +kernel)
theorem wd_1703 : Cond.methodLink RL 47 yX12_worth ∈ tb := tb_in (List.mem_of_getElem? (i := 1703) (by decide +kernel)) (by decide +kernel)
theorem wd_1704 : Cond.instanceMethod yX12_worth ∈ tb := tb_in (List.mem_of_getElem? (i := 1704) (by decide +kernel)) (by decide +kernel)
theorem wd_1705 : Cond.selects RX12 yX12_worth yX12_worth ∈ tb := tb_in (List.mem_of_getElem? (i := 1705) (by decide +kernel)) (by decide +kernel)
theorem wd_1706 : Cond.code yX12_worth cX12_worth 3 (some .int) ∈ tb := tb_in (List.mem_of_getElem? (i := 1706) (by decide +kernel)) (by decide +kernel)
theorem wd_1707 : Cond.methodLink RX12 237 yX12_worthOf ∈ tb := tb_in (List.mem_of_getElem? (i := 1707) (by decide +kernel)) (by decide +kernel)
theorem wd_1709 : Cond.instanceMethod yX12_worthOf ∈ tb := tb_in (List.mem_of_getElem? (i := 1709) (by decide +kernel)) (by decide +kernel)
theorem wd_1710 : Cond.code yX12_worthOf cX12_worthOf 3 (some .int) ∈ tb := tb_in (List.mem_of_getElem? (i := 1710) (by decide +kernel)) (by decide +kernel)
theorem wd_1711 : Cond.constant RX12 240 (-2000000) ∈ tb := tb_in (List.mem_of_getElem? (i := 1711) (by decide +kernel)) (by decide +kernel)
theorem wd_1712 : Cond.methodLink RL 51 yX12_draws ∈ tb := tb_in (List.mem_of_getElem? (i := 1712) (by decide +kernel)) (by decide +kernel)
theorem wd_1713 : Cond.instanceMethod yX12_draws ∈ tb := tb_in (List.mem_of_getElem? (i := 1713) (by decide +kernel)) (by decide +kernel)
theorem wd_1714 : Cond.selects RX12 yX12_draws yX12_draws ∈ tb := tb_in (List.mem_of_getElem? (i := 1714) (by decide +kernel)) (by decide +kernel)
theorem wd_1715 : Cond.code yX12_draws cX12_draws 3 (some .int) ∈ tb := tb_in (List.mem_of_getElem? (i := 1715) (by decide +kernel)) (by decide +kernel)
theorem wd_1716 : Cond.methodLink RX12 258 yX12_laysMaps ∈ tb := tb_in (List.mem_of_getElem? (i := 1716) (by decide +kernel)) (by decide +kernel)
theorem wd_1718 : Cond.instanceMethod yX12_laysMaps ∈ tb := tb_in (List.mem_of_getElem? (i := 1718) (by decide +kernel)) (by decide +kernel)
theorem wd_1719 : Cond.code yX12_laysMaps cX12_laysMaps 2 none ∈ tb := tb_in (List.mem_of_getElem? (i := 1719) (by decide +kernel)) (by decide +kernel)
theorem wd_1720 : Cond.methodLink RX12 241 yX12_laysLaws ∈ tb := tb_in (List.mem_of_getElem? (i := 1720) (by decide +kernel)) (by decide +kernel)
theorem wd_1722 : Cond.instanceMethod yX12_laysLaws ∈ tb := tb_in (List.mem_of_getElem? (i := 1722) (by decide +kernel)) (by decide +kernel)
theorem wd_1723 : Cond.code yX12_laysLaws cX12_laysLaws 3 none ∈ tb := tb_in (List.mem_of_getElem? (i := 1723) (by decide +kernel)) (by decide +kernel)
theorem wd_1724 : Cond.methodLink RX12 247 yX12_goesMaps ∈ tb := tb_in (List.mem_of_getElem? (i := 1724) (by decide +kernel)) (by decide +kernel)
theorem wd_1726 : Cond.instanceMethod yX12_goesMaps ∈ tb := tb_in (List.mem_of_getElem? (i := 1726) (by decide +kernel)) (by decide +kernel)
theorem wd_1727 : Cond.code yX12_goesMaps cX12_goesMaps 6 none ∈ tb := tb_in (List.mem_of_getElem? (i := 1727) (by decide +kernel)) (by decide +kernel)
theorem wd_1728 : Cond.methodLink RX12 251 yX12_isIn ∈ tb := tb_in (List.mem_of_getElem? (i := 1728) (by decide +kernel)) (by decide +kernel)
theorem wd_1729 : Cond.static yX12_isIn ∈ tb := tb_in (List.mem_of_getElem? (i := 1729) (by decide +kernel)) (by decide +kernel)
theorem wd_1730 : Cond.code yX12_isIn cX12_isIn 3 (some .boolean) ∈ tb := tb_in (List.mem_of_getElem? (i := 1730) (by decide +kernel)) (by decide +kernel)
theorem wd_1731 : Cond.methodLink RX12 261 yX12_keeps ∈ tb := tb_in (List.mem_of_getElem? (i := 1731) (by decide +kernel)) (by decide +kernel)
theorem wd_1733 : Cond.instanceMethod yX12_keeps ∈ tb := tb_in (List.mem_of_getElem? (i := 1733) (by decide +kernel)) (by decide +kernel)
theorem wd_1734 : Cond.code yX12_keeps cX12_keeps 2 none ∈ tb := tb_in (List.mem_of_getElem? (i := 1734) (by decide +kernel)) (by decide +kernel)
theorem wd_1735 : Cond.methodLink RX12 264 yX12_drawsBy ∈ tb := tb_in (List.mem_of_getElem? (i := 1735) (by decide +kernel)) (by decide +kernel)
theorem wd_1737 : Cond.instanceMethod yX12_drawsBy ∈ tb := tb_in (List.mem_of_getElem? (i := 1737) (by decide +kernel)) (by decide +kernel)
theorem wd_1738 : Cond.code yX12_drawsBy cX12_drawsBy 6 (some .int) ∈ tb := tb_in (List.mem_of_getElem? (i := 1738) (by decide +kernel)) (by decide +kernel)
theorem wd_1739 : Cond.methodLink RX12 255 yX12_flatIn ∈ tb := tb_in (List.mem_of_getElem? (i := 1739) (by decide +kernel)) (by decide +kernel)
theorem wd_1740 : Cond.static yX12_flatIn ∈ tb := tb_in (List.mem_of_getElem? (i := 1740) (by decide +kernel)) (by decide +kernel)
theorem wd_1741 : Cond.code yX12_flatIn cX12_flatIn 2 (some .int) ∈ tb := tb_in (List.mem_of_getElem? (i := 1741) (by decide +kernel)) (by decide +kernel)
theorem wd_1742 : Cond.methodLink RX12 268 yX12_notes ∈ tb := tb_in (List.mem_of_getElem? (i := 1742) (by decide +kernel)) (by decide +kernel)
theorem wd_1744 : Cond.instanceMethod yX12_notes ∈ tb := tb_in (List.mem_of_getElem? (i := 1744) (by decide +kernel)) (by decide +kernel)
theorem wd_1745 : Cond.code yX12_notes cX12_notes 2 none ∈ tb := tb_in (List.mem_of_getElem? (i := 1745) (by decide +kernel)) (by decide +kernel)
theorem wd_1746 : Cond.methodLink RL 56 yX12_rings ∈ tb := tb_in (List.mem_of_getElem? (i := 1746) (by decide +kernel)) (by decide +kernel)
theorem wd_1747 : Cond.instanceMethod yX12_rings ∈ tb := tb_in (List.mem_of_getElem? (i := 1747) (by decide +kernel)) (by decide +kernel)
theorem wd_1748 : Cond.selects RX12 yX12_rings yX12_rings ∈ tb := tb_in (List.mem_of_getElem? (i := 1748) (by decide +kernel)) (by decide +kernel)
theorem wd_1749 : Cond.code yX12_rings cX12_rings 2 (some .int) ∈ tb := tb_in (List.mem_of_getElem? (i := 1749) (by decide +kernel)) (by decide +kernel)
theorem wd_1750 : Cond.methodLink RX12 280 yX12_goesRings ∈ tb := tb_in (List.mem_of_getElem? (i := 1750) (by decide +kernel)) (by decide +kernel)
theorem wd_1752 : Cond.instanceMethod yX12_goesRings ∈ tb := tb_in (List.mem_of_getElem? (i := 1752) (by decide +kernel)) (by decide +kernel)
theorem wd_1753 : Cond.code yX12_goesRings cX12_goesRings 3 (some .int) ∈ tb := tb_in (List.mem_of_getElem? (i := 1753) (by decide +kernel)) (by decide +kernel)
theorem wd_1754 : Cond.methodLink RX12 277 yX12_laysRings ∈ tb := tb_in (List.mem_of_getElem? (i := 1754) (by decide +kernel)) (by decide +kernel)
theorem wd_1756 : Cond.instanceMethod yX12_laysRings ∈ tb := tb_in (List.mem_of_getElem? (i := 1756) (by decide +kernel)) (by decide +kernel)
theorem wd_1757 : Cond.code yX12_laysRings cX12_laysRings 5 none ∈ tb := tb_in (List.mem_of_getElem? (i := 1757) (by decide +kernel)) (by decide +kernel)
theorem wd_1758 : Cond.methodLink RX12 274 yX12_pointsAt ∈ tb := tb_in (List.mem_of_getElem? (i := 1758) (by decide +kernel)) (by decide +kernel)
theorem wd_1760 : Cond.instanceMethod yX12_pointsAt ∈ tb := tb_in (List.mem_of_getElem? (i := 1760) (by decide +kernel)) (by decide +kernel)
theorem wd_1761 : Cond.code yX12_pointsAt cX12_pointsAt 6 (some .int) ∈ tb := tb_in (List.mem_of_getElem? (i := 1761) (by decide +kernel)) (by decide +kernel)
theorem wd_1762 : Cond.methodLink RL 60 yX12_moves ∈ tb := tb_in (List.mem_of_getElem? (i := 1762) (by decide +kernel)) (by decide +kernel)
theorem wd_1763 : Cond.instanceMethod yX12_moves ∈ tb := tb_in (List.mem_of_getElem? (i := 1763) (by decide +kernel)) (by decide +kernel)
theorem wd_1764 : Cond.selects RX12 yX12_moves yX12_moves ∈ tb := tb_in (List.mem_of_getElem? (i := 1764) (by decide +kernel)) (by decide +kernel)
theorem wd_1765 : Cond.code yX12_moves cX12_moves 5 (some .int) ∈ tb := tb_in (List.mem_of_getElem? (i := 1765) (by decide +kernel)) (by decide +kernel)
theorem wd_1766 : Cond.methodLink RX12 283 yX12_whyMove ∈ tb := tb_in (List.mem_of_getElem? (i := 1766) (by decide +kernel)) (by decide +kernel)
theorem wd_1768 : Cond.instanceMethod yX12_whyMove ∈ tb := tb_in (List.mem_of_getElem? (i := 1768) (by decide +kernel)) (by decide +kernel)
theorem wd_1769 : Cond.code yX12_whyMove cX12_whyMove 5 (some .int) ∈ tb := tb_in (List.mem_of_getElem? (i := 1769) (by decide +kernel)) (by decide +kernel)
theorem wd_1770 : Cond.methodLink RX12 287 yX12_floorOf ∈ tb := tb_in (List.mem_of_getElem? (i := 1770) (by decide +kernel)) (by decide +kernel)
theorem wd_1772 : Cond.instanceMethod yX12_floorOf ∈ tb := tb_in (List.mem_of_getElem? (i := 1772) (by decide +kernel)) (by decide +kernel)
theorem wd_1773 : Cond.code yX12_floorOf cX12_floorOf 2 (some .int) ∈ tb := tb_in (List.mem_of_getElem? (i := 1773) (by decide +kernel)) (by decide +kernel)
theorem wd_1774 : Cond.methodLink RX12 290 yX12_far ∈ tb := tb_in (List.mem_of_getElem? (i := 1774) (by decide +kernel)) (by decide +kernel)
theorem wd_1775 : Cond.static yX12_far ∈ tb := tb_in (List.mem_of_getElem? (i := 1775) (by decide +kernel)) (by decide +kernel)
theorem wd_1776 : Cond.code yX12_far cX12_far 2 (some .int) ∈ tb := tb_in (List.mem_of_getElem? (i := 1776) (by decide +kernel)) (by decide +kernel)
theorem wd_1777 : Cond.methodLink RL 64 yX12_leaves ∈ tb := tb_in (List.mem_of_getElem? (i := 1777) (by decide +kernel)) (by decide +kernel)
theorem wd_1778 : Cond.instanceMethod yX12_leaves ∈ tb := tb_in (List.mem_of_getElem? (i := 1778) (by decide +kernel)) (by decide +kernel)
theorem wd_1779 : Cond.selects RX12 yX12_leaves yX12_leaves ∈ tb := tb_in (List.mem_of_getElem? (i := 1779) (by decide +kernel)) (by decide +kernel)
theorem wd_1780 : Cond.code yX12_leaves cX12_leaves 3 (some .int) ∈ tb := tb_in (List.mem_of_getElem? (i := 1780) (by decide +kernel)) (by decide +kernel)
theorem wd_1781 : Cond.methodLink RX12 293 yX12_whyLeave ∈ tb := tb_in (List.mem_of_getElem? (i := 1781) (by decide +kernel)) (by decide +kernel)
theorem wd_1783 : Cond.instanceMethod yX12_whyLeave ∈ tb := tb_in (List.mem_of_getElem? (i := 1783) (by decide +kernel)) (by decide +kernel)
theorem wd_1784 : Cond.code yX12_whyLeave cX12_whyLeave 3 (some .int) ∈ tb := tb_in (List.mem_of_getElem? (i := 1784) (by decide +kernel)) (by decide +kernel)
theorem wd_1785 : Cond.methodLink RL 68 yX12_spoils ∈ tb := tb_in (List.mem_of_getElem? (i := 1785) (by decide +kernel)) (by decide +kernel)
theorem wd_1786 : Cond.instanceMethod yX12_spoils ∈ tb := tb_in (List.mem_of_getElem? (i := 1786) (by decide +kernel)) (by decide +kernel)
theorem wd_1787 : Cond.selects RX12 yX12_spoils yX12_spoils ∈ tb := tb_in (List.mem_of_getElem? (i := 1787) (by decide +kernel)) (by decide +kernel)
theorem wd_1788 : Cond.code yX12_spoils cX12_spoils 3 (some .int) ∈ tb := tb_in (List.mem_of_getElem? (i := 1788) (by decide +kernel)) (by decide +kernel)
theorem wd_1789 : Cond.methodLink RX12 296 yX12_whyFault ∈ tb := tb_in (List.mem_of_getElem? (i := 1789) (by decide +kernel)) (by decide +kernel)
theorem wd_1791 : Cond.instanceMethod yX12_whyFault ∈ tb := tb_in (List.mem_of_getElem? (i := 1791) (by decide +kernel)) (by decide +kernel)
theorem wd_1792 : Cond.code yX12_whyFault cX12_whyFault 4 (some .int) ∈ tb := tb_in (List.mem_of_getElem? (i := 1792) (by decide +kernel)) (by decide +kernel)
theorem wd_1793 : Cond.methodLink RL 72 yX12_mends ∈ tb := tb_in (List.mem_of_getElem? (i := 1793) (by decide +kernel)) (by decide +kernel)
theorem wd_1794 : Cond.instanceMethod yX12_mends ∈ tb := tb_in (List.mem_of_getElem? (i := 1794) (by decide +kernel)) (by decide +kernel)
theorem wd_1795 : Cond.selects RX12 yX12_mends yX12_mends ∈ tb := tb_in (List.mem_of_getElem? (i := 1795) (by decide +kernel)) (by decide +kernel)
theorem wd_1796 : Cond.code yX12_mends cX12_mends 3 (some .int) ∈ tb := tb_in (List.mem_of_getElem? (i := 1796) (by decide +kernel)) (by decide +kernel)
theorem wd_1797 : Cond.methodLink RL 76 yX12_undo ∈ tb := tb_in (List.mem_of_getElem? (i := 1797) (by decide +kernel)) (by decide +kernel)
theorem wd_1798 : Cond.instanceMethod yX12_undo ∈ tb := tb_in (List.mem_of_getElem? (i := 1798) (by decide +kernel)) (by decide +kernel)
theorem wd_1799 : Cond.selects RX12 yX12_undo yX12_undo ∈ tb := tb_in (List.mem_of_getElem? (i := 1799) (by decide +kernel)) (by decide +kernel)
theorem wd_1800 : Cond.code yX12_undo cX12_undo 3 (some .int) ∈ tb := tb_in (List.mem_of_getElem? (i := 1800) (by decide +kernel)) (by decide +kernel)
theorem wd_1801 : Cond.constantLong RX12 300 10 ∈ tb := tb_in (List.mem_of_getElem? (i := 1801) (by decide +kernel)) (by decide +kernel)
theorem wd_1802 : Cond.methodLink RL 80 yX12_judge ∈ tb := tb_in (List.mem_of_getElem? (i := 1802) (by decide +kernel)) (by decide +kernel)
theorem wd_1803 : Cond.instanceMethod yX12_judge ∈ tb := tb_in (List.mem_of_getElem? (i := 1803) (by decide +kernel)) (by decide +kernel)
theorem wd_1804 : Cond.selects RX12 yX12_judge yX12_judge ∈ tb := tb_in (List.mem_of_getElem? (i := 1804) (by decide +kernel)) (by decide +kernel)
theorem wd_1805 : Cond.code yX12_judge cX12_judge 7 (some .int) ∈ tb := tb_in (List.mem_of_getElem? (i := 1805) (by decide +kernel)) (by decide +kernel)
theorem wd_1806 : Cond.methodLink RX12 332 yX12_noTray ∈ tb := tb_in (List.mem_of_getElem? (i := 1806) (by decide +kernel)) (by decide +kernel)
theorem wd_1808 : Cond.instanceMethod yX12_noTray ∈ tb := tb_in (List.mem_of_getElem? (i := 1808) (by decide +kernel)) (by decide +kernel)
theorem wd_1809 : Cond.code yX12_noTray cX12_noTray 2 (some .int) ∈ tb := tb_in (List.mem_of_getElem? (i := 1809) (by decide +kernel)) (by decide +kernel)
theorem wd_1810 : Cond.methodLink RX12 335 yX12_tells ∈ tb := tb_in (List.mem_of_getElem? (i := 1810) (by decide +kernel)) (by decide +kernel)
theorem wd_1812 : Cond.instanceMethod yX12_tells ∈ tb := tb_in (List.mem_of_getElem? (i := 1812) (by decide +kernel)) (by decide +kernel)
theorem wd_1813 : Cond.code yX12_tells cX12_tells 3 (some .int) ∈ tb := tb_in (List.mem_of_getElem? (i := 1813) (by decide +kernel)) (by decide +kernel)
theorem wd_1814 : Cond.methodLink RX12 325 yX12_whyNot ∈ tb := tb_in (List.mem_of_getElem? (i := 1814) (by decide +kernel)) (by decide +kernel)
theorem wd_1816 : Cond.instanceMethod yX12_whyNot ∈ tb := tb_in (List.mem_of_getElem? (i := 1816) (by decide +kernel)) (by decide +kernel)
theorem wd_1817 : Cond.code yX12_whyNot cX12_whyNot 3 (some .int) ∈ tb := tb_in (List.mem_of_getElem? (i := 1817) (by decide +kernel)) (by decide +kernel)
theorem wd_1818 : Cond.constantLong RX12 302 699 ∈ tb := tb_in (List.mem_of_getElem? (i := 1818) (by decide +kernel)) (by decide +kernel)
theorem wd_1819 : Cond.constantLong RX12 304 100 ∈ tb := tb_in (List.mem_of_getElem? (i := 1819) (by decide +kernel)) (by decide +kernel)
theorem wd_1820 : Cond.constantLong RX12 306 1000 ∈ tb := tb_in (List.mem_of_getElem? (i := 1820) (by decide +kernel)) (by decide +kernel)
theorem wd_1821 : Cond.constantLong RX12 308 1099 ∈ tb := tb_in (List.mem_of_getElem? (i := 1821) (by decide +kernel)) (by decide +kernel)
theorem wd_1822 : Cond.constantLong RX12 310 2000 ∈ tb := tb_in (List.mem_of_getElem? (i := 1822) (by decide +kernel)) (by decide +kernel)
theorem wd_1823 : Cond.constantLong RX12 312 2099 ∈ tb := tb_in (List.mem_of_getElem? (i := 1823) (by decide +kernel)) (by decide +kernel)
theorem wd_1824 : Cond.constantLong RX12 314 2100 ∈ tb := tb_in (List.mem_of_getElem? (i := 1824) (by decide +kernel)) (by decide +kernel)
theorem wd_1825 : Cond.constantLong RX12 316 2199 ∈ tb := tb_in (List.mem_of_getElem? (i := 1825) (by decide +kernel)) (by decide +kernel)
theorem wd_1826 : Cond.constantLong RX12 318 3000 ∈ tb := tb_in (List.mem_of_getElem? (i := 1826) (by decide +kernel)) (by decide +kernel)
theorem wd_1827 : Cond.constantLong RX12 320 4000 ∈ tb := tb_in (List.mem_of_getElem? (i := 1827) (by decide +kernel)) (by decide +kernel)
theorem wd_1828 : Cond.methodLink RX12 328 yX12_does ∈ tb := tb_in (List.mem_of_getElem? (i := 1828) (by decide +kernel)) (by decide +kernel)
theorem wd_1830 : Cond.instanceMethod yX12_does ∈ tb := tb_in (List.mem_of_getElem? (i := 1830) (by decide +kernel)) (by decide +kernel)
theorem wd_1831 : Cond.code yX12_does cX12_does 3 none ∈ tb := tb_in (List.mem_of_getElem? (i := 1831) (by decide +kernel)) (by decide +kernel)
theorem wd_1832 : Cond.methodLink RX12 338 yX12_away ∈ tb := tb_in (List.mem_of_getElem? (i := 1832) (by decide +kernel)) (by decide +kernel)
theorem wd_1834 : Cond.instanceMethod yX12_away ∈ tb := tb_in (List.mem_of_getElem? (i := 1834) (by decide +kernel)) (by decide +kernel)
theorem wd_1835 : Cond.code yX12_away cX12_away 3 (some .int) ∈ tb := tb_in (List.mem_of_getElem? (i := 1835) (by decide +kernel)) (by decide +kernel)
theorem wd_1836 : Cond.methodLink RX12 341 yX12_isAgain ∈ tb := tb_in (List.mem_of_getElem? (i := 1836) (by decide +kernel)) (by decide +kernel)
theorem wd_1838 : Cond.instanceMethod yX12_isAgain ∈ tb := tb_in (List.mem_of_getElem? (i := 1838) (by decide +kernel)) (by decide +kernel)
theorem wd_1839 : Cond.code yX12_isAgain cX12_isAgain 2 none ∈ tb := tb_in (List.mem_of_getElem? (i := 1839) (by decide +kernel)) (by decide +kernel)
theorem wd_1840 : Cond.methodLink RL 84 yX12_perform ∈ tb := tb_in (List.mem_of_getElem? (i := 1840) (by decide +kernel)) (by decide +kernel)
theorem wd_1841 : Cond.instanceMethod yX12_perform ∈ tb := tb_in (List.mem_of_getElem? (i := 1841) (by decide +kernel)) (by decide +kernel)
theorem wd_1842 : Cond.selects RX12 yX12_perform yX12_perform ∈ tb := tb_in (List.mem_of_getElem? (i := 1842) (by decide +kernel)) (by decide +kernel)
theorem wd_1843 : Cond.code yX12_perform cX12_perform 4 (some .int) ∈ tb := tb_in (List.mem_of_getElem? (i := 1843) (by decide +kernel)) (by decide +kernel)
theorem wd_1844 : Cond.methodLink RL 88 yX12_year ∈ tb := tb_in (List.mem_of_getElem? (i := 1844) (by decide +kernel)) (by decide +kernel)
theorem wd_1845 : Cond.instanceMethod yX12_year ∈ tb := tb_in (List.mem_of_getElem? (i := 1845) (by decide +kernel)) (by decide +kernel)
theorem wd_1846 : Cond.selects RX12 yX12_year yX12_year ∈ tb := tb_in (List.mem_of_getElem? (i := 1846) (by decide +kernel)) (by decide +kernel)
theorem wd_1847 : Cond.code yX12_year cX12_year 7 (some .int) ∈ tb := tb_in (List.mem_of_getElem? (i := 1847) (by decide +kernel)) (by decide +kernel)
theorem wd_1848 : Cond.constantLong RX12 351 30 ∈ tb := tb_in (List.mem_of_getElem? (i := 1848) (by decide +kernel)) (by decide +kernel)
theorem wd_1849 : Cond.methodLink RX12 353 yX12_drawn ∈ tb := tb_in (List.mem_of_getElem? (i := 1849) (by decide +kernel)) (by decide +kernel)
theorem wd_1851 : Cond.instanceMethod yX12_drawn ∈ tb := tb_in (List.mem_of_getElem? (i := 1851) (by decide +kernel)) (by decide +kernel)
theorem wd_1852 : Cond.code yX12_drawn cX12_drawn 3 (some .long) ∈ tb := tb_in (List.mem_of_getElem? (i := 1852) (by decide +kernel)) (by decide +kernel)
theorem wd_1853 : Cond.methodLink RX12 348 yX12_draw ∈ tb := tb_in (List.mem_of_getElem? (i := 1853) (by decide +kernel)) (by decide +kernel)
theorem wd_1855 : Cond.instanceMethod yX12_draw ∈ tb := tb_in (List.mem_of_getElem? (i := 1855) (by decide +kernel)) (by decide +kernel)
theorem wd_1856 : Cond.code yX12_draw cX12_draw 1 (some .int) ∈ tb := tb_in (List.mem_of_getElem? (i := 1856) (by decide +kernel)) (by decide +kernel)
theorem wd_1857 : Cond.constant RX12 344 1103515245 ∈ tb := tb_in (List.mem_of_getElem? (i := 1857) (by decide +kernel)) (by decide +kernel)
theorem wd_1858 : Cond.methodLink RL 92 yX12_maps ∈ tb := tb_in (List.mem_of_getElem? (i := 1858) (by decide +kernel)) (by decide +kernel)
theorem wd_1859 : Cond.instanceMethod yX12_maps ∈ tb := tb_in (List.mem_of_getElem? (i := 1859) (by decide +kernel)) (by decide +kernel)
theorem wd_1860 : Cond.selects RX12 yX12_maps yX12_maps ∈ tb := tb_in (List.mem_of_getElem? (i := 1860) (by decide +kernel)) (by decide +kernel)
theorem wd_1861 : Cond.code yX12_maps cX12_maps 1 (some .int) ∈ tb := tb_in (List.mem_of_getElem? (i := 1861) (by decide +kernel)) (by decide +kernel)
theorem wd_1862 : Cond.methodLink RL 96 yX12_inMap ∈ tb := tb_in (List.mem_of_getElem? (i := 1862) (by decide +kernel)) (by decide +kernel)
theorem wd_1863 : Cond.instanceMethod yX12_inMap ∈ tb := tb_in (List.mem_of_getElem? (i := 1863) (by decide +kernel)) (by decide +kernel)
theorem wd_1864 : Cond.selects RX12 yX12_inMap yX12_inMap ∈ tb := tb_in (List.mem_of_getElem? (i := 1864) (by decide +kernel)) (by decide +kernel)
theorem wd_1865 : Cond.code yX12_inMap cX12_inMap 3 (some .int) ∈ tb := tb_in (List.mem_of_getElem? (i := 1865) (by decide +kernel)) (by decide +kernel)
theorem wd_1866 : Cond.methodLink RL 100 yX12_with ∈ tb := tb_in (List.mem_of_getElem? (i := 1866) (by decide +kernel)) (by decide +kernel)
theorem wd_1867 : Cond.instanceMethod yX12_with ∈ tb := tb_in (List.mem_of_getElem? (i := 1867) (by decide +kernel)) (by decide +kernel)
theorem wd_1868 : Cond.selects RX12 yX12_with yX12_with ∈ tb := tb_in (List.mem_of_getElem? (i := 1868) (by decide +kernel)) (by decide +kernel)
theorem wd_1869 : Cond.code yX12_with cX12_with 3 (some .int) ∈ tb := tb_in (List.mem_of_getElem? (i := 1869) (by decide +kernel)) (by decide +kernel)
theorem wd_1870 : Cond.methodLink RX12 357 yX12_withOf ∈ tb := tb_in (List.mem_of_getElem? (i := 1870) (by decide +kernel)) (by decide +kernel)
theorem wd_1872 : Cond.instanceMethod yX12_withOf ∈ tb := tb_in (List.mem_of_getElem? (i := 1872) (by decide +kernel)) (by decide +kernel)
theorem wd_1873 : Cond.code yX12_withOf cX12_withOf 5 (some .int) ∈ tb := tb_in (List.mem_of_getElem? (i := 1873) (by decide +kernel)) (by decide +kernel)
theorem wd_1874 : Cond.methodLink RL 104 yX12_near ∈ tb := tb_in (List.mem_of_getElem? (i := 1874) (by decide +kernel)) (by decide +kernel)
theorem wd_1875 : Cond.instanceMethod yX12_near ∈ tb := tb_in (List.mem_of_getElem? (i := 1875) (by decide +kernel)) (by decide +kernel)
theorem wd_1876 : Cond.selects RX12 yX12_near yX12_near ∈ tb := tb_in (List.mem_of_getElem? (i := 1876) (by decide +kernel)) (by decide +kernel)
theorem wd_1877 : Cond.code yX12_near cX12_near 7 (some .int) ∈ tb := tb_in (List.mem_of_getElem? (i := 1877) (by decide +kernel)) (by decide +kernel)
theorem wd_1878 : Cond.methodLink RX12 360 yX12_isAbove ∈ tb := tb_in (List.mem_of_getElem? (i := 1878) (by decide +kernel)) (by decide +kernel)
theorem wd_1880 : Cond.instanceMethod yX12_isAbove ∈ tb := tb_in (List.mem_of_getElem? (i := 1880) (by decide +kernel)) (by decide +kernel)
theorem wd_1881 : Cond.code yX12_isAbove cX12_isAbove 3 (some .boolean) ∈ tb := tb_in (List.mem_of_getElem? (i := 1881) (by decide +kernel)) (by decide +kernel)
theorem wd_1882 : Cond.methodLink RL 108 yX12_allElse ∈ tb := tb_in (List.mem_of_getElem? (i := 1882) (by decide +kernel)) (by decide +kernel)
theorem wd_1883 : Cond.instanceMethod yX12_allElse ∈ tb := tb_in (List.mem_of_getElem? (i := 1883) (by decide +kernel)) (by decide +kernel)
theorem wd_1884 : Cond.selects RX12 yX12_allElse yX12_allElse ∈ tb := tb_in (List.mem_of_getElem? (i := 1884) (by decide +kernel)) (by decide +kernel)
theorem wd_1885 : Cond.code yX12_allElse cX12_allElse 5 (some .int) ∈ tb := tb_in (List.mem_of_getElem? (i := 1885) (by decide +kernel)) (by decide +kernel)
theorem wd_1886 : Cond.methodLink RL 112 yX12_likeliest ∈ tb := tb_in (List.mem_of_getElem? (i := 1886) (by decide +kernel)) (by decide +kernel)
theorem wd_1887 : Cond.instanceMethod yX12_likeliest ∈ tb := tb_in (List.mem_of_getElem? (i := 1887) (by decide +kernel)) (by decide +kernel)
theorem wd_1888 : Cond.selects RX12 yX12_likeliest yX12_likeliest ∈ tb := tb_in (List.mem_of_getElem? (i := 1888) (by decide +kernel)) (by decide +kernel)
theorem wd_1889 : Cond.code yX12_likeliest cX12_likeliest 6 (some .int) ∈ tb := tb_in (List.mem_of_getElem? (i := 1889) (by decide +kernel)) (by decide +kernel)
theorem wd_1890 : Cond.methodLink RL 116 yX12_sure ∈ tb := tb_in (List.mem_of_getElem? (i := 1890) (by decide +kernel)) (by decide +kernel)
theorem wd_1891 : Cond.instanceMethod yX12_sure ∈ tb := tb_in (List.mem_of_getElem? (i := 1891) (by decide +kernel)) (by decide +kernel)
theorem wd_1892 : Cond.selects RX12 yX12_sure yX12_sure ∈ tb := tb_in (List.mem_of_getElem? (i := 1892) (by decide +kernel)) (by decide +kernel)
theorem wd_1893 : Cond.code yX12_sure cX12_sure 6 (some .int) ∈ tb := tb_in (List.mem_of_getElem? (i := 1893) (by decide +kernel)) (by decide +kernel)
theorem wd_1894 : Cond.constantLong RX12 363 2 ∈ tb := tb_in (List.mem_of_getElem? (i := 1894) (by decide +kernel)) (by decide +kernel)
theorem wd_1895 : Cond.methodLink RL 120 yX12_tooMany ∈ tb := tb_in (List.mem_of_getElem? (i := 1895) (by decide +kernel)) (by decide +kernel)
theorem wd_1896 : Cond.instanceMethod yX12_tooMany ∈ tb := tb_in (List.mem_of_getElem? (i := 1896) (by decide +kernel)) (by decide +kernel)
theorem wd_1897 : Cond.selects RX12 yX12_tooMany yX12_tooMany ∈ tb := tb_in (List.mem_of_getElem? (i := 1897) (by decide +kernel)) (by decide +kernel)
theorem wd_1898 : Cond.code yX12_tooMany cX12_tooMany 3 (some .int) ∈ tb := tb_in (List.mem_of_getElem? (i := 1898) (by decide +kernel)) (by decide +kernel)
theorem wd_1899 : Cond.methodLink RL 124 yX12_best ∈ tb := tb_in (List.mem_of_getElem? (i := 1899) (by decide +kernel)) (by decide +kernel)
theorem wd_1900 : Cond.instanceMethod yX12_best ∈ tb := tb_in (List.mem_of_getElem? (i := 1900) (by decide +kernel)) (by decide +kernel)
theorem wd_1901 : Cond.selects RX12 yX12_best yX12_best ∈ tb := tb_in (List.mem_of_getElem? (i := 1901) (by decide +kernel)) (by decide +kernel)
theorem wd_1902 : Cond.code yX12_best cX12_best 2 (some .int) ∈ tb := tb_in (List.mem_of_getElem? (i := 1902) (by decide +kernel)) (by decide +kernel)
theorem wd_1903 : Cond.methodLink RX12 387 yX12_asked ∈ tb := tb_in (List.mem_of_getElem? (i := 1903) (by decide +kernel)) (by decide +kernel)
theorem wd_1905 : Cond.instanceMethod yX12_asked ∈ tb := tb_in (List.mem_of_getElem? (i := 1905) (by decide +kernel)) (by decide +kernel)
theorem wd_1906 : Cond.code yX12_asked cX12_asked 5 (some .int) ∈ tb := tb_in (List.mem_of_getElem? (i := 1906) (by decide +kernel)) (by decide +kernel)
theorem wd_1907 : Cond.constantLong RX12 382 16 ∈ tb := tb_in (List.mem_of_getElem? (i := 1907) (by decide +kernel)) (by decide +kernel)
theorem wd_1908 : Cond.methodLink RX12 384 yX12_bestMap ∈ tb := tb_in (List.mem_of_getElem? (i := 1908) (by decide +kernel)) (by decide +kernel)
theorem wd_1910 : Cond.instanceMethod yX12_bestMap ∈ tb := tb_in (List.mem_of_getElem? (i := 1910) (by decide +kernel)) (by decide +kernel)
theorem wd_1911 : Cond.code yX12_bestMap cX12_bestMap 6 (some .int) ∈ tb := tb_in (List.mem_of_getElem? (i := 1911) (by decide +kernel)) (by decide +kernel)
theorem wd_1912 : Cond.methodLink RX12 379 yX12_valueIn ∈ tb := tb_in (List.mem_of_getElem? (i := 1912) (by decide +kernel)) (by decide +kernel)
theorem wd_1914 : Cond.instanceMethod yX12_valueIn ∈ tb := tb_in (List.mem_of_getElem? (i := 1914) (by decide +kernel)) (by decide +kernel)
theorem wd_1915 : Cond.code yX12_valueIn cX12_valueIn 3 (some .int) ∈ tb := tb_in (List.mem_of_getElem? (i := 1915) (by decide +kernel)) (by decide +kernel)
theorem wd_1916 : Cond.methodLink RX12 370 yX12_worthIn ∈ tb := tb_in (List.mem_of_getElem? (i := 1916) (by decide +kernel)) (by decide +kernel)
theorem wd_1918 : Cond.instanceMethod yX12_worthIn ∈ tb := tb_in (List.mem_of_getElem? (i := 1918) (by decide +kernel)) (by decide +kernel)
theorem wd_1919 : Cond.code yX12_worthIn cX12_worthIn 4 (some .int) ∈ tb := tb_in (List.mem_of_getElem? (i := 1919) (by decide +kernel)) (by decide +kernel)
theorem wd_1920 : Cond.methodLink RX12 373 yX12_leastIn ∈ tb := tb_in (List.mem_of_getElem? (i := 1920) (by decide +kernel)) (by decide +kernel)
theorem wd_1922 : Cond.instanceMethod yX12_leastIn ∈ tb := tb_in (List.mem_of_getElem? (i := 1922) (by decide +kernel)) (by decide +kernel)
theorem wd_1923 : Cond.code yX12_leastIn cX12_leastIn 4 (some .int) ∈ tb := tb_in (List.mem_of_getElem? (i := 1923) (by decide +kernel)) (by decide +kernel)
theorem wd_1924 : Cond.constant RX12 365 1000000000 ∈ tb := tb_in (List.mem_of_getElem? (i := 1924) (by decide +kernel)) (by decide +kernel)
theorem wd_1925 : Cond.methodLink RX12 376 yX12_harmIn ∈ tb := tb_in (List.mem_of_getElem? (i := 1925) (by decide +kernel)) (by decide +kernel)
theorem wd_1927 : Cond.instanceMethod yX12_harmIn ∈ tb := tb_in (List.mem_of_getElem? (i := 1927) (by decide +kernel)) (by decide +kernel)
theorem wd_1928 : Cond.code yX12_harmIn cX12_harmIn 5 (some .int) ∈ tb := tb_in (List.mem_of_getElem? (i := 1928) (by decide +kernel)) (by decide +kernel)
theorem wd_1929 : Cond.methodLink RX12 366 yX12_harmOf ∈ tb := tb_in (List.mem_of_getElem? (i := 1929) (by decide +kernel)) (by decide +kernel)
theorem wd_1931 : Cond.instanceMethod yX12_harmOf ∈ tb := tb_in (List.mem_of_getElem? (i := 1931) (by decide +kernel)) (by decide +kernel)
theorem wd_1932 : Cond.code yX12_harmOf cX12_harmOf 5 (some .int) ∈ tb := tb_in (List.mem_of_getElem? (i := 1932) (by decide +kernel)) (by decide +kernel)
theorem wd_1933 : Cond.methodLink RL 128 yX12_fairest ∈ tb := tb_in (List.mem_of_getElem? (i := 1933) (by decide +kernel)) (by decide +kernel)
theorem wd_1934 : Cond.instanceMethod yX12_fairest ∈ tb := tb_in (List.mem_of_getElem? (i := 1934) (by decide +kernel)) (by decide +kernel)
theorem wd_1935 : Cond.selects RX12 yX12_fairest yX12_fairest ∈ tb := tb_in (List.mem_of_getElem? (i := 1935) (by decide +kernel)) (by decide +kernel)
theorem wd_1936 : Cond.code yX12_fairest cX12_fairest 2 (some .int) ∈ tb := tb_in (List.mem_of_getElem? (i := 1936) (by decide +kernel)) (by decide +kernel)
theorem wd_1937 : Cond.methodLink RL 132 yX12_stillest ∈ tb := tb_in (List.mem_of_getElem? (i := 1937) (by decide +kernel)) (by decide +kernel)
theorem wd_1938 : Cond.instanceMethod yX12_stillest ∈ tb := tb_in (List.mem_of_getElem? (i := 1938) (by decide +kernel)) (by decide +kernel)
theorem wd_1939 : Cond.selects RX12 yX12_stillest yX12_stillest ∈ tb := tb_in (List.mem_of_getElem? (i := 1939) (by decide +kernel)) (by decide +kernel)
theorem wd_1940 : Cond.code yX12_stillest cX12_stillest 2 (some .int) ∈ tb := tb_in (List.mem_of_getElem? (i := 1940) (by decide +kernel)) (by decide +kernel)
theorem wd_1941 : Cond.methodLink RL 136 yX12_bestMending ∈ tb := tb_in (List.mem_of_getElem? (i := 1941) (by decide +kernel)) (by decide +kernel)
theorem wd_1942 : Cond.instanceMethod yX12_bestMending ∈ tb := tb_in (List.mem_of_getElem? (i := 1942) (by decide +kernel)) (by decide +kernel)
theorem wd_1943 : Cond.selects RX12 yX12_bestMending yX12_bestMending ∈ tb := tb_in (List.mem_of_getElem? (i := 1943) (by decide +kernel)) (by decide +kernel)
theorem wd_1944 : Cond.code yX12_bestMending cX12_bestMending 7 (some .int) ∈ tb := tb_in (List.mem_of_getElem? (i := 1944) (by decide +kernel)) (by decide +kernel)
theorem wd_1945 : Cond.methodLink RL 140 yX12_thisMap ∈ tb := tb_in (List.mem_of_getElem? (i := 1945) (by decide +kernel)) (by decide +kernel)
theorem wd_1946 : Cond.instanceMethod yX12_thisMap ∈ tb := tb_in (List.mem_of_getElem? (i := 1946) (by decide +kernel)) (by decide +kernel)
theorem wd_1947 : Cond.selects RX12 yX12_thisMap yX12_thisMap ∈ tb := tb_in (List.mem_of_getElem? (i := 1947) (by decide +kernel)) (by decide +kernel)
theorem wd_1948 : Cond.code yX12_thisMap cX12_thisMap 4 (some .int) ∈ tb := tb_in (List.mem_of_getElem? (i := 1948) (by decide +kernel)) (by decide +kernel)
theorem wd_1949 : Cond.methodLink RL 144 yX12_harm ∈ tb := tb_in (List.mem_of_getElem? (i := 1949) (by decide +kernel)) (by decide +kernel)
theorem wd_1950 : Cond.instanceMethod yX12_harm ∈ tb := tb_in (List.mem_of_getElem? (i := 1950) (by decide +kernel)) (by decide +kernel)
theorem wd_1951 : Cond.selects RX12 yX12_harm yX12_harm ∈ tb := tb_in (List.mem_of_getElem? (i := 1951) (by decide +kernel)) (by decide +kernel)
theorem wd_1952 : Cond.code yX12_harm cX12_harm 4 (some .int) ∈ tb := tb_in (List.mem_of_getElem? (i := 1952) (by decide +kernel)) (by decide +kernel)
theorem wd_1953 : Cond.methodLink RL 148 yX12_envies ∈ tb := tb_in (List.mem_of_getElem? (i := 1953) (by decide +kernel)) (by decide +kernel)
theorem wd_1954 : Cond.instanceMethod yX12_envies ∈ tb := tb_in (List.mem_of_getElem? (i := 1954) (by decide +kernel)) (by decide +kernel)
theorem wd_1955 : Cond.selects RX12 yX12_envies yX12_envies ∈ tb := tb_in (List.mem_of_getElem? (i := 1955) (by decide +kernel)) (by decide +kernel)
theorem wd_1956 : Cond.code yX12_envies cX12_envies 4 (some .int) ∈ tb := tb_in (List.mem_of_getElem? (i := 1956) (by decide +kernel)) (by decide +kernel)
theorem wd_1957 : Cond.methodLink RX12 390 yX12_isEnvied ∈ tb := tb_in (List.mem_of_getElem? (i := 1957) (by decide +kernel)) (by decide +kernel)
theorem wd_1959 : Cond.instanceMethod yX12_isEnvied ∈ tb := tb_in (List.mem_of_getElem? (i := 1959) (by decide +kernel)) (by decide +kernel)
theorem wd_1960 : Cond.code yX12_isEnvied cX12_isEnvied 5 (some .boolean) ∈ tb := tb_in (List.mem_of_getElem? (i := 1960) (by decide +kernel)) (by decide +kernel)
theorem wd_1961 : Cond.methodLink RL 152 yX12_wouldSwap ∈ tb := tb_in (List.mem_of_getElem? (i := 1961) (by decide +kernel)) (by decide +kernel)
theorem wd_1962 : Cond.instanceMethod yX12_wouldSwap ∈ tb := tb_in (List.mem_of_getElem? (i := 1962) (by decide +kernel)) (by decide +kernel)
theorem wd_1963 : Cond.selects RX12 yX12_wouldSwap yX12_wouldSwap ∈ tb := tb_in (List.mem_of_getElem? (i := 1963) (by decide +kernel)) (by decide +kernel)
theorem wd_1964 : Cond.code yX12_wouldSwap cX12_wouldSwap 3 (some .int) ∈ tb := tb_in (List.mem_of_getElem? (i := 1964) (by decide +kernel)) (by decide +kernel)
theorem wd_1965 : Cond.methodLink RL 156 yX12_byRings ∈ tb := tb_in (List.mem_of_getElem? (i := 1965) (by decide +kernel)) (by decide +kernel)
theorem wd_1966 : Cond.instanceMethod yX12_byRings ∈ tb := tb_in (List.mem_of_getElem? (i := 1966) (by decide +kernel)) (by decide +kernel)
theorem wd_1967 : Cond.selects RX12 yX12_byRings yX12_byRings ∈ tb := tb_in (List.mem_of_getElem? (i := 1967) (by decide +kernel)) (by decide +kernel)
theorem wd_1968 : Cond.code yX12_byRings cX12_byRings 2 (some .int) ∈ tb := tb_in (List.mem_of_getElem? (i := 1968) (by decide +kernel)) (by decide +kernel)
theorem wd_1969 : Cond.methodLink RL 160 yX12_ringsMany ∈ tb := tb_in (List.mem_of_getElem? (i := 1969) (by decide +kernel)) (by decide +kernel)
theorem wd_1970 : Cond.instanceMethod yX12_ringsMany ∈ tb := tb_in (List.mem_of_getElem? (i := 1970) (by decide +kernel)) (by decide +kernel)
theorem wd_1971 : Cond.selects RX12 yX12_ringsMany yX12_ringsMany ∈ tb := tb_in (List.mem_of_getElem? (i := 1971) (by decide +kernel)) (by decide +kernel)
theorem wd_1972 : Cond.code yX12_ringsMany cX12_ringsMany 1 (some .int) ∈ tb := tb_in (List.mem_of_getElem? (i := 1972) (by decide +kernel)) (by decide +kernel)
theorem wd_1973 : Cond.methodLink RL 164 yX12_moving ∈ tb := tb_in (List.mem_of_getElem? (i := 1973) (by decide +kernel)) (by decide +kernel)
theorem wd_1974 : Cond.instanceMethod yX12_moving ∈ tb := tb_in (List.mem_of_getElem? (i := 1974) (by decide +kernel)) (by decide +kernel)
theorem wd_1975 : Cond.selects RX12 yX12_moving yX12_moving ∈ tb := tb_in (List.mem_of_getElem? (i := 1975) (by decide +kernel)) (by decide +kernel)
theorem wd_1976 : Cond.code yX12_moving cX12_moving 4 (some .int) ∈ tb := tb_in (List.mem_of_getElem? (i := 1976) (by decide +kernel)) (by decide +kernel)
theorem wd_1977 : Cond.methodLink RX12 400 yX12_moved ∈ tb := tb_in (List.mem_of_getElem? (i := 1977) (by decide +kernel)) (by decide +kernel)
theorem wd_1979 : Cond.instanceMethod yX12_moved ∈ tb := tb_in (List.mem_of_getElem? (i := 1979) (by decide +kernel)) (by decide +kernel)
theorem wd_1980 : Cond.code yX12_moved cX12_moved 8 (some .int) ∈ tb := tb_in (List.mem_of_getElem? (i := 1980) (by decide +kernel)) (by decide +kernel)
theorem wd_1981 : Cond.methodLink RX12 393 yX12_goesDay ∈ tb := tb_in (List.mem_of_getElem? (i := 1981) (by decide +kernel)) (by decide +kernel)
theorem wd_1983 : Cond.instanceMethod yX12_goesDay ∈ tb := tb_in (List.mem_of_getElem? (i := 1983) (by decide +kernel)) (by decide +kernel)
theorem wd_1984 : Cond.code yX12_goesDay cX12_goesDay 10 none ∈ tb := tb_in (List.mem_of_getElem? (i := 1984) (by decide +kernel)) (by decide +kernel)
theorem wd_1985 : Cond.methodLink RX12 397 yX12_isEmpty ∈ tb := tb_in (List.mem_of_getElem? (i := 1985) (by decide +kernel)) (by decide +kernel)
theorem wd_1987 : Cond.instanceMethod yX12_isEmpty ∈ tb := tb_in (List.mem_of_getElem? (i := 1987) (by decide +kernel)) (by decide +kernel)
theorem wd_1988 : Cond.code yX12_isEmpty cX12_isEmpty 4 (some .boolean) ∈ tb := tb_in (List.mem_of_getElem? (i := 1988) (by decide +kernel)) (by decide +kernel)
theorem wd_1989 : Cond.methodLink RL 168 yX12_nearest ∈ tb := tb_in (List.mem_of_getElem? (i := 1989) (by decide +kernel)) (by decide +kernel)
theorem wd_1990 : Cond.instanceMethod yX12_nearest ∈ tb := tb_in (List.mem_of_getElem? (i := 1990) (by decide +kernel)) (by decide +kernel)
theorem wd_1991 : Cond.selects RX12 yX12_nearest yX12_nearest ∈ tb := tb_in (List.mem_of_getElem? (i := 1991) (by decide +kernel)) (by decide +kernel)
theorem wd_1992 : Cond.code yX12_nearest cX12_nearest 5 (some .int) ∈ tb := tb_in (List.mem_of_getElem? (i := 1992) (by decide +kernel)) (by decide +kernel)
theorem wd_1993 : Cond.methodLink RL 172 yX12_seen ∈ tb := tb_in (List.mem_of_getElem? (i := 1993) (by decide +kernel)) (by decide +kernel)
theorem wd_1994 : Cond.instanceMethod yX12_seen ∈ tb := tb_in (List.mem_of_getElem? (i := 1994) (by decide +kernel)) (by decide +kernel)
theorem wd_1995 : Cond.selects RX12 yX12_seen yX12_seen ∈ tb := tb_in (List.mem_of_getElem? (i := 1995) (by decide +kernel)) (by decide +kernel)
theorem wd_1996 : Cond.code yX12_seen cX12_seen 3 (some .int) ∈ tb := tb_in (List.mem_of_getElem? (i := 1996) (by decide +kernel)) (by decide +kernel)
theorem wd_1997 : Cond.methodLink RX12 413 yX12_noSeen ∈ tb := tb_in (List.mem_of_getElem? (i := 1997) (by decide +kernel)) (by decide +kernel)
theorem wd_1999 : Cond.instanceMethod yX12_noSeen ∈ tb := tb_in (List.mem_of_getElem? (i := 1999) (by decide +kernel)) (by decide +kernel)
theorem wd_2000 : Cond.code yX12_noSeen cX12_noSeen 6 (some .int) ∈ tb := tb_in (List.mem_of_getElem? (i := 2000) (by decide +kernel)) (by decide +kernel)
theorem wd_2001 : Cond.constantLong RX12 403 (-1) ∈ tb := tb_in (List.mem_of_getElem? (i := 2001) (by decide +kernel)) (by decide +kernel)
theorem wd_2002 : Cond.constantLong RX12 405 99 ∈ tb := tb_in (List.mem_of_getElem? (i := 2002) (by decide +kernel)) (by decide +kernel)
theorem wd_2003 : Cond.methodLink RX12 416 yX12_laysSeen ∈ tb := tb_in (List.mem_of_getElem? (i := 2003) (by decide +kernel)) (by decide +kernel)
theorem wd_2005 : Cond.instanceMethod yX12_laysSeen ∈ tb := tb_in (List.mem_of_getElem? (i := 2005) (by decide +kernel)) (by decide +kernel)
theorem wd_2006 : Cond.code yX12_laysSeen cX12_laysSeen 4 none ∈ tb := tb_in (List.mem_of_getElem? (i := 2006) (by decide +kernel)) (by decide +kernel)
theorem wd_2007 : Cond.methodLink RX12 410 yX12_isSeen ∈ tb := tb_in (List.mem_of_getElem? (i := 2007) (by decide +kernel)) (by decide +kernel)
theorem wd_2009 : Cond.instanceMethod yX12_isSeen ∈ tb := tb_in (List.mem_of_getElem? (i := 2009) (by decide +kernel)) (by decide +kernel)
theorem wd_2010 : Cond.code yX12_isSeen cX12_isSeen 4 (some .boolean) ∈ tb := tb_in (List.mem_of_getElem? (i := 2010) (by decide +kernel)) (by decide +kernel)
theorem wd_2011 : Cond.methodLink RX12 407 yX12_whoIn ∈ tb := tb_in (List.mem_of_getElem? (i := 2011) (by decide +kernel)) (by decide +kernel)
theorem wd_2013 : Cond.instanceMethod yX12_whoIn ∈ tb := tb_in (List.mem_of_getElem? (i := 2013) (by decide +kernel)) (by decide +kernel)
theorem wd_2014 : Cond.code yX12_whoIn cX12_whoIn 4 (some .int) ∈ tb := tb_in (List.mem_of_getElem? (i := 2014) (by decide +kernel)) (by decide +kernel)
theorem wd_2015 : Cond.methodLink RL 176 yX12_had ∈ tb := tb_in (List.mem_of_getElem? (i := 2015) (by decide +kernel)) (by decide +kernel)
theorem wd_2016 : Cond.instanceMethod yX12_had ∈ tb := tb_in (List.mem_of_getElem? (i := 2016) (by decide +kernel)) (by decide +kernel)
theorem wd_2017 : Cond.selects RX12 yX12_had yX12_had ∈ tb := tb_in (List.mem_of_getElem? (i := 2017) (by decide +kernel)) (by decide +kernel)
theorem wd_2018 : Cond.code yX12_had cX12_had 4 (some .int) ∈ tb := tb_in (List.mem_of_getElem? (i := 2018) (by decide +kernel)) (by decide +kernel)
theorem wd_2019 : Cond.methodLink RL 180 yX12_wall ∈ tb := tb_in (List.mem_of_getElem? (i := 2019) (by decide +kernel)) (by decide +kernel)
theorem wd_2020 : Cond.instanceMethod yX12_wall ∈ tb := tb_in (List.mem_of_getElem? (i := 2020) (by decide +kernel)) (by decide +kernel)
theorem wd_2021 : Cond.selects RX12 yX12_wall yX12_wall ∈ tb := tb_in (List.mem_of_getElem? (i := 2021) (by decide +kernel)) (by decide +kernel)
theorem wd_2022 : Cond.code yX12_wall cX12_wall 7 (some .int) ∈ tb := tb_in (List.mem_of_getElem? (i := 2022) (by decide +kernel)) (by decide +kernel)
theorem wd_2023 : Cond.methodLink RX12 419 yX12_mostOften ∈ tb := tb_in (List.mem_of_getElem? (i := 2023) (by decide +kernel)) (by decide +kernel)
theorem wd_2025 : Cond.instanceMethod yX12_mostOften ∈ tb := tb_in (List.mem_of_getElem? (i := 2025) (by decide +kernel)) (by decide +kernel)
theorem wd_2026 : Cond.code yX12_mostOften cX12_mostOften 6 (some .int) ∈ tb := tb_in (List.mem_of_getElem? (i := 2026) (by decide +kernel)) (by decide +kernel)
theorem wd_2027 : Cond.methodLink RL 185 yX12_numbers ∈ tb := tb_in (List.mem_of_getElem? (i := 2027) (by decide +kernel)) (by decide +kernel)
theorem wd_2028 : Cond.instanceMethod yX12_numbers ∈ tb := tb_in (List.mem_of_getElem? (i := 2028) (by decide +kernel)) (by decide +kernel)
theorem wd_2029 : Cond.selects RX12 yX12_numbers yX12_numbers ∈ tb := tb_in (List.mem_of_getElem? (i := 2029) (by decide +kernel)) (by decide +kernel)
theorem wd_2030 : Cond.code yX12_numbers cX12_numbers 5 (some .int) ∈ tb := tb_in (List.mem_of_getElem? (i := 2030) (by decide +kernel)) (by decide +kernel)
theorem wd_2031 : Cond.constantLong RX12 422 40 ∈ tb := tb_in (List.mem_of_getElem? (i := 2031) (by decide +kernel)) (by decide +kernel)
theorem wd_2032 : Cond.methodLink RL 192 yX12_write ∈ tb := tb_in (List.mem_of_getElem? (i := 2032) (by decide +kernel)) (by decide +kernel)
theorem wd_2033 : Cond.instanceMethod yX12_write ∈ tb := tb_in (List.mem_of_getElem? (i := 2033) (by decide +kernel)) (by decide +kernel)
theorem wd_2034 : Cond.selects RX12 yX12_write yX12_write ∈ tb := tb_in (List.mem_of_getElem? (i := 2034) (by decide +kernel)) (by decide +kernel)
theorem wd_2035 : Cond.code yX12_write cX12_write 6 (some .long) ∈ tb := tb_in (List.mem_of_getElem? (i := 2035) (by decide +kernel)) (by decide +kernel)
theorem wd_2036 : Cond.constantLong RX12 424 (-7) ∈ tb := tb_in (List.mem_of_getElem? (i := 2036) (by decide +kernel)) (by decide +kernel)
theorem wd_2037 : Cond.methodLink RX12 426 yX12_cut ∈ tb := tb_in (List.mem_of_getElem? (i := 2037) (by decide +kernel)) (by decide +kernel)
theorem wd_2038 : Cond.static yX12_cut ∈ tb := tb_in (List.mem_of_getElem? (i := 2038) (by decide +kernel)) (by decide +kernel)
theorem wd_2039 : Cond.code yX12_cut cX12_cut 3 (some .long) ∈ tb := tb_in (List.mem_of_getElem? (i := 2039) (by decide +kernel)) (by decide +kernel)
theorem wd_2040 : Cond.methodLink RL 196 yX12_lists ∈ tb := tb_in (List.mem_of_getElem? (i := 2040) (by decide +kernel)) (by decide +kernel)
theorem wd_2041 : Cond.instanceMethod yX12_lists ∈ tb := tb_in (List.mem_of_getElem? (i := 2041) (by decide +kernel)) (by decide +kernel)
theorem wd_2042 : Cond.selects RX12 yX12_lists yX12_lists ∈ tb := tb_in (List.mem_of_getElem? (i := 2042) (by decide +kernel)) (by decide +kernel)
theorem wd_2043 : Cond.code yX12_lists cX12_lists 5 (some .int) ∈ tb := tb_in (List.mem_of_getElem? (i := 2043) (by decide +kernel)) (by decide +kernel)
theorem wd_2044 : Cond.methodLink RL 200 yX12_image ∈ tb := tb_in (List.mem_of_getElem? (i := 2044) (by decide +kernel)) (by decide +kernel)
theorem wd_2045 : Cond.instanceMethod yX12_image ∈ tb := tb_in (List.mem_of_getElem? (i := 2045) (by decide +kernel)) (by decide +kernel)
theorem wd_2046 : Cond.selects RX12 yX12_image yX12_image ∈ tb := tb_in (List.mem_of_getElem? (i := 2046) (by decide +kernel)) (by decide +kernel)
theorem wd_2047 : Cond.code yX12_image cX12_image 3 (some .int) ∈ tb := tb_in (List.mem_of_getElem? (i := 2047) (by decide +kernel)) (by decide +kernel)
theorem wd_2048 : Cond.methodLink RL 204 yX12_restore ∈ tb := tb_in (List.mem_of_getElem? (i := 2048) (by decide +kernel)) (by decide +kernel)
theorem wd_2049 : Cond.instanceMethod yX12_restore ∈ tb := tb_in (List.mem_of_getElem? (i := 2049) (by decide +kernel)) (by decide +kernel)
theorem wd_2050 : Cond.selects RX12 yX12_restore yX12_restore ∈ tb := tb_in (List.mem_of_getElem? (i := 2050) (by decide +kernel)) (by decide +kernel)
theorem wd_2051 : Cond.code yX12_restore cX12_restore 3 (some .int) ∈ tb := tb_in (List.mem_of_getElem? (i := 2051) (by decide +kernel)) (by decide +kernel)
theorem wd_2052 : Cond.methodLink RL 208 yX12_count ∈ tb := tb_in (List.mem_of_getElem? (i := 2052) (by decide +kernel)) (by decide +kernel)
theorem wd_2053 : Cond.instanceMethod yX12_count ∈ tb := tb_in (List.mem_of_getElem? (i := 2053) (by decide +kernel)) (by decide +kernel)
theorem wd_2054 : Cond.selects RX12 yX12_count yX12_count ∈ tb := tb_in (List.mem_of_getElem? (i := 2054) (by decide +kernel)) (by decide +kernel)
theorem wd_2055 : Cond.code yX12_count cX12_count 2 (some .int) ∈ tb := tb_in (List.mem_of_getElem? (i := 2055) (by decide +kernel)) (by decide +kernel)
theorem wd_2056 : Cond.methodLink RX12 430 yX12_faultsMany ∈ tb := tb_in (List.mem_of_getElem? (i := 2056) (by decide +kernel)) (by decide +kernel)
theorem wd_2058 : Cond.instanceMethod yX12_faultsMany ∈ tb := tb_in (List.mem_of_getElem? (i := 2058) (by decide +kernel)) (by decide +kernel)
theorem wd_2059 : Cond.code yX12_faultsMany cX12_faultsMany 3 (some .int) ∈ tb := tb_in (List.mem_of_getElem? (i := 2059) (by decide +kernel)) (by decide +kernel)
theorem wd_2060 : Cond.constantLong RL 186 4294967295 ∈ tb := tb_in (List.mem_of_getElem? (i := 2060) (by decide +kernel)) (by decide +kernel)
theorem inT0 : ∀ w ∈ u_ws RX0 TX0 9, w ∈ tb := by
  intro w h
  have h1 : ∀ w ∈ u_ws RX0 TX0 9, w ∈ lw_tbl := by decide +kernel
  have h2 : ∀ w ∈ u_ws RX0 TX0 9, goodWord w = true := by decide +kernel
  exact tb_in (h1 w h) (h2 w h)
theorem inT1 : ∀ w ∈ u_ws RX1 TX1 3, w ∈ tb := by
  intro w h
  have h1 : ∀ w ∈ u_ws RX1 TX1 3, w ∈ lw_tbl := by decide +kernel
  have h2 : ∀ w ∈ u_ws RX1 TX1 3, goodWord w = true := by decide +kernel
  exact tb_in (h1 w h) (h2 w h)
theorem inT2 : ∀ w ∈ u_ws RX2 TX2 13, w ∈ tb := by
  intro w h
  have h1 : ∀ w ∈ u_ws RX2 TX2 13, w ∈ lw_tbl := by decide +kernel
  have h2 : ∀ w ∈ u_ws RX2 TX2 13, goodWord w = true := by decide +kernel
  exact tb_in (h1 w h) (h2 w h)
theorem inT3 : ∀ w ∈ u_ws RX3 TX3 10, w ∈ tb := by
  intro w h
  have h1 : ∀ w ∈ u_ws RX3 TX3 10, w ∈ lw_tbl := by decide +kernel
  have h2 : ∀ w ∈ u_ws RX3 TX3 10, goodWord w = true := by decide +kernel
  exact tb_in (h1 w h) (h2 w h)
theorem inT4 : ∀ w ∈ u_ws RX4 TX4 4, w ∈ tb := by
  intro w h
  have h1 : ∀ w ∈ u_ws RX4 TX4 4, w ∈ lw_tbl := by decide +kernel
  have h2 : ∀ w ∈ u_ws RX4 TX4 4, goodWord w = true := by decide +kernel
  exact tb_in (h1 w h) (h2 w h)
theorem inT5 : ∀ w ∈ u_ws RX5 TX5 7, w ∈ tb := by
  intro w h
  have h1 : ∀ w ∈ u_ws RX5 TX5 7, w ∈ lw_tbl := by decide +kernel
  have h2 : ∀ w ∈ u_ws RX5 TX5 7, goodWord w = true := by decide +kernel
  exact tb_in (h1 w h) (h2 w h)
theorem inT6 : ∀ w ∈ u_ws RX6 TX6 8, w ∈ tb := by
  intro w h
  have h1 : ∀ w ∈ u_ws RX6 TX6 8, w ∈ lw_tbl := by decide +kernel
  have h2 : ∀ w ∈ u_ws RX6 TX6 8, goodWord w = true := by decide +kernel
  exact tb_in (h1 w h) (h2 w h)
theorem inT7 : ∀ w ∈ u_ws RX7 TX7 9, w ∈ tb := by
  intro w h
  have h1 : ∀ w ∈ u_ws RX7 TX7 9, w ∈ lw_tbl := by decide +kernel
  have h2 : ∀ w ∈ u_ws RX7 TX7 9, goodWord w = true := by decide +kernel
  exact tb_in (h1 w h) (h2 w h)
theorem inT8 : ∀ w ∈ u_ws RX8 TX8 6, w ∈ tb := by
  intro w h
  have h1 : ∀ w ∈ u_ws RX8 TX8 6, w ∈ lw_tbl := by decide +kernel
  have h2 : ∀ w ∈ u_ws RX8 TX8 6, goodWord w = true := by decide +kernel
  exact tb_in (h1 w h) (h2 w h)
theorem inT9 : ∀ w ∈ u_ws RX9 TX9 6, w ∈ tb := by
  intro w h
  have h1 : ∀ w ∈ u_ws RX9 TX9 6, w ∈ lw_tbl := by decide +kernel
  have h2 : ∀ w ∈ u_ws RX9 TX9 6, goodWord w = true := by decide +kernel
  exact tb_in (h1 w h) (h2 w h)
theorem inT10 : ∀ w ∈ u_ws RX10 TX10 3, w ∈ tb := by
  intro w h
  have h1 : ∀ w ∈ u_ws RX10 TX10 3, w ∈ lw_tbl := by decide +kernel
  have h2 : ∀ w ∈ u_ws RX10 TX10 3, goodWord w = true := by decide +kernel
  exact tb_in (h1 w h) (h2 w h)
theorem inT11 : ∀ w ∈ u_ws RX11 TX11 18, w ∈ tb := by
  intro w h
  have h1 : ∀ w ∈ u_ws RX11 TX11 18, w ∈ lw_tbl := by decide +kernel
  have h2 : ∀ w ∈ u_ws RX11 TX11 18, goodWord w = true := by decide +kernel
  exact tb_in (h1 w h) (h2 w h)
theorem inT12 : ∀ w ∈ u_ws RX12 TX12 31, w ∈ tb := by
  intro w h
  have h1 : ∀ w ∈ u_ws RX12 TX12 31, w ∈ lw_tbl := by decide +kernel
  have h2 : ∀ w ∈ u_ws RX12 TX12 31, goodWord w = true := by decide +kernel
  exact tb_in (h1 w h) (h2 w h)
end
section
/-! the words, as one list for every method -/
theorem tb_hts {args : Array Value} {s : State} (h : ∀ w ∈ lw_tbl, w.before args s = true) : ∀ w ∈ tb, w.before args s = true := fun w hw => h w (List.mem_filter.mp hw).1
theorem tb_good {w : Cond} (h : w ∈ tb) : (w.onTables && w.keeps) = true ∨ ∃ ty, w = .arrayClass ty := good_of_word (List.mem_filter.mp h).2
theorem gd_c {y : MethodName} {cc : ByteArray} {n : Nat} {ret : Option FieldType} (h : Cond.code y cc n ret ∈ tb) : GoodIn tb (Cond.code y cc n ret :: tb) := by
  intro w hw
  rcases List.mem_cons.mp hw with rfl | hw
  · exact ⟨h, tb_good h⟩
  · exact ⟨hw, tb_good hw⟩
theorem gd_V {own C : String} {ix : Nat} {y : MethodName} {cc : ByteArray} {n : Nat} {ret : Option FieldType} (h1 : Cond.methodLink own ix y ∈ tb) (h2 : Cond.instanceMethod y ∈ tb) (h3 : Cond.selects C y y ∈ tb) (h4 : Cond.initialized C ∈ tb) (h5 : Cond.code y cc n ret ∈ tb) : GoodIn tb (wsV own ix C y (Cond.code y cc n ret :: tb)) := by
  intro w hw
  rcases List.mem_append.mp hw with hw | hw
  · simp only [List.mem_cons, List.not_mem_nil, or_false] at hw
    rcases hw with rfl | rfl | rfl | rfl
    · exact ⟨h1, tb_good h1⟩
    · exact ⟨h2, tb_good h2⟩
    · exact ⟨h3, tb_good h3⟩
    · exact ⟨h4, tb_good h4⟩
  · exact gd_c h5 w hw
theorem gd_S {own : String} {ix : Nat} {y : MethodName} {cc : ByteArray} {n : Nat} {ret : Option FieldType} (h1 : Cond.methodLink own ix y ∈ tb) (h2 : Cond.static y ∈ tb) (h4 : Cond.initialized y.cls ∈ tb) (h5 : Cond.code y cc n ret ∈ tb) : GoodIn tb (va_wsS own ix y (Cond.code y cc n ret :: tb)) := by
  intro w hw
  rcases List.mem_append.mp hw with hw | hw
  · simp only [List.mem_cons, List.not_mem_nil, or_false] at hw
    rcases hw with rfl | rfl | rfl
    · exact ⟨h1, tb_good h1⟩
    · exact ⟨h2, tb_good h2⟩
    · exact ⟨h4, tb_good h4⟩
  · exact gd_c h5 w hw
/-! what every method takes as known of the machine -/
abbrev tyL (ct : Nat → ClassId) : List (ClassId × FieldType) := [(ct 0, .int), (ct 1, .byte), (ct 2, .long), (ct 3, .boolean), (ct 4, .object RX4), (ct 5, .object RX10), (ct 6, .object RX2)]
def NN (U : State) : Prop := va_Nw (.methodLinkNest RX11 19 yX2_init RX11) U ∧ va_Nw (.methodLinkNest RX11 26 yX7_init RX11) U ∧ va_Nw (.methodLinkNest RX7 13 yX2_init RX11) U ∧ va_Nw (.methodLinkNest RX11 42 yX5_init RX11) U ∧ va_Nw (.methodLinkNest RX11 116 yX10_init RX11) U
def KK (D : va_G) (ct : Nat → ClassId) (U : State) : Prop := va_K D vwCl (tyL ct) U ∧ (va_AO RX4 U ∧ va_AO RX10 U ∧ va_AO RX2 U) ∧ NN U
theorem KK.moved {D : va_G} {ct : Nat → ClassId} {s U : State} (hW : s.WarmedH U.vm) (h : KK D ct s) : KK D ct U :=
  ⟨va_K.moved hW.alike h.1, ⟨h.2.1.1.moved hW.alike, h.2.1.2.1.moved hW.alike, h.2.1.2.2.moved hW.alike⟩, va_Nw.warmM hW h.2.2.1, va_Nw.warmM hW h.2.2.2.1, va_Nw.warmM hW h.2.2.2.2.1, va_Nw.warmM hW h.2.2.2.2.2.1, va_Nw.warmM hW h.2.2.2.2.2.2⟩
theorem KK.same {D : va_G} {ct : Nat → ClassId} {s U : State} (hv : s.vm = U.vm) (h : KK D ct s) : KK D ct U :=
  ⟨va_K.moved (hv ▸ Vm.Alike.refl s.vm) h.1, ⟨h.2.1.1.moved (hv ▸ Vm.Alike.refl s.vm), h.2.1.2.1.moved (hv ▸ Vm.Alike.refl s.vm), h.2.1.2.2.moved (hv ▸ Vm.Alike.refl s.vm)⟩, va_Nw.same rfl hv h.2.2.1, va_Nw.same rfl hv h.2.2.2.1, va_Nw.same rfl hv h.2.2.2.2.1, va_Nw.same rfl hv h.2.2.2.2.2.1, va_Nw.same rfl hv h.2.2.2.2.2.2⟩
def CX (p : Program) (m : MethodId) (c : Code) (cc : ByteArray) (nL : Nat) (s : State) (args : Array Value) (own : String) (D : va_G) (ct : Nat → ClassId) : Prop := CallFix p m c cc nL s args tb own ∧ KK D ct s
def WD (D : va_G) (A : Nat → Prop) (H0 H : Heap) (locs : List Loc) (ws : va_W) : Prop := va_P D vwCl ws H ∧ va_D A ws ∧ va_S A H0 H locs ∧ ∀ q, H0.size ≤ q → A q
theorem WD.sub {D : va_G} {A : Nat → Prop} {H0 H : Heap} {locs : List Loc} {ws ws' : va_W} (h : WD D A H0 H locs ws) (is : List Nat) (hn : va_nd is = true) (hs : is.map (fun i => ws[i]?) = ws'.map some) : WD D A H0 H locs ws' := by
  refine ⟨h.1.sub is ?_, h.2.1.sub is hn hs, h.2.2⟩
  have e : (is.map (fun i => ws[i]?)).filterMap id = (ws'.map some).filterMap id := by rw [hs]
  rw [List.filterMap_map, List.filterMap_map] at e
  simpa using e
/-! contracts: what a method starts from, what it ends with -/
def PC (D : va_G) (ct : Nat → ClassId) (av : List Value) (W0 : va_W) (sz : Nat) : Array Value → State → Prop := va_Pc av (fun U => U.heap.size = sz ∧ va_P D vwCl W0 U.heap ∧ KK D ct U ∧ va_D (fun _ => True) W0)
def QB (D : va_G) (A : Nat → Prop) (W1 : (Nat → Nat) → va_W) (u : Nat → Nat) (t : State) : Prop := va_P D vwCl (W1 u) t.heap ∧ va_D A (W1 u)
abbrev QcI (D : va_G) (A : Nat → Prop) (post : Int32 → Prop) (W1 : (Nat → Nat) → va_W) : Array Value → State → Outcome → State → Prop := va_Qi (fun r (_ : Nat → Nat) => post r) (QB D A W1) A
abbrev QcL (D : va_G) (A : Nat → Prop) (post : Int64 → Prop) (W1 : (Nat → Nat) → va_W) : Array Value → State → Outcome → State → Prop := va_Ql (fun r (_ : Nat → Nat) => post r) (QB D A W1) A
abbrev QcV (D : va_G) (A : Nat → Prop) (post : Prop) (W1 : (Nat → Nat) → va_W) : Array Value → State → Outcome → State → Prop := va_Qv (fun (_ : Nat → Nat) => post) (QB D A W1) A
def CI (l : Launch) (y : MethodName) (cc : ByteArray) (n : Nat) (ret : Option FieldType) (rm : Room) (D : va_G) (ct : Nat → ClassId) (av : List Value) (W0 : va_W) (post : Int32 → Prop) (W1 : (Nat → Nat) → va_W) : Prop :=
  ∀ sz : Nat, Met l y (Cond.code y cc n ret :: tb) rm (PC D ct av W0 sz) (QcI D (va_A W0 sz) post W1) rm.cells rm.slots (va_A W0 sz)
def CL (l : Launch) (y : MethodName) (cc : ByteArray) (n : Nat) (ret : Option FieldType) (rm : Room) (D : va_G) (ct : Nat → ClassId) (av : List Value) (W0 : va_W) (post : Int64 → Prop) (W1 : (Nat → Nat) → va_W) : Prop :=
  ∀ sz : Nat, Met l y (Cond.code y cc n ret :: tb) rm (PC D ct av W0 sz) (QcL D (va_A W0 sz) post W1) rm.cells rm.slots (va_A W0 sz)
def CV (l : Launch) (y : MethodName) (cc : ByteArray) (n : Nat) (ret : Option FieldType) (rm : Room) (D : va_G) (ct : Nat → ClassId) (av : List Value) (W0 : va_W) (post : Prop) (W1 : (Nat → Nat) → va_W) : Prop :=
  ∀ sz : Nat, Met l y (Cond.code y cc n ret :: tb) rm (PC D ct av W0 sz) (QcV D (va_A W0 sz) post W1) rm.cells rm.slots (va_A W0 sz)
/-- what a method's body has at its entry -/
def EN (p : Program) (m : MethodId) (meth : Method) (c : Code) (y : MethodName) (cc : ByteArray) (nL : Nat) (ret : Option FieldType) (s : State) (av : List Value) (D : va_G) (ct : Nat → ClassId) (A : Nat → Prop) (W0 : va_W) (ls : Array Slot) : Prop :=
  CX p m c cc nL s av.toArray y.cls D ct ∧ meth.sig.returnType = ret ∧ meth.locks = false ∧ meth.name = y.name ∧ WD D A s.heap s.heap [] W0 ∧ lv_has ls nL (lv_args 0 av)
theorem met_of {l : Launch} {y : MethodName} {cc : ByteArray} {n : Nat} {ret : Option FieldType} {rm : Room} {D : va_G} {ct : Nat → ClassId} {av : List Value} {W0 : va_W} {Qc : (Nat → Prop) → Array Value → State → Outcome → State → Prop} (hy : plainName y.cls = true) (hav : (lg_sl av).length ≤ n)
    (body : ∀ (p : Program) (e : Env) (s : State) (m : MethodId) (below : List Frame) (meth : Method) (c : Code) (A : Nat → Prop) (ls : Array Slot), EN p m meth c y cc n ret s av D ct A W0 ls → W p l e rm s m av.toArray below meth c s.heap [] 0 0 (MQ below (Qc A) av.toArray s rm.cells rm.slots A) (F0 m 0 ls [])) (sz : Nat) :
    Met l y (Cond.code y cc n ret :: tb) rm (PC D ct av W0 sz) (Qc (va_A W0 sz)) rm.cells rm.slots (va_A W0 sz) := by
  refine Met.ofW (cc := cc) (maxL := n) (ret := ret) hy rfl ?_
  intro p e s m args below meth c s₁ B hml hv
  obtain ⟨rfl, hsz, hP, hK, hD0⟩ := hv
  subst hsz
  have hts := atoms_spec (ws := Cond.code y cc n ret :: tb) B.pre
  rw [lg_entry_eq]
  exact body p e s m below meth c (va_A W0 s.heap.size) _ ⟨⟨⟨B.exec, B.bytes, hml, findClass_of_methodNamed B.named, fun w hw => hts w (List.mem_cons_of_mem _ hw)⟩, hK⟩, B.returns, B.notSynchronized, (name_of_methodNamed B.named B.method).1, ⟨hP, hD0.self, va_S.rf, fun q h => Or.inr h⟩, lv_entry av hav⟩
theorem CI.of {l : Launch} {y : MethodName} {cc : ByteArray} {n : Nat} {ret : Option FieldType} {rm : Room} {D : va_G} {ct : Nat → ClassId} {av : List Value} {W0 : va_W} {post : Int32 → Prop} {W1 : (Nat → Nat) → va_W} (hy : plainName y.cls = true) (hav : (lg_sl av).length ≤ n)
    (body : ∀ (p : Program) (e : Env) (s : State) (m : MethodId) (below : List Frame) (meth : Method) (c : Code) (A : Nat → Prop) (ls : Array Slot), EN p m meth c y cc n ret s av D ct A W0 ls → W p l e rm s m av.toArray below meth c s.heap [] 0 0 (MQ below (QcI D A post W1) av.toArray s rm.cells rm.slots A) (F0 m 0 ls [])) : CI l y cc n ret rm D ct av W0 post W1 := fun sz => met_of (Qc := fun A => QcI D A post W1) hy hav body sz
theorem CL.of {l : Launch} {y : MethodName} {cc : ByteArray} {n : Nat} {ret : Option FieldType} {rm : Room} {D : va_G} {ct : Nat → ClassId} {av : List Value} {W0 : va_W} {post : Int64 → Prop} {W1 : (Nat → Nat) → va_W} (hy : plainName y.cls = true) (hav : (lg_sl av).length ≤ n)
    (body : ∀ (p : Program) (e : Env) (s : State) (m : MethodId) (below : List Frame) (meth : Method) (c : Code) (A : Nat → Prop) (ls : Array Slot), EN p m meth c y cc n ret s av D ct A W0 ls → W p l e rm s m av.toArray below meth c s.heap [] 0 0 (MQ below (QcL D A post W1) av.toArray s rm.cells rm.slots A) (F0 m 0 ls [])) : CL l y cc n ret rm D ct av W0 post W1 := fun sz => met_of (Qc := fun A => QcL D A post W1) hy hav body sz
theorem CV.of {l : Launch} {y : MethodName} {cc : ByteArray} {n : Nat} {ret : Option FieldType} {rm : Room} {D : va_G} {ct : Nat → ClassId} {av : List Value} {W0 : va_W} {post : Prop} {W1 : (Nat → Nat) → va_W} (hy : plainName y.cls = true) (hav : (lg_sl av).length ≤ n)
    (body : ∀ (p : Program) (e : Env) (s : State) (m : MethodId) (below : List Frame) (meth : Method) (c : Code) (A : Nat → Prop) (ls : Array Slot), EN p m meth c y cc n ret s av D ct A W0 ls → W p l e rm s m av.toArray below meth c s.heap [] 0 0 (MQ below (QcV D A post W1) av.toArray s rm.cells rm.slots A) (F0 m 0 ls [])) : CV l y cc n ret rm D ct av W0 post W1 := fun sz => met_of (Qc := fun A => QcV D A post W1) hy hav body sz
section KW
variable {p : Program} {l : Launch} {e : Env} {R : Room} {s : State} {m : MethodId} {args : Array Value} {below : List Frame} {meth : Method} {c : Code} {H : Heap} {locs : List Loc} {cells slots : Nat} {Q : State → Prop} {cc : ByteArray} {nL pc : Nat} {own : String} {D : va_G} {ct : Nat → ClassId} {A : Nat → Prop} {H0 : Heap} {ws : va_W} {ls : Array Slot} {rest : List Value}
/-! returns -/
theorem r_i {post : Int32 → Prop} {W1 : (Nat → Nat) → va_W} {v : Int32} {mc ms : Nat} (X : CX p m c cc nL s args own D ct) (hr : meth.sig.returnType = some .int) (hlk : meth.locks = false) (hw : WD D A s.heap H locs ws) (is : List Nat) (u : Nat → Nat) (hn : va_nd is = true) (hs : is.map (fun i => ws[i]?) = (W1 u).map some) (hp : post v) (hc : cells ≤ mc) (hsl : slots ≤ ms) (hdg : decode cc pc = .ok (.ireturn, 1)) :
    W p l e R s m args below meth c H locs cells slots (MQ below (QcI D A post W1) args s mc ms A) (F0 m pc ls [.int v]) := by
  have hw1 := hw.sub is hn hs
  refine W.widen hc hsl ?_
  exact W.iret X.1.1 X.1.2.1 hr (fun t ht hW => ⟨⟨v, u, rfl, hp, by rw [ht]; exact hw1.1, hw1.2.1⟩, hw1.2.2.1.F ht⟩) hw1.2.2.1.2.2 hdg hlk
theorem r_z {post : Int32 → Prop} {W1 : (Nat → Nat) → va_W} {v : Int32} {mc ms : Nat} (X : CX p m c cc nL s args own D ct) (hr : meth.sig.returnType = some .boolean) (hlk : meth.locks = false) (hw : WD D A s.heap H locs ws) (is : List Nat) (u : Nat → Nat) (hn : va_nd is = true) (hs : is.map (fun i => ws[i]?) = (W1 u).map some) (hp : post v) (hc : cells ≤ mc) (hsl : slots ≤ ms) (hv : v = 0 ∨ v = 1) (hdg : decode cc pc = .ok (.ireturn, 1)) :
    W p l e R s m args below meth c H locs cells slots (MQ below (QcI D A post W1) args s mc ms A) (F0 m pc ls [.int v]) := by
  have hw1 := hw.sub is hn hs
  refine W.widen hc hsl ?_
  exact W.zret X.1.1 X.1.2.1 hr (by rcases hv with rfl | rfl <;> decide) (fun t ht hW => ⟨⟨v, u, rfl, hp, by rw [ht]; exact hw1.1, hw1.2.1⟩, hw1.2.2.1.F ht⟩) hw1.2.2.1.2.2 hdg hlk
theorem r_l {post : Int64 → Prop} {W1 : (Nat → Nat) → va_W} {v : Int64} {mc ms : Nat} (X : CX p m c cc nL s args own D ct) (hr : meth.sig.returnType = some .long) (hlk : meth.locks = false) (hw : WD D A s.heap H locs ws) (is : List Nat) (u : Nat → Nat) (hn : va_nd is = true) (hs : is.map (fun i => ws[i]?) = (W1 u).map some) (hp : post v) (hc : cells ≤ mc) (hsl : slots ≤ ms) (hdg : decode cc pc = .ok (.lreturn, 1)) :
    W p l e R s m args below meth c H locs cells slots (MQ below (QcL D A post W1) args s mc ms A) (F0 m pc ls [.long v]) := by
  have hw1 := hw.sub is hn hs
  refine W.widen hc hsl ?_
  exact W.lret X.1.1 X.1.2.1 hr (fun t ht hW => ⟨⟨v, u, rfl, hp, by rw [ht]; exact hw1.1, hw1.2.1⟩, hw1.2.2.1.F ht⟩) hw1.2.2.1.2.2 hdg hlk
theorem r_v {post : Prop} {W1 : (Nat → Nat) → va_W} {mc ms : Nat} (X : CX p m c cc nL s args own D ct) (hr : meth.sig.returnType = none) (hlk : meth.locks = false) (hw : WD D A s.heap H locs ws) (is : List Nat) (u : Nat → Nat) (hn : va_nd is = true) (hs : is.map (fun i => ws[i]?) = (W1 u).map some) (hp : post) (hc : cells ≤ mc) (hsl : slots ≤ ms) (hdg : decode cc pc = .ok (.return_, 1)) :
    W p l e R s m args below meth c H locs cells slots (MQ below (QcV D A post W1) args s mc ms A) (F0 m pc ls []) := by
  have hw1 := hw.sub is hn hs
  refine W.widen hc hsl ?_
  exact W.vret X.1.1 X.1.2.1 hr (fun t ht hW => ⟨⟨u, rfl, hp, by rw [ht]; exact hw1.1, hw1.2.1⟩, hw1.2.2.1.F ht⟩) hw1.2.2.1.2.2 hdg hlk
/-! arrays -/
theorem k_iald {a : Nat} (X : CX p m c cc nL s args own D ct) (hw : WD D A H0 H locs ws) (q0 : Nat) {n : Nat} {f : Nat → Int32} (ha : ws[q0]? = some (a, .inl (ct 0, n, .inl f))) {i v : Int32} (hin : vp_in i n) (hv : f i.toNatClampNeg = v) (hdg : decode cc pc = .ok (.iaload, 1))
    (kk : W p l e R s m args below meth c H locs cells slots Q (F0 m (pc + 1) ls (.int v :: rest))) : W p l e R s m args below meth c H locs cells slots Q (F0 m pc ls (.int i :: .ref a :: rest)) := by
  subst hv; exact va_iald X.1.1 X.1.2.1 X.2.1 hw.1 q0 0 ha rfl hin hdg kk
theorem k_bald {a : Nat} (X : CX p m c cc nL s args own D ct) (hw : WD D A H0 H locs ws) (q0 : Nat) {n : Nat} {f : Nat → Int32} (ha : ws[q0]? = some (a, .inl (ct 1, n, .inl f))) {i v : Int32} (hin : vp_in i n) (hv : f i.toNatClampNeg = v) (hdg : decode cc pc = .ok (.baload, 1))
    (kk : W p l e R s m args below meth c H locs cells slots Q (F0 m (pc + 1) ls (.int v :: rest))) : W p l e R s m args below meth c H locs cells slots Q (F0 m pc ls (.int i :: .ref a :: rest)) := by
  subst hv; exact va_bald X.1.1 X.1.2.1 X.2.1 hw.1 q0 1 ha rfl hin hdg kk
theorem k_zald {a : Nat} (X : CX p m c cc nL s args own D ct) (hw : WD D A H0 H locs ws) (q0 : Nat) {n : Nat} {f : Nat → Int32} (ha : ws[q0]? = some (a, .inl (ct 3, n, .inl f))) {i v : Int32} (hin : vp_in i n) (hv : f i.toNatClampNeg = v) (hdg : decode cc pc = .ok (.baload, 1))
    (kk : W p l e R s m args below meth c H locs cells slots Q (F0 m (pc + 1) ls (.int v :: rest))) : W p l e R s m args below meth c H locs cells slots Q (F0 m pc ls (.int i :: .ref a :: rest)) := by
  subst hv; exact va_zald X.1.1 X.1.2.1 X.2.1 hw.1 q0 3 ha rfl hin hdg kk
theorem k_aldq {a : Nat} (X : CX p m c cc nL s args own D ct) (hw : WD D A H0 H locs ws) (q0 t0 : Nat) {C : String} {cA : ClassId} {n : Nat} {f : Nat → Option Nat} (ha : ws[q0]? = some (a, .inl (cA, n, .inr (.inr (.inr (.inr f)))))) (ht : (tyL ct)[t0]? = some (cA, .object C)) {i : Int32} {v : Value} (hin : vp_in i n) (hv : va_rf (f i.toNatClampNeg) = v) (hdg : decode cc pc = .ok (.aaload, 1))
    (kk : W p l e R s m args below meth c H locs cells slots Q (F0 m (pc + 1) ls (v :: rest))) : W p l e R s m args below meth c H locs cells slots Q (F0 m pc ls (.int i :: .ref a :: rest)) := by
  subst hv; exact va_aldq X.1.1 X.1.2.1 X.2.1 hw.1 q0 t0 ha ht hin hdg kk
theorem k_alen {a : Nat} (X : CX p m c cc nL s args own D ct) (hw : WD D A H0 H locs ws) (q0 t0 : Nat) {cA : ClassId} {x : vp_A} (ha : ws[q0]? = some (a, .inl (cA, x))) {ty : FieldType} (ht : (tyL ct)[t0]? = some (cA, ty)) {v : Int32} (hv : Int32.ofNat x.1 = v) (hdg : decode cc pc = .ok (.arraylength, 1))
    (kk : W p l e R s m args below meth c H locs cells slots Q (F0 m (pc + 1) ls (.int v :: rest))) : W p l e R s m args below meth c H locs cells slots Q (F0 m pc ls (.ref a :: rest)) :=
  va_alen X.1.1 X.1.2.1 X.2.1 hw.1 q0 t0 ha ht hv hdg kk
theorem k_iast {a : Nat} (X : CX p m c cc nL s args own D ct) (hw : WD D A H0 H locs ws) (q0 : Nat) {n : Nat} {f : Nat → Int32} (ha : ws[q0]? = some (a, .inl (ct 0, n, .inl f))) {i x : Int32} (hin : vp_in i n) (hdg : decode cc pc = .ok (.iastore, 1)) (w1 : va_W) (h1 : ws.set q0 (a, .inl (ct 0, n, .inl (upd f i.toNatClampNeg x))) = w1)
    (kk : ∀ (H1 : Heap) (locs1 : List Loc), WD D A H0 H1 locs1 w1 → W p l e R s m args below meth c H1 locs1 cells slots Q (F0 m (pc + 1) ls rest)) : W p l e R s m args below meth c H locs cells slots Q (F0 m pc ls (.int x :: .int i :: .ref a :: rest)) := by
  subst h1; exact va_iast X.1.1 X.1.2.1 X.2.1 hw.1 hw.2.1 hw.2.2.1 q0 0 ha rfl hin hdg (fun H1 l1 a b d => kk H1 l1 ⟨a, b, d, hw.2.2.2⟩)
theorem k_last {a : Nat} (X : CX p m c cc nL s args own D ct) (hw : WD D A H0 H locs ws) (q0 : Nat) {n : Nat} {f : Nat → Int64} (ha : ws[q0]? = some (a, .inl (ct 2, n, .inr (.inl f)))) {i : Int32} {x : Int64} (hin : vp_in i n) (hdg : decode cc pc = .ok (.lastore, 1)) (w1 : va_W) (h1 : ws.set q0 (a, .inl (ct 2, n, .inr (.inl (vp_updL f i.toNatClampNeg x)))) = w1)
    (kk : ∀ (H1 : Heap) (locs1 : List Loc), WD D A H0 H1 locs1 w1 → W p l e R s m args below meth c H1 locs1 cells slots Q (F0 m (pc + 1) ls rest)) : W p l e R s m args below meth c H locs cells slots Q (F0 m pc ls (.long x :: .int i :: .ref a :: rest)) := by
  subst h1; exact va_last X.1.1 X.1.2.1 X.2.1 hw.1 hw.2.1 hw.2.2.1 q0 2 ha rfl hin hdg (fun H1 l1 a b d => kk H1 l1 ⟨a, b, d, hw.2.2.2⟩)
theorem k_bast {a : Nat} (X : CX p m c cc nL s args own D ct) (hw : WD D A H0 H locs ws) (q0 : Nat) {n : Nat} {f : Nat → Int32} (ha : ws[q0]? = some (a, .inl (ct 1, n, .inl f))) {i x : Int32} (hin : vp_in i n) (hdg : decode cc pc = .ok (.bastore, 1)) (w1 : va_W) (h1 : ws.set q0 (a, .inl (ct 1, n, .inl (upd f i.toNatClampNeg (vp_nar .byte x)))) = w1)
    (kk : ∀ (H1 : Heap) (locs1 : List Loc), WD D A H0 H1 locs1 w1 → W p l e R s m args below meth c H1 locs1 cells slots Q (F0 m (pc + 1) ls rest)) : W p l e R s m args below meth c H locs cells slots Q (F0 m pc ls (.int x :: .int i :: .ref a :: rest)) := by
  subst h1; exact va_bast X.1.1 X.1.2.1 X.2.1 hw.1 hw.2.1 hw.2.2.1 q0 1 ha rfl hin hdg (fun H1 l1 a b d => kk H1 l1 ⟨a, b, d, hw.2.2.2⟩)
theorem k_zast {a : Nat} (X : CX p m c cc nL s args own D ct) (hw : WD D A H0 H locs ws) (q0 : Nat) {n : Nat} {f : Nat → Int32} (ha : ws[q0]? = some (a, .inl (ct 3, n, .inl f))) {i x : Int32} (hin : vp_in i n) (hdg : decode cc pc = .ok (.bastore, 1)) (w1 : va_W) (h1 : ws.set q0 (a, .inl (ct 3, n, .inl (upd f i.toNatClampNeg (vp_nar .boolean x)))) = w1)
    (kk : ∀ (H1 : Heap) (locs1 : List Loc), WD D A H0 H1 locs1 w1 → W p l e R s m args below meth c H1 locs1 cells slots Q (F0 m (pc + 1) ls rest)) : W p l e R s m args below meth c H locs cells slots Q (F0 m pc ls (.int x :: .int i :: .ref a :: rest)) := by
  subst h1; exact va_zast X.1.1 X.1.2.1 X.2.1 hw.1 hw.2.1 hw.2.2.1 q0 3 ha rfl hin hdg (fun H1 l1 a b d => kk H1 l1 ⟨a, b, d, hw.2.2.2⟩)
theorem k_astq {a : Nat} (X : CX p m c cc nL s args own D ct) (hw : WD D A H0 H locs ws) (q0 t0 qk ci : Nat) {cA : ClassId} {r : vw_C} {n v : Nat} {vs : List Value} {f : Nat → Option Nat} (ha : ws[q0]? = some (a, .inl (cA, n, .inr (.inr (.inr (.inr f)))))) (ht : (tyL ct)[t0]? = some (cA, .object r.1)) (hv : ws[qk]? = some (v, .inr (ci, vs))) (hc : vwCl[ci]? = some r) {i : Int32} (hin : vp_in i n) (hdg : decode cc pc = .ok (.aastore, 1)) (w1 : va_W) (h1 : ws.set q0 (a, .inl (cA, n, .inr (.inr (.inr (.inr (va_up f i.toNatClampNeg (some v))))))) = w1)
    (kk : ∀ (H1 : Heap) (locs1 : List Loc), WD D A H0 H1 locs1 w1 → W p l e R s m args below meth c H1 locs1 cells slots Q (F0 m (pc + 1) ls rest)) : W p l e R s m args below meth c H locs cells slots Q (F0 m pc ls (.ref v :: .int i :: .ref a :: rest)) := by
  subst h1; exact va_astq X.1.1 X.1.2.1 X.2.1 hw.1 hw.2.1 hw.2.2.1 q0 t0 qk ci ha ht hv hc hin hdg (fun H1 l1 a b d => kk H1 l1 ⟨a, b, d, hw.2.2.2⟩)
theorem k_RA {cA cB : ClassId} {ty : FieldType} (h1 : va_RA s cA ty) (h2 : va_RA s cB ty) : cA = cB := by
  cases ty with
  | object C =>
    obtain ⟨_, _, _, _, _, e1⟩ := h1
    obtain ⟨_, _, _, _, _, e2⟩ := h2
    exact Option.some.inj (e1.symm.trans e2)
  | _ => exact Option.some.inj (Eq.trans (Eq.symm h1) h2)
theorem k_newa (X : CX p m c cc nL s args own D ct) (hw : WD D A H0 H locs ws) {atype : ArrayType} {ty : FieldType} (t0 : Nat) {cT : ClassId} (ht0 : (tyL ct)[t0]? = some (cT, ty)) (hty : newarray.typeOf atype = ty) (harr : Cond.arrayClass ty ∈ tb)
    {n : Int32} {N' : Nat} {a0 : vp_A} (ha : ∀ cA : ClassId, vp_cell cA a0 = arrV cA N' (fun _ => defaultValue ty)) (hn : ¬ n < 0) (hN : n.toNatClampNeg = N') (hbytes : N' * componentBytes ty ≤ 536870912) (hcells : cells + 1 ≤ R.cells) (hslots : slots + N' ≤ R.slots) (hdg : decode cc pc = .ok (.newarray atype, 2))
    (kk : ∀ (q : Nat) (H1 : Heap), WD D A H0 H1 locs (ws ++ [(q, .inl (cT, a0))]) → W p l e R s m args below meth c H1 locs (cells + 1) (slots + N') Q (F0 m (pc + 2) ls (.ref q :: rest))) : W p l e R s m args below meth c H locs cells slots Q (F0 m pc ls (.int n :: rest)) := by
  refine va_newa X.1.1 X.1.2.1 (by rw [hty]; exact X.1.2.2.2.2 _ harr) hty X.2.1 hw.1 hw.2.1 hw.2.2.1 hw.2.2.2 ha hn hN hbytes hcells hslots hdg (fun q cA H1 hK hP hD hS => ?_)
  have e : cA = cT := k_RA (hK.2 7 (cA, ty) rfl).2 (X.2.1.2 t0 _ ht0).2
  subst e
  exact kk q H1 ⟨hP, hD, hS, hw.2.2.2⟩
theorem k_newq (X : CX p m c cc nL s args own D ct) (hw : WD D A H0 H locs ws) {C : String} {index : Nat} (t0 : Nat) {cT : ClassId} (ht0 : (tyL ct)[t0]? = some (cT, .object C)) (hcl : Cond.classLink own index C ∈ tb) (hov : va_AO C s)
    {n : Int32} {N' : Nat} (hn : ¬ n < 0) (hN : n.toNatClampNeg = N') (hbytes : N' * 4 ≤ 536870912) (hcells : cells + 1 ≤ R.cells) (hslots : slots + N' ≤ R.slots) (hdg : decode cc pc = .ok (.anewarray index, 3))
    (kk : ∀ (q : Nat) (H1 : Heap), WD D A H0 H1 locs (ws ++ [(q, .inl (cT, N', .inr (.inr (.inr (.inr (fun _ => none))))))]) → W p l e R s m args below meth c H1 locs (cells + 1) (slots + N') Q (F0 m (pc + 3) ls (.ref q :: rest))) : W p l e R s m args below meth c H locs cells slots Q (F0 m pc ls (.int n :: rest)) := by
  refine va_newq X.1.1 X.1.2.1 X.1.2.2.2.1 (X.1.2.2.2.2 _ hcl) hov X.2.1 hw.1 hw.2.1 hw.2.2.1 hw.2.2.2 hn hN hbytes hcells hslots hdg (fun q cA H1 hK hP hD hS => ?_)
  have e : cA = cT := k_RA (hK.2 7 (cA, .object C) rfl).2 (X.2.1.2 t0 _ ht0).2
  subst e
  exact kk q H1 ⟨hP, hD, hS, hw.2.2.2⟩
theorem k_new (X : CX p m c cc nL s args own D ct) (hw : WD D A H0 H locs ws) {C : String} {T : u_T} {N ci index : Nat} (hin : ∀ w ∈ u_ws C T N, w ∈ tb) (ty : Nat → FieldType) (hty : ∀ k, k < N → parseFieldDescriptor (T k).2.2.1 = some (ty k)) (hcl : Cond.classLink own index C ∈ tb) (hinst : Cond.instantiable C N ∈ tb) (hini : Cond.initialized C ∈ tb) (hc : vwCl[ci]? = some (C, T, N)) {fs : List Value} (hfs : ∀ j, j < N → defaultValue (ty j) = vp_V fs j) (hcells : cells + 1 ≤ R.cells) (hslots : slots + N ≤ R.slots) (hdg : decode cc pc = .ok (.new index, 3))
    (kk : ∀ (q : Nat) (H1 : Heap), WD D A H0 H1 locs (ws ++ [(q, .inr (ci, fs))]) → W p l e R s m args below meth c H1 locs (cells + 1) (slots + N) Q (F0 m (pc + 3) ls (.ref q :: rest))) : W p l e R s m args below meth c H locs cells slots Q (F0 m pc ls rest) :=
  va_new X.1.1 X.1.2.1 X.1.2.2.2.2 hin ty hty X.1.2.2.2.1 (X.1.2.2.2.2 _ hcl) (X.1.2.2.2.2 _ hinst) (X.1.2.2.2.2 _ hini) X.2.1 hw.1 hw.2.1 hw.2.2.1 hw.2.2.2 hc hfs hcells hslots hdg (fun q H1 hP hD hS => kk q H1 ⟨hP, hD, hS, hw.2.2.2⟩)
theorem k_objInit {a ix : Nat} (X : CX p m c cc nL s args own D ct) (hls : ls.size = nL) (h1 : Cond.methodLink own ix objectInit ∈ tb) (h2 : Cond.instanceMethod objectInit ∈ tb) (h3 : Cond.code objectInit ⟨#[0xb1]⟩ 1 none ∈ tb) (hf : 1 ≤ R.frames) (hl : (rest.map fun v => v.category).sum + 12 ≤ R.locals) (hdg : decode cc pc = .ok (.invokespecial ix, 3))
    (kk : W p l e R s m args below meth c H locs cells slots Q (F0 m (pc + 3) ls rest)) : W p l e R s m args below meth c H locs cells slots Q (F0 m pc ls (.ref a :: rest)) :=
  W.objInit X.1.1 X.1.2.1 X.1.2.2.2.1 (X.1.2.2.2.2 _ h1) (X.1.2.2.2.2 _ h2) (X.1.2.2.2.2 _ h3) rfl (by rw [X.1.2.2.1]; exact hls) rfl hdg hf (by show 2 * 0 + _ + 12 ≤ _; omega) kk
theorem k_get {a ci k N : Nat} {C ref : String} {T : u_T} {index : Nat} (X : CX p m c cc nL s args own D ct) (hin : ∀ w ∈ u_ws C T N, w ∈ tb) (hlk : Cond.fieldLink own index ref (T k).2.1 (T k).2.2.1 ∈ tb) (hsame : (T k).1 = ref) (hk : k < N) (hc : vwCl[ci]? = some (C, T, N)) (hw : WD D A H0 H locs ws) (q0 : Nat) {fs : List Value} {v : Value} (he : ws[q0]? = some (a, .inr (ci, fs))) (hv : fs[k]? = some v) (hdg : decode cc pc = .ok (.getfield index, 3))
    (kk : W p l e R s m args below meth c H locs cells slots Q (F0 m (pc + 3) ls (v :: rest))) : W p l e R s m args below meth c H locs cells slots Q (F0 m pc ls (.ref a :: rest)) :=
  va_get X.1.1 X.1.2.1 X.1.2.2.2.2 hin X.1.2.2.2.1 X.2.1 hw.1 q0 he hc k hk (X.1.2.2.2.2 _ hlk) (fun _ h9 => by rw [← hsame]; exact h9) hv hdg kk
theorem k_put {a ci k N : Nat} {C ref : String} {T : u_T} {index : Nat} {ty0 : Nat → FieldType} {ty : FieldType} (X : CX p m c cc nL s args own D ct) (hin : ∀ w ∈ u_ws C T N, w ∈ tb) (hty : ∀ k, k < N → parseFieldDescriptor (T k).2.2.1 = some (ty0 k)) (hnm : ∀ a, a < N → ∀ b, b < N → a ≠ b → (T a).2.1 ≠ (T b).2.1) (hlk : Cond.fieldLink own index ref (T k).2.1 (T k).2.2.1 ∈ tb) (hsame : (T k).1 = ref) (hk : k < N) (hc : vwCl[ci]? = some (C, T, N)) (hfin : (T k).2.2.2 = false) (hd : parseFieldDescriptor (T k).2.2.1 = some ty) (hw : WD D A H0 H locs ws) (q0 : Nat) {fs : List Value} {v : Value} (he : ws[q0]? = some (a, .inr (ci, fs))) (hn : narrow ty v = v) (hfit : fits ty v = true) (hl : k < fs.length) (hdg : decode cc pc = .ok (.putfield index, 3)) (w1 : va_W) (h1 : ws.set q0 (a, .inr (ci, fs.set k v)) = w1)
    (kk : ∀ (H1 : Heap) (locs1 : List Loc), WD D A H0 H1 locs1 w1 → W p l e R s m args below meth c H1 locs1 cells slots Q (F0 m (pc + 3) ls rest)) : W p l e R s m args below meth c H locs cells slots Q (F0 m pc ls (v :: .ref a :: rest)) := by
  subst h1
  exact va_put X.1.1 X.1.2.1 X.1.2.2.2.2 hin ty0 hty hnm X.1.2.2.2.1 X.2.1 hw.1 hw.2.1 hw.2.2.1 q0 he hc k hk (X.1.2.2.2.2 _ hlk) (fun _ h9 => by rw [← hsame]; exact h9) hfin hd hn hfit hl hdg (fun H1 l1 a b d => kk H1 l1 ⟨a, b, d, hw.2.2.2⟩)
theorem k_putF {a ci k N : Nat} {C ref : String} {T : u_T} {index : Nat} {ty0 : Nat → FieldType} {ty : FieldType} (X : CX p m c cc nL s args own D ct) (hin : ∀ w ∈ u_ws C T N, w ∈ tb) (hty : ∀ k, k < N → parseFieldDescriptor (T k).2.2.1 = some (ty0 k)) (hnm : ∀ a, a < N → ∀ b, b < N → a ≠ b → (T a).2.1 ≠ (T b).2.1) (hlk : Cond.fieldLink own index ref (T k).2.1 (T k).2.2.1 ∈ tb) (hsame : (T k).1 = ref) (hk : k < N) (hc : vwCl[ci]? = some (C, T, N)) (hfin : (T k).2.2.2 = true) (hdecl : (T k).1 = own) (hd : parseFieldDescriptor (T k).2.2.1 = some ty) (hnam : meth.name = "<init>") (hw : WD D A H0 H locs ws) (q0 : Nat) {fs : List Value} {v : Value} (he : ws[q0]? = some (a, .inr (ci, fs))) (hn : narrow ty v = v) (hfit : fits ty v = true) (hl : k < fs.length) (hdg : decode cc pc = .ok (.putfield index, 3)) (w1 : va_W) (h1 : ws.set q0 (a, .inr (ci, fs.set k v)) = w1)
    (kk : ∀ (H1 : Heap) (locs1 : List Loc), WD D A H0 H1 locs1 w1 → W p l e R s m args below meth c H1 locs1 cells slots Q (F0 m (pc + 3) ls rest)) : W p l e R s m args below meth c H locs cells slots Q (F0 m pc ls (v :: .ref a :: rest)) := by
  subst h1
  exact va_putF X.1.1 X.1.2.1 X.1.2.2.2.2 hin ty0 hty hnm X.1.2.2.2.1 X.2.1 hw.1 hw.2.1 hw.2.2.1 q0 he hc k hk (X.1.2.2.2.2 _ hlk) (fun _ h9 => by rw [← hsame]; exact h9) hfin hnam hdecl hd hn hfit hl hdg (fun H1 l1 a b d => kk H1 l1 ⟨a, b, d, hw.2.2.2⟩)
theorem k_copyi {a a0 ix : Nat} (X : CX p m c cc nL s args own D ct) (hls : ls.size = nL) (h1 : Cond.methodLink own ix arraycopyName ∈ tb) (h2 : Cond.native arraycopyName ∈ tb) (h3 : Cond.static arraycopyName ∈ tb) (h4 : Cond.initialized "java/lang/System" ∈ tb) (hw : WD D A H0 H locs ws) (q0 q1 : Nat) {n0 n1 : Nat} {f g : Nat → Int32} (ha0 : ws[q0]? = some (a0, .inl (ct 0, n0, .inl f))) (ha1 : ws[q1]? = some (a, .inl (ct 0, n1, .inl g)))
    {sp dp n : Int32} (g1 : ¬ sp < 0) (g2 : ¬ dp < 0) (g3 : ¬ n < 0) (g4 : sp.toNatClampNeg + n.toNatClampNeg ≤ n0) (g5 : dp.toNatClampNeg + n.toNatClampNeg ≤ n1) (hf : 1 ≤ R.frames) (hl : (rest.map fun v => v.category).sum + (nativeFrameWords "java/lang/System" "arraycopy" 5 + 11) ≤ R.locals) (hdg : decode cc pc = .ok (.invokestatic ix, 3)) (w1 : va_W) (hw1 : ws.set q1 (a, .inl (ct 0, n1, .inl (va_cpy f g sp.toNatClampNeg dp.toNatClampNeg n.toNatClampNeg))) = w1)
    (kk : ∀ (H1 : Heap) (locs1 : List Loc), WD D A H0 H1 locs1 w1 → W p l e R s m args below meth c H1 locs1 cells slots Q (F0 m (pc + 3) ls rest)) : W p l e R s m args below meth c H locs cells slots Q (F0 m pc ls (.int n :: .int dp :: .ref a :: .int sp :: .ref a0 :: rest)) := by
  subst hw1
  exact va_copyi X.1.1 X.1.2.1 (by rw [X.1.2.2.1, hls]) X.1.2.2.2.1 (X.1.2.2.2.2 _ h1) (X.1.2.2.2.2 _ h2) (X.1.2.2.2.2 _ h3) (X.1.2.2.2.2 _ h4) X.2.1 hw.1 hw.2.1 hw.2.2.1 q0 q1 0 0 ha0 ha1 rfl rfl rfl g1 g2 g3 g4 g5 (fun _ _ => rfl) hf hl hdg (fun H1 l1 a b d => kk H1 l1 ⟨a, b, d, hw.2.2.2⟩)
theorem k_min {x y v : Int32} {ix : Nat} (X : CX p m c cc nL s args own D ct) (hls : ls.size = nL) (h1 : Cond.methodLink own ix Lib.Math.min.name ∈ tb) (h2 : Cond.static Lib.Math.min.name ∈ tb) (h3 : Cond.initialized "java/lang/Math" ∈ tb) (h4 : Cond.code Lib.Math.min.name Lib.Math.min.code 2 (some .int) ∈ tb) (hf : 1 ≤ R.frames) (hl : (rest.map fun v => v.category).sum + 13 ≤ R.locals) (hc : cells ≤ R.cells) (hs : slots ≤ R.slots) (hv : (if y < x then y else x) = v) (hdg : decode cc pc = .ok (.invokestatic ix, 3))
    (kk : W p l e R s m args below meth c H locs cells slots Q (F0 m (pc + 3) ls (.int v :: rest))) : W p l e R s m args below meth c H locs cells slots Q (F0 m pc ls (.int y :: .int x :: rest)) := by
  subst hv; exact va_mmin X.1.1 X.1.2.1 (by rw [X.1.2.2.1, hls]) X.1.2.2.2.1 (X.1.2.2.2.2 _ h1) (X.1.2.2.2.2 _ h2) (X.1.2.2.2.2 _ h3) (X.1.2.2.2.2 _ h4) hf hl hc hs hdg kk
theorem k_max {x y v : Int32} {ix : Nat} (X : CX p m c cc nL s args own D ct) (hls : ls.size = nL) (h1 : Cond.methodLink own ix Lib.Math.max.name ∈ tb) (h2 : Cond.static Lib.Math.max.name ∈ tb) (h3 : Cond.initialized "java/lang/Math" ∈ tb) (h4 : Cond.code Lib.Math.max.name Lib.Math.max.code 2 (some .int) ∈ tb) (hf : 1 ≤ R.frames) (hl : (rest.map fun v => v.category).sum + 13 ≤ R.locals) (hc : cells ≤ R.cells) (hs : slots ≤ R.slots) (hv : (if x < y then y else x) = v) (hdg : decode cc pc = .ok (.invokestatic ix, 3))
    (kk : W p l e R s m args below meth c H locs cells slots Q (F0 m (pc + 3) ls (.int v :: rest))) : W p l e R s m args below meth c H locs cells slots Q (F0 m pc ls (.int y :: .int x :: rest)) := by
  subst hv; exact va_mmax X.1.1 X.1.2.1 (by rw [X.1.2.2.1, hls]) X.1.2.2.2.1 (X.1.2.2.2.2 _ h1) (X.1.2.2.2.2 _ h2) (X.1.2.2.2.2 _ h3) (X.1.2.2.2.2 _ h4) hf hl hc hs hdg kk
/-! calls -/
theorem pc_blind {av : List Value} {W0 : va_W} {sz : Nat} : FrameBlind (PC D ct av W0 sz) := by
  intro a U g mk q
  obtain ⟨q0, q1, qP, qK, qD⟩ := q
  exact ⟨q0, q1, qP, KK.same (s := U) (U := U.calling g mk a) rfl qK, qD⟩
theorem pc_pre {av : List Value} {W0 : va_W} (X : CX p m c cc nL s args own D ct) (hw : WD D A H0 H locs W0) : ∀ U : State, U.heap = H → s.WarmedH U.vm → PC D ct av W0 H.size av.toArray U :=
  fun U hU hW => ⟨rfl, by rw [hU], by rw [hU]; exact hw.1, KK.moved hW X.2, hw.2.1.weaken (fun _ _ _ _ => trivial)⟩
theorem wd_free {W0 : va_W} (hw : WD D A H0 H locs ws) (isC : List Nat) (hC : isC.map (fun i => ws[i]?) = W0.map some) : ∀ q, va_A W0 H.size q → A q := va_free hw.2.1 hw.2.2.1 hw.2.2.2 isC hC
theorem wd_join {W0 wr w1 : va_W} {H1 : Heap} {locs1 : List Loc} (hw : WD D A H0 H locs ws) (isC isR : List Nat) (hC : isC.map (fun i => ws[i]?) = W0.map some) (hR : isR.map (fun i => ws[i]?) = wr.map some) (hn : va_nd isR = true) (hdis : ∀ i ∈ isR, i ∉ isC) (hk : ∀ q : Nat, q < H.size → ¬ va_A W0 H.size q → H1[q]? = H[q]?) (hP1 : va_P D vwCl w1 H1) (hD1 : va_D (va_A W0 H.size) w1) (hS : va_S A H0 H1 locs1) : WD D A H0 H1 locs1 (wr ++ w1) := by
  obtain ⟨a, b⟩ := va_join hw.1 hw.2.1 isC isR hC hR hn hdis hk (wd_free hw isC hC) hP1 hD1
  exact ⟨a, b, hS, hw.2.2.2⟩
theorem kc_i {W0 wr : va_W} {post : Int32 → Prop} {W1 : (Nat → Nat) → va_W} {st0 : List Value} {mc ms : Nat} {av : Array Value} (hw : WD D A H0 H locs ws) (isC isR : List Nat) (hC : isC.map (fun i => ws[i]?) = W0.map some) (hR : isR.map (fun i => ws[i]?) = wr.map some) (hn : va_nd isR = true) (hdis : ∀ i ∈ isR, i ∉ isC)
    (hr : va_Run p l e R s m args below meth c H locs cells slots mc ms (F0 m pc ls st0) rest (QcI D (va_A W0 H.size) post W1 av) (va_A W0 H.size))
    (kk : ∀ (r : Int32) (u : Nat → Nat) (H1 : Heap) (locs1 : List Loc), post r → WD D A H0 H1 locs1 (wr ++ W1 u) → W p l e R s m args below meth c H1 locs1 (cells + mc) (slots + ms) Q (F0 m (pc + 3) ls (.int r :: rest))) : W p l e R s m args below meth c H locs cells slots Q (F0 m pc ls st0) :=
  va_calli hr hw.2.2.1 (fun q _ h => wd_free hw isC hC q h) (wd_free hw isC hC) (fun r u t H1 locs1 ht hvm hp hB hz hk hS => kk r u H1 locs1 hp (wd_join hw isC isR hC hR hn hdis hk (by rw [← ht]; exact hB.1) hB.2 hS))
theorem kc_l {W0 wr : va_W} {post : Int64 → Prop} {W1 : (Nat → Nat) → va_W} {st0 : List Value} {mc ms : Nat} {av : Array Value} (hw : WD D A H0 H locs ws) (isC isR : List Nat) (hC : isC.map (fun i => ws[i]?) = W0.map some) (hR : isR.map (fun i => ws[i]?) = wr.map some) (hn : va_nd isR = true) (hdis : ∀ i ∈ isR, i ∉ isC)
    (hr : va_Run p l e R s m args below meth c H locs cells slots mc ms (F0 m pc ls st0) rest (QcL D (va_A W0 H.size) post W1 av) (va_A W0 H.size))
    (kk : ∀ (r : Int64) (u : Nat → Nat) (H1 : Heap) (locs1 : List Loc), post r → WD D A H0 H1 locs1 (wr ++ W1 u) → W p l e R s m args below meth c H1 locs1 (cells + mc) (slots + ms) Q (F0 m (pc + 3) ls (.long r :: rest))) : W p l e R s m args below meth c H locs cells slots Q (F0 m pc ls st0) :=
  va_calll hr hw.2.2.1 (fun q _ h => wd_free hw isC hC q h) (wd_free hw isC hC) (fun r u t H1 locs1 ht hvm hp hB hz hk hS => kk r u H1 locs1 hp (wd_join hw isC isR hC hR hn hdis hk (by rw [← ht]; exact hB.1) hB.2 hS))
theorem kc_v {W0 wr : va_W} {post : Prop} {W1 : (Nat → Nat) → va_W} {st0 : List Value} {mc ms : Nat} {av : Array Value} (hw : WD D A H0 H locs ws) (isC isR : List Nat) (hC : isC.map (fun i => ws[i]?) = W0.map some) (hR : isR.map (fun i => ws[i]?) = wr.map some) (hn : va_nd isR = true) (hdis : ∀ i ∈ isR, i ∉ isC)
    (hr : va_Run p l e R s m args below meth c H locs cells slots mc ms (F0 m pc ls st0) rest (QcV D (va_A W0 H.size) post W1 av) (va_A W0 H.size))
    (kk : ∀ (u : Nat → Nat) (H1 : Heap) (locs1 : List Loc), post → WD D A H0 H1 locs1 (wr ++ W1 u) → W p l e R s m args below meth c H1 locs1 (cells + mc) (slots + ms) Q (F0 m (pc + 3) ls rest)) : W p l e R s m args below meth c H locs cells slots Q (F0 m pc ls st0) :=
  va_callv hr hw.2.2.1 (fun q _ h => wd_free hw isC hC q h) (wd_free hw isC hC) (fun u t H1 locs1 ht hvm hp hB hz hk hS => kk u H1 locs1 hp (wd_join hw isC isR hC hR hn hdis hk (by rw [← ht]; exact hB.1) hB.2 hS))
theorem kr_V {W0 : va_W} {C : String} {ix maxL n b : Nat} {y : MethodName} {bytes : ByteArray} {ret : Option FieldType} {rm : Room} {Qc : Array Value → State → Outcome → State → Prop} {free : Addr → Prop} {As st0 : List Value} (X : CX p m c cc nL s args own D ct) (hls : ls.size = nL) (hG : GoodIn tb (wsV own ix C y (Cond.code y bytes maxL ret :: tb)))
    (hd : y.cls = C ∧ y.cls ≠ "java/lang/invoke/MethodHandle" ∧ y.cls ≠ "java/lang/invoke/VarHandle" ∧ (parseMethodDescriptor y.desc).map (fun d => d.parameters.length) = some n)
    (hw : WD D A H0 H locs ws) (isC : List Nat) (hn : va_nd isC = true) (hC : isC.map (fun i => ws[i]?) = W0.map some) (hM : Met l y (Cond.code y bytes maxL ret :: tb) rm (PC D ct (.ref b :: As) W0 H.size) Qc rm.cells rm.slots free) {q0 ci N : Nat} {T : u_T} {fs : List Value} (hq : W0[q0]? = some (b, .inr (ci, fs))) (hci : vwCl[ci]? = some (C, T, N))
    (hR : rm.frames + 1 ≤ R.frames ∧ 8 + (maxL + 11) + rm.locals ≤ R.locals) (hl : As.length = n) (hst : st0 = As.reverse ++ .ref b :: rest) (hr8 : (rest.map fun v => v.category).sum ≤ 8) (hdg : decode cc pc = .ok (.invokevirtual ix, 3)) (hf : cells + rm.cells ≤ R.cells ∧ slots + rm.slots ≤ R.slots) :
    va_Run p l e R s m args below meth c H locs cells slots rm.cells rm.slots (F0 m pc ls st0) rest (Qc (Value.ref b :: As).toArray) free :=
  have hw0 := hw.sub isC hn hC
  va_runV X.1 hM (cwV n X.1.2.2.2.2 hG rfl rfl rfl hd hR) ⟨pc_blind, va_recv X.2.1 hw0.1 hci hq, pc_pre X hw0⟩ rfl hl hls hst (lv_room hr8) hdg hf
theorem kr_S {W0 : va_W} {ix maxL n : Nat} {y : MethodName} {bytes : ByteArray} {ret : Option FieldType} {rm : Room} {Qc : Array Value → State → Outcome → State → Prop} {free : Addr → Prop} {As st0 : List Value} (X : CX p m c cc nL s args own D ct) (hls : ls.size = nL) (hG : GoodIn tb (va_wsS own ix y (Cond.code y bytes maxL ret :: tb)))
    (hd : y.cls ≠ "java/lang/invoke/MethodHandle" ∧ y.cls ≠ "java/lang/invoke/VarHandle" ∧ (parseMethodDescriptor y.desc).map (fun d => d.parameters.length) = some n)
    (hw : WD D A H0 H locs ws) (isC : List Nat) (hn : va_nd isC = true) (hC : isC.map (fun i => ws[i]?) = W0.map some) (hM : Met l y (Cond.code y bytes maxL ret :: tb) rm (PC D ct As W0 H.size) Qc rm.cells rm.slots free)
    (hR : rm.frames + 1 ≤ R.frames ∧ 8 + (maxL + 11) + rm.locals ≤ R.locals) (hl : As.length = n) (hst : st0 = As.reverse ++ rest) (hr8 : (rest.map fun v => v.category).sum ≤ 8) (hdg : decode cc pc = .ok (.invokestatic ix, 3)) (hf : cells + rm.cells ≤ R.cells ∧ slots + rm.slots ≤ R.slots) :
    va_Run p l e R s m args below meth c H locs cells slots rm.cells rm.slots (F0 m pc ls st0) rest (Qc As.toArray) free :=
  have hw0 := hw.sub isC hn hC
  va_runS X.1 hM (va_cwS n X.1.2.2.2.2 hG rfl rfl rfl hd hR) ⟨pc_blind, pc_pre X hw0⟩ rfl hl hls hst (lv_room hr8) hdg hf
theorem kr_I {W0 : va_W} {ix maxL n b : Nat} {y : MethodName} {bytes : ByteArray} {rm : Room} {Qc : Array Value → State → Outcome → State → Prop} {free : Addr → Prop} {As st0 : List Value} (X : CX p m c cc nL s args own D ct) (hls : ls.size = nL) (hG : Cond.code y bytes maxL none ∈ tb) (g1 : Cond.initialized y.cls ∈ tb) (g2 : Cond.methodLink own ix y ∈ tb) (g3 : Cond.instanceMethod y ∈ tb) (hy : y.name = "<init>")
    (hd : y.cls ≠ "java/lang/invoke/MethodHandle" ∧ y.cls ≠ "java/lang/invoke/VarHandle" ∧ (parseMethodDescriptor y.desc).map (fun d => d.parameters.length) = some n)
    (hw : WD D A H0 H locs ws) (isC : List Nat) (hn : va_nd isC = true) (hC : isC.map (fun i => ws[i]?) = W0.map some) (hM : Met l y (Cond.code y bytes maxL none :: tb) rm (PC D ct (.ref b :: As) W0 H.size) Qc rm.cells rm.slots free)
    (hR : rm.frames + 1 ≤ R.frames ∧ 8 + (maxL + 11) + rm.locals ≤ R.locals) (hl : As.length = n) (hst : st0 = As.reverse ++ .ref b :: rest) (hr8 : (rest.map fun v => v.category).sum ≤ 8) (hdg : decode cc pc = .ok (.invokespecial ix, 3)) (hf : cells + rm.cells ≤ R.cells ∧ slots + rm.slots ≤ R.slots) :
    va_Run p l e R s m args below meth c H locs cells slots rm.cells rm.slots (F0 m pc ls st0) rest (Qc (Value.ref b :: As).toArray) free :=
  have hw0 := hw.sub isC hn hC
  va_runI X.1 hM (cwI n X.1.2.2.2.2 (gd_c hG) rfl rfl rfl (X.1.2.2.2.2 _ g1) (X.1.2.2.2.2 _ g2) (X.1.2.2.2.2 _ g3) hy hd hR) ⟨pc_blind, pc_pre X hw0⟩ rfl hl hls hst (lv_room hr8) hdg hf
theorem kr_IN {W0 : va_W} {ix maxL n b : Nat} {host : String} {y : MethodName} {bytes : ByteArray} {rm : Room} {Qc : Array Value → State → Outcome → State → Prop} {free : Addr → Prop} {As st0 : List Value} (X : CX p m c cc nL s args own D ct) (hls : ls.size = nL) (hG : Cond.code y bytes maxL none ∈ tb) (g1 : Cond.initialized y.cls ∈ tb) (g2 : va_Nw (.methodLinkNest own ix y host) s) (g3 : Cond.instanceMethod y ∈ tb) (hy : y.name = "<init>")
    (hd : y.cls ≠ "java/lang/invoke/MethodHandle" ∧ y.cls ≠ "java/lang/invoke/VarHandle" ∧ (parseMethodDescriptor y.desc).map (fun d => d.parameters.length) = some n)
    (hw : WD D A H0 H locs ws) (isC : List Nat) (hn : va_nd isC = true) (hC : isC.map (fun i => ws[i]?) = W0.map some) (hM : Met l y (Cond.code y bytes maxL none :: tb) rm (PC D ct (.ref b :: As) W0 H.size) Qc rm.cells rm.slots free)
    (hR : rm.frames + 1 ≤ R.frames ∧ 8 + (maxL + 11) + rm.locals ≤ R.locals) (hl : As.length = n) (hst : st0 = As.reverse ++ .ref b :: rest) (hr8 : (rest.map fun v => v.category).sum ≤ 8) (hdg : decode cc pc = .ok (.invokespecial ix, 3)) (hf : cells + rm.cells ≤ R.cells ∧ slots + rm.slots ≤ R.slots) :
    va_Run p l e R s m args below meth c H locs cells slots rm.cells rm.slots (F0 m pc ls st0) rest (Qc (Value.ref b :: As).toArray) free :=
  have hw0 := hw.sub isC hn hC
  va_runIN X.1 hM ⟨va_cnB n X.1.2.2.2.2 (gd_c hG) rfl rfl rfl g2 (X.1.2.2.2.2 _ g1) hd hR, hy, X.1.2.2.2.2 _ g3⟩ ⟨pc_blind, pc_pre X hw0⟩ rfl hl hls hst (lv_room hr8) hdg hf
end KW
end
section
section KR
variable {p : Program} {l : Launch} {e : Env} {R : Room} {s : State} {m : MethodId} {args : Array Value} {below : List Frame} {meth : Method} {c : Code} {H : Heap} {locs : List Loc} {cells slots : Nat} {Q : State → Prop} {cc : ByteArray} {nL pc : Nat} {own : String} {D : va_G} {ct : Nat → ClassId} {A : Nat → Prop} {H0 : Heap} {ws : va_W} {ls : Array Slot} {rest : List Value}
theorem kv_iadd {x y v : Int32} (hx : p.tables.exec = Jvm.exec) (hb : c.code = cc) (hv : x + y = v) (hdg : decode cc pc = .ok (.iadd, 1)) (kk : W p l e R s m args below meth c H locs cells slots Q (F0 m (pc + 1) ls (.int v :: rest))) : W p l e R s m args below meth c H locs cells slots Q (F0 m pc ls (.int y :: .int x :: rest)) := by
  subst hv; exact lv_iadd hx hb hdg kk
theorem kv_isub {x y v : Int32} (hx : p.tables.exec = Jvm.exec) (hb : c.code = cc) (hv : x - y = v) (hdg : decode cc pc = .ok (.isub, 1)) (kk : W p l e R s m args below meth c H locs cells slots Q (F0 m (pc + 1) ls (.int v :: rest))) : W p l e R s m args below meth c H locs cells slots Q (F0 m pc ls (.int y :: .int x :: rest)) := by
  subst hv; exact lv_isub hx hb hdg kk
theorem kv_imul {x y v : Int32} (hx : p.tables.exec = Jvm.exec) (hb : c.code = cc) (hv : x * y = v) (hdg : decode cc pc = .ok (.imul, 1)) (kk : W p l e R s m args below meth c H locs cells slots Q (F0 m (pc + 1) ls (.int v :: rest))) : W p l e R s m args below meth c H locs cells slots Q (F0 m pc ls (.int y :: .int x :: rest)) := by
  subst hv; exact lv_imul hx hb hdg kk
theorem kv_iand {x y v : Int32} (hx : p.tables.exec = Jvm.exec) (hb : c.code = cc) (hv : x &&& y = v) (hdg : decode cc pc = .ok (.iand, 1)) (kk : W p l e R s m args below meth c H locs cells slots Q (F0 m (pc + 1) ls (.int v :: rest))) : W p l e R s m args below meth c H locs cells slots Q (F0 m pc ls (.int y :: .int x :: rest)) := by
  subst hv; exact lv_iand hx hb hdg kk
theorem kv_ior {x y v : Int32} (hx : p.tables.exec = Jvm.exec) (hb : c.code = cc) (hv : x ||| y = v) (hdg : decode cc pc = .ok (.ior, 1)) (kk : W p l e R s m args below meth c H locs cells slots Q (F0 m (pc + 1) ls (.int v :: rest))) : W p l e R s m args below meth c H locs cells slots Q (F0 m pc ls (.int y :: .int x :: rest)) := by
  subst hv; exact lv_ior hx hb hdg kk
theorem kv_ixor {x y v : Int32} (hx : p.tables.exec = Jvm.exec) (hb : c.code = cc) (hv : x ^^^ y = v) (hdg : decode cc pc = .ok (.ixor, 1)) (kk : W p l e R s m args below meth c H locs cells slots Q (F0 m (pc + 1) ls (.int v :: rest))) : W p l e R s m args below meth c H locs cells slots Q (F0 m pc ls (.int y :: .int x :: rest)) := by
  subst hv; exact lv_ixor hx hb hdg kk
theorem kv_ishl {x y v : Int32} (hx : p.tables.exec = Jvm.exec) (hb : c.code = cc) (hv : x <<< (y &&& 31) = v) (hdg : decode cc pc = .ok (.ishl, 1)) (kk : W p l e R s m args below meth c H locs cells slots Q (F0 m (pc + 1) ls (.int v :: rest))) : W p l e R s m args below meth c H locs cells slots Q (F0 m pc ls (.int y :: .int x :: rest)) := by
  subst hv; exact lv_ishl hx hb hdg kk
theorem kv_ishr {x y v : Int32} (hx : p.tables.exec = Jvm.exec) (hb : c.code = cc) (hv : x >>> (y &&& 31) = v) (hdg : decode cc pc = .ok (.ishr, 1)) (kk : W p l e R s m args below meth c H locs cells slots Q (F0 m (pc + 1) ls (.int v :: rest))) : W p l e R s m args below meth c H locs cells slots Q (F0 m pc ls (.int y :: .int x :: rest)) := by
  subst hv; exact lv_ishr hx hb hdg kk
theorem kv_idiv {x y v : Int32} (hx : p.tables.exec = Jvm.exec) (hb : c.code = cc) (hv : x / y = v) (hne : ¬ y = 0) (hdg : decode cc pc = .ok (.idiv, 1)) (kk : W p l e R s m args below meth c H locs cells slots Q (F0 m (pc + 1) ls (.int v :: rest))) : W p l e R s m args below meth c H locs cells slots Q (F0 m pc ls (.int y :: .int x :: rest)) := by
  subst hv; exact lv_idiv hx hb hdg hne kk
theorem kv_irem {x y v : Int32} (hx : p.tables.exec = Jvm.exec) (hb : c.code = cc) (hv : x - x / y * y = v) (hne : ¬ y = 0) (hdg : decode cc pc = .ok (.irem, 1)) (kk : W p l e R s m args below meth c H locs cells slots Q (F0 m (pc + 1) ls (.int v :: rest))) : W p l e R s m args below meth c H locs cells slots Q (F0 m pc ls (.int y :: .int x :: rest)) := by
  subst hv; exact lv_irem hx hb hdg hne kk
theorem kv_ladd {x y v : Int64} (hx : p.tables.exec = Jvm.exec) (hb : c.code = cc) (hv : x + y = v) (hdg : decode cc pc = .ok (.ladd, 1)) (kk : W p l e R s m args below meth c H locs cells slots Q (F0 m (pc + 1) ls (.long v :: rest))) : W p l e R s m args below meth c H locs cells slots Q (F0 m pc ls (.long y :: .long x :: rest)) := by
  subst hv; exact lv_ladd hx hb hdg kk
theorem kv_lsub {x y v : Int64} (hx : p.tables.exec = Jvm.exec) (hb : c.code = cc) (hv : x - y = v) (hdg : decode cc pc = .ok (.lsub, 1)) (kk : W p l e R s m args below meth c H locs cells slots Q (F0 m (pc + 1) ls (.long v :: rest))) : W p l e R s m args below meth c H locs cells slots Q (F0 m pc ls (.long y :: .long x :: rest)) := by
  subst hv; exact lv_lsub hx hb hdg kk
theorem kv_lmul {x y v : Int64} (hx : p.tables.exec = Jvm.exec) (hb : c.code = cc) (hv : x * y = v) (hdg : decode cc pc = .ok (.lmul, 1)) (kk : W p l e R s m args below meth c H locs cells slots Q (F0 m (pc + 1) ls (.long v :: rest))) : W p l e R s m args below meth c H locs cells slots Q (F0 m pc ls (.long y :: .long x :: rest)) := by
  subst hv; exact lv_lmul hx hb hdg kk
theorem kv_land {x y v : Int64} (hx : p.tables.exec = Jvm.exec) (hb : c.code = cc) (hv : x &&& y = v) (hdg : decode cc pc = .ok (.land, 1)) (kk : W p l e R s m args below meth c H locs cells slots Q (F0 m (pc + 1) ls (.long v :: rest))) : W p l e R s m args below meth c H locs cells slots Q (F0 m pc ls (.long y :: .long x :: rest)) := by
  subst hv; exact lv_land hx hb hdg kk
theorem kv_lor {x y v : Int64} (hx : p.tables.exec = Jvm.exec) (hb : c.code = cc) (hv : x ||| y = v) (hdg : decode cc pc = .ok (.lor, 1)) (kk : W p l e R s m args below meth c H locs cells slots Q (F0 m (pc + 1) ls (.long v :: rest))) : W p l e R s m args below meth c H locs cells slots Q (F0 m pc ls (.long y :: .long x :: rest)) := by
  subst hv; exact lv_lor hx hb hdg kk
theorem kv_lrem {x y v : Int64} (hx : p.tables.exec = Jvm.exec) (hb : c.code = cc) (hv : x - x / y * y = v) (hne : ¬ y = 0) (hdg : decode cc pc = .ok (.lrem, 1)) (kk : W p l e R s m args below meth c H locs cells slots Q (F0 m (pc + 1) ls (.long v :: rest))) : W p l e R s m args below meth c H locs cells slots Q (F0 m pc ls (.long y :: .long x :: rest)) := by
  subst hv; exact lv_lrem hx hb hdg hne kk
theorem kv_ineg {x v : Int32} (hx : p.tables.exec = Jvm.exec) (hb : c.code = cc) (hv : -x = v) (hdg : decode cc pc = .ok (.ineg, 1)) (kk : W p l e R s m args below meth c H locs cells slots Q (F0 m (pc + 1) ls (.int v :: rest))) : W p l e R s m args below meth c H locs cells slots Q (F0 m pc ls (.int x :: rest)) := by
  subst hv; exact lv_ineg hx hb hdg kk
theorem kv_lcmp {x y : Int64} {v : Int32} (hx : p.tables.exec = Jvm.exec) (hb : c.code = cc) (hv : lg_cmp x y = v) (hdg : decode cc pc = .ok (.lcmp, 1)) (kk : W p l e R s m args below meth c H locs cells slots Q (F0 m (pc + 1) ls (.int v :: rest))) : W p l e R s m args below meth c H locs cells slots Q (F0 m pc ls (.long y :: .long x :: rest)) := by
  subst hv; exact W.lcmp hx hb hdg kk
theorem vp_c {i : Int32} {j n : Nat} (h0 : ¬ i < 0) (hj : i.toNatClampNeg = j) (hlt : j < n) : vp_in i n := fun h => h.elim h0 (fun h => by omega)
theorem j_iald {a j : Nat} (X : CX p m c cc nL s args own D ct) (hw : WD D A H0 H locs ws) (q0 : Nat) {n : Nat} {f : Nat → Int32} (ha : ws[q0]? = some (a, .inl (ct 0, n, .inl f))) {i v : Int32} (h0 : ¬ i < 0) (hj : i.toNatClampNeg = j) (hlt : j < n) (hv : f j = v) (hdg : decode cc pc = .ok (.iaload, 1)) (kk : W p l e R s m args below meth c H locs cells slots Q (F0 m (pc + 1) ls (.int v :: rest))) : W p l e R s m args below meth c H locs cells slots Q (F0 m pc ls (.int i :: .ref a :: rest)) :=
  k_iald X hw q0 ha (vp_c h0 hj hlt) (by rw [hj]; exact hv) hdg kk
theorem j_bald {a j : Nat} (X : CX p m c cc nL s args own D ct) (hw : WD D A H0 H locs ws) (q0 : Nat) {n : Nat} {f : Nat → Int32} (ha : ws[q0]? = some (a, .inl (ct 1, n, .inl f))) {i v : Int32} (h0 : ¬ i < 0) (hj : i.toNatClampNeg = j) (hlt : j < n) (hv : f j = v) (hdg : decode cc pc = .ok (.baload, 1)) (kk : W p l e R s m args below meth c H locs cells slots Q (F0 m (pc + 1) ls (.int v :: rest))) : W p l e R s m args below meth c H locs cells slots Q (F0 m pc ls (.int i :: .ref a :: rest)) :=
  k_bald X hw q0 ha (vp_c h0 hj hlt) (by rw [hj]; exact hv) hdg kk
theorem j_zald {a j : Nat} (X : CX p m c cc nL s args own D ct) (hw : WD D A H0 H locs ws) (q0 : Nat) {n : Nat} {f : Nat → Int32} (ha : ws[q0]? = some (a, .inl (ct 3, n, .inl f))) {i v : Int32} (h0 : ¬ i < 0) (hj : i.toNatClampNeg = j) (hlt : j < n) (hv : f j = v) (hdg : decode cc pc = .ok (.baload, 1)) (kk : W p l e R s m args below meth c H locs cells slots Q (F0 m (pc + 1) ls (.int v :: rest))) : W p l e R s m args below meth c H locs cells slots Q (F0 m pc ls (.int i :: .ref a :: rest)) :=
  k_zald X hw q0 ha (vp_c h0 hj hlt) (by rw [hj]; exact hv) hdg kk
theorem j_lald {a j : Nat} (X : CX p m c cc nL s args own D ct) (hw : WD D A H0 H locs ws) (q0 : Nat) {n : Nat} {f : Nat → Int64} (ha : ws[q0]? = some (a, .inl (ct 2, n, .inr (.inl f)))) {i : Int32} {v : Int64} (h0 : ¬ i < 0) (hj : i.toNatClampNeg = j) (hlt : j < n) (hv : f j = v) (hdg : decode cc pc = .ok (.laload, 1)) (kk : W p l e R s m args below meth c H locs cells slots Q (F0 m (pc + 1) ls (.long v :: rest))) : W p l e R s m args below meth c H locs cells slots Q (F0 m pc ls (.int i :: .ref a :: rest)) := by
  have hv2 : f i.toNatClampNeg = v := by rw [hj]; exact hv
  subst hv2; exact va_lald X.1.1 X.1.2.1 X.2.1 hw.1 q0 2 ha rfl (vp_c h0 hj hlt) hdg kk
theorem j_aldq {a j : Nat} (X : CX p m c cc nL s args own D ct) (hw : WD D A H0 H locs ws) (q0 t0 : Nat) {C : String} {cA : ClassId} {n : Nat} {f : Nat → Option Nat} (ha : ws[q0]? = some (a, .inl (cA, n, .inr (.inr (.inr (.inr f)))))) (ht : (tyL ct)[t0]? = some (cA, .object C)) {i : Int32} {v : Value} (h0 : ¬ i < 0) (hj : i.toNatClampNeg = j) (hlt : j < n) (hv : va_rf (f j) = v) (hdg : decode cc pc = .ok (.aaload, 1)) (kk : W p l e R s m args below meth c H locs cells slots Q (F0 m (pc + 1) ls (v :: rest))) : W p l e R s m args below meth c H locs cells slots Q (F0 m pc ls (.int i :: .ref a :: rest)) :=
  k_aldq X hw q0 t0 ha ht (vp_c h0 hj hlt) (by rw [hj]; exact hv) hdg kk
theorem j_iast {a j : Nat} (X : CX p m c cc nL s args own D ct) (hw : WD D A H0 H locs ws) (q0 : Nat) {n : Nat} {f : Nat → Int32} (ha : ws[q0]? = some (a, .inl (ct 0, n, .inl f))) {i x : Int32} (h0 : ¬ i < 0) (hj : i.toNatClampNeg = j) (hlt : j < n) (hdg : decode cc pc = .ok (.iastore, 1)) (w1 : va_W) (h1 : ws.set q0 (a, .inl (ct 0, n, .inl (upd f j x))) = w1) (kk : ∀ (H1 : Heap) (locs1 : List Loc), WD D A H0 H1 locs1 w1 → W p l e R s m args below meth c H1 locs1 cells slots Q (F0 m (pc + 1) ls rest)) : W p l e R s m args below meth c H locs cells slots Q (F0 m pc ls (.int x :: .int i :: .ref a :: rest)) :=
  k_iast X hw q0 ha (vp_c h0 hj hlt) hdg w1 (by rw [hj]; exact h1) kk
theorem j_iastA {a j : Nat} (X : CX p m c cc nL s args own D ct) (hw : WD D A H0 H locs ws) (q0 : Nat) {n : Nat} {f : Nat → Int32} (ha : ws[q0]? = some (a, .inl (ct 0, n, .inl f))) {i x : Int32} (h0 : ¬ i < 0) (hj : i.toNatClampNeg = j) (hlt : j < n) (hdg : decode cc pc = .ok (.iastore, 1)) (kk : ∀ (g : Nat → Int32) (H1 : Heap) (locs1 : List Loc), WD D A H0 H1 locs1 (ws.set q0 (a, .inl (ct 0, n, .inl g))) → W p l e R s m args below meth c H1 locs1 cells slots Q (F0 m (pc + 1) ls rest)) : W p l e R s m args below meth c H locs cells slots Q (F0 m pc ls (.int x :: .int i :: .ref a :: rest)) :=
  k_iast X hw q0 ha (vp_c h0 hj hlt) hdg _ rfl (fun H1 l1 h => kk _ H1 l1 h)
theorem j_bast {a j : Nat} (X : CX p m c cc nL s args own D ct) (hw : WD D A H0 H locs ws) (q0 : Nat) {n : Nat} {f : Nat → Int32} (ha : ws[q0]? = some (a, .inl (ct 1, n, .inl f))) {i x : Int32} (h0 : ¬ i < 0) (hj : i.toNatClampNeg = j) (hlt : j < n) (hdg : decode cc pc = .ok (.bastore, 1)) (w1 : va_W) (h1 : ws.set q0 (a, .inl (ct 1, n, .inl (upd f j (vp_nar .byte x)))) = w1) (kk : ∀ (H1 : Heap) (locs1 : List Loc), WD D A H0 H1 locs1 w1 → W p l e R s m args below meth c H1 locs1 cells slots Q (F0 m (pc + 1) ls rest)) : W p l e R s m args below meth c H locs cells slots Q (F0 m pc ls (.int x :: .int i :: .ref a :: rest)) :=
  k_bast X hw q0 ha (vp_c h0 hj hlt) hdg w1 (by rw [hj]; exact h1) kk
theorem j_bastA {a j : Nat} (X : CX p m c cc nL s args own D ct) (hw : WD D A H0 H locs ws) (q0 : Nat) {n : Nat} {f : Nat → Int32} (ha : ws[q0]? = some (a, .inl (ct 1, n, .inl f))) {i x : Int32} (h0 : ¬ i < 0) (hj : i.toNatClampNeg = j) (hlt : j < n) (hdg : decode cc pc = .ok (.bastore, 1)) (kk : ∀ (g : Nat → Int32) (H1 : Heap) (locs1 : List Loc), WD D A H0 H1 locs1 (ws.set q0 (a, .inl (ct 1, n, .inl g))) → W p l e R s m args below meth c H1 locs1 cells slots Q (F0 m (pc + 1) ls rest)) : W p l e R s m args below meth c H locs cells slots Q (F0 m pc ls (.int x :: .int i :: .ref a :: rest)) :=
  k_bast X hw q0 ha (vp_c h0 hj hlt) hdg _ rfl (fun H1 l1 h => kk _ H1 l1 h)
theorem j_zast {a j : Nat} (X : CX p m c cc nL s args own D ct) (hw : WD D A H0 H locs ws) (q0 : Nat) {n : Nat} {f : Nat → Int32} (ha : ws[q0]? = some (a, .inl (ct 3, n, .inl f))) {i x : Int32} (h0 : ¬ i < 0) (hj : i.toNatClampNeg = j) (hlt : j < n) (hdg : decode cc pc = .ok (.bastore, 1)) (w1 : va_W) (h1 : ws.set q0 (a, .inl (ct 3, n, .inl (upd f j (vp_nar .boolean x)))) = w1) (kk : ∀ (H1 : Heap) (locs1 : List Loc), WD D A H0 H1 locs1 w1 → W p l e R s m args below meth c H1 locs1 cells slots Q (F0 m (pc + 1) ls rest)) : W p l e R s m args below meth c H locs cells slots Q (F0 m pc ls (.int x :: .int i :: .ref a :: rest)) :=
  k_zast X hw q0 ha (vp_c h0 hj hlt) hdg w1 (by rw [hj]; exact h1) kk
theorem j_zastA {a j : Nat} (X : CX p m c cc nL s args own D ct) (hw : WD D A H0 H locs ws) (q0 : Nat) {n : Nat} {f : Nat → Int32} (ha : ws[q0]? = some (a, .inl (ct 3, n, .inl f))) {i x : Int32} (h0 : ¬ i < 0) (hj : i.toNatClampNeg = j) (hlt : j < n) (hdg : decode cc pc = .ok (.bastore, 1)) (kk : ∀ (g : Nat → Int32) (H1 : Heap) (locs1 : List Loc), WD D A H0 H1 locs1 (ws.set q0 (a, .inl (ct 3, n, .inl g))) → W p l e R s m args below meth c H1 locs1 cells slots Q (F0 m (pc + 1) ls rest)) : W p l e R s m args below meth c H locs cells slots Q (F0 m pc ls (.int x :: .int i :: .ref a :: rest)) :=
  k_zast X hw q0 ha (vp_c h0 hj hlt) hdg _ rfl (fun H1 l1 h => kk _ H1 l1 h)
theorem j_last {a j : Nat} (X : CX p m c cc nL s args own D ct) (hw : WD D A H0 H locs ws) (q0 : Nat) {n : Nat} {f : Nat → Int64} (ha : ws[q0]? = some (a, .inl (ct 2, n, .inr (.inl f)))) {i : Int32} {x : Int64} (h0 : ¬ i < 0) (hj : i.toNatClampNeg = j) (hlt : j < n) (hdg : decode cc pc = .ok (.lastore, 1)) (w1 : va_W) (h1 : ws.set q0 (a, .inl (ct 2, n, .inr (.inl (vp_updL f j x)))) = w1) (kk : ∀ (H1 : Heap) (locs1 : List Loc), WD D A H0 H1 locs1 w1 → W p l e R s m args below meth c H1 locs1 cells slots Q (F0 m (pc + 1) ls rest)) : W p l e R s m args below meth c H locs cells slots Q (F0 m pc ls (.long x :: .int i :: .ref a :: rest)) :=
  k_last X hw q0 ha (vp_c h0 hj hlt) hdg w1 (by rw [hj]; exact h1) kk
theorem j_lastA {a j : Nat} (X : CX p m c cc nL s args own D ct) (hw : WD D A H0 H locs ws) (q0 : Nat) {n : Nat} {f : Nat → Int64} (ha : ws[q0]? = some (a, .inl (ct 2, n, .inr (.inl f)))) {i : Int32} {x : Int64} (h0 : ¬ i < 0) (hj : i.toNatClampNeg = j) (hlt : j < n) (hdg : decode cc pc = .ok (.lastore, 1)) (kk : ∀ (g : Nat → Int64) (H1 : Heap) (locs1 : List Loc), WD D A H0 H1 locs1 (ws.set q0 (a, .inl (ct 2, n, .inr (.inl g)))) → W p l e R s m args below meth c H1 locs1 cells slots Q (F0 m (pc + 1) ls rest)) : W p l e R s m args below meth c H locs cells slots Q (F0 m pc ls (.long x :: .int i :: .ref a :: rest)) :=
  k_last X hw q0 ha (vp_c h0 hj hlt) hdg _ rfl (fun H1 l1 h => kk _ H1 l1 h)
theorem j_astq {a j : Nat} (X : CX p m c cc nL s args own D ct) (hw : WD D A H0 H locs ws) (q0 t0 qk ci : Nat) {cA : ClassId} {r : vw_C} {n v : Nat} {vs : List Value} {f : Nat → Option Nat} (ha : ws[q0]? = some (a, .inl (cA, n, .inr (.inr (.inr (.inr f)))))) (ht : (tyL ct)[t0]? = some (cA, .object r.1)) (hv : ws[qk]? = some (v, .inr (ci, vs))) (hc : vwCl[ci]? = some r) {i : Int32} (h0 : ¬ i < 0) (hj : i.toNatClampNeg = j) (hlt : j < n) (hdg : decode cc pc = .ok (.aastore, 1)) (w1 : va_W) (h1 : ws.set q0 (a, .inl (cA, n, .inr (.inr (.inr (.inr (va_up f j (some v))))))) = w1) (kk : ∀ (H1 : Heap) (locs1 : List Loc), WD D A H0 H1 locs1 w1 → W p l e R s m args below meth c H1 locs1 cells slots Q (F0 m (pc + 1) ls rest)) : W p l e R s m args below meth c H locs cells slots Q (F0 m pc ls (.ref v :: .int i :: .ref a :: rest)) :=
  k_astq X hw q0 t0 qk ci ha ht hv hc (vp_c h0 hj hlt) hdg w1 (by rw [hj]; exact h1) kk
theorem fm_some {ws : va_W} {is : List Nat} (h0 : is.all (fun i => Nat.blt i ws.length) = true) : is.map (fun i => ws[i]?) = (is.filterMap (fun i => ws[i]?)).map some := by
  have h : ∀ i ∈ is, i < ws.length := fun i hi => Nat.le_of_ble_eq_true (List.all_eq_true.mp h0 i hi)
  clear h0
  induction is with
  | nil => rfl
  | cons a t ih =>
    have ha : a < ws.length := h a List.mem_cons_self
    rw [List.map_cons, List.filterMap_cons, List.getElem?_eq_getElem ha, ih (fun i hi => h i (List.mem_cons_of_mem _ hi))]
    rfl
theorem m_Vi {W0 : va_W} {post : Int32 → Prop} {W1 : (Nat → Nat) → va_W} {C : String} {b : Nat} {ret : Option FieldType} {ix maxL n : Nat} {y : MethodName} {bytes : ByteArray} {rm : Room} {As st0 : List Value} (hM : CI l y bytes maxL ret rm D ct (.ref b :: As) W0 post W1) (X : CX p m c cc nL s args own D ct) (hls : ls.size = nL) (hG : GoodIn tb (wsV own ix C y (Cond.code y bytes maxL ret :: tb))) (hd : y.cls = C ∧ y.cls ≠ "java/lang/invoke/MethodHandle" ∧ y.cls ≠ "java/lang/invoke/VarHandle" ∧ (parseMethodDescriptor y.desc).map (fun d => d.parameters.length) = some n) (hw : WD D A H0 H locs ws) (isC isR : List Nat) (hn : va_nd isC = true) (hC : isC.map (fun i => ws[i]?) = W0.map some) (hnR : va_nd isR = true) (hlt : isR.all (fun i => Nat.blt i ws.length) = true) (hdis : ∀ i ∈ isR, i ∉ isC) (q0 : Nat) {ci N : Nat} {T : u_T} {fs : List Value} (hq : W0[q0]? = some (b, .inr (ci, fs))) (hci : vwCl[ci]? = some (C, T, N)) (hR : rm.frames + 1 ≤ R.frames ∧ 8 + (maxL + 11) + rm.locals ≤ R.locals) (hl : As.length = n) (hst : st0 = As.reverse ++ .ref b :: rest) (hr8 : (rest.map fun v => v.category).sum ≤ 8) (hdg : decode cc pc = .ok (.invokevirtual ix, 3)) (hf : cells + rm.cells ≤ R.cells ∧ slots + rm.slots ≤ R.slots) (kk : ∀ (r : Int32) (u : Nat → Nat) (H1 : Heap) (locs1 : List Loc), post r → WD D A H0 H1 locs1 (isR.filterMap (fun i => ws[i]?) ++ W1 u) → W p l e R s m args below meth c H1 locs1 (cells + rm.cells) (slots + rm.slots) Q (F0 m (pc + 3) ls (.int r :: rest))) : W p l e R s m args below meth c H locs cells slots Q (F0 m pc ls st0) :=
  kc_i hw isC isR hC (fm_some hlt) hnR hdis (kr_V X hls hG hd hw isC hn hC (hM H.size) hq hci hR hl hst hr8 hdg hf) kk
theorem m_Vl {W0 : va_W} {post : Int64 → Prop} {W1 : (Nat → Nat) → va_W} {C : String} {b : Nat} {ret : Option FieldType} {ix maxL n : Nat} {y : MethodName} {bytes : ByteArray} {rm : Room} {As st0 : List Value} (hM : CL l y bytes maxL ret rm D ct (.ref b :: As) W0 post W1) (X : CX p m c cc nL s args own D ct) (hls : ls.size = nL) (hG : GoodIn tb (wsV own ix C y (Cond.code y bytes maxL ret :: tb))) (hd : y.cls = C ∧ y.cls ≠ "java/lang/invoke/MethodHandle" ∧ y.cls ≠ "java/lang/invoke/VarHandle" ∧ (parseMethodDescriptor y.desc).map (fun d => d.parameters.length) = some n) (hw : WD D A H0 H locs ws) (isC isR : List Nat) (hn : va_nd isC = true) (hC : isC.map (fun i => ws[i]?) = W0.map some) (hnR : va_nd isR = true) (hlt : isR.all (fun i => Nat.blt i ws.length) = true) (hdis : ∀ i ∈ isR, i ∉ isC) (q0 : Nat) {ci N : Nat} {T : u_T} {fs : List Value} (hq : W0[q0]? = some (b, .inr (ci, fs))) (hci : vwCl[ci]? = some (C, T, N)) (hR : rm.frames + 1 ≤ R.frames ∧ 8 + (maxL + 11) + rm.locals ≤ R.locals) (hl : As.length = n) (hst : st0 = As.reverse ++ .ref b :: rest) (hr8 : (rest.map fun v => v.category).sum ≤ 8) (hdg : decode cc pc = .ok (.invokevirtual ix, 3)) (hf : cells + rm.cells ≤ R.cells ∧ slots + rm.slots ≤ R.slots) (kk : ∀ (r : Int64) (u : Nat → Nat) (H1 : Heap) (locs1 : List Loc), post r → WD D A H0 H1 locs1 (isR.filterMap (fun i => ws[i]?) ++ W1 u) → W p l e R s m args below meth c H1 locs1 (cells + rm.cells) (slots + rm.slots) Q (F0 m (pc + 3) ls (.long r :: rest))) : W p l e R s m args below meth c H locs cells slots Q (F0 m pc ls st0) :=
  kc_l hw isC isR hC (fm_some hlt) hnR hdis (kr_V X hls hG hd hw isC hn hC (hM H.size) hq hci hR hl hst hr8 hdg hf) kk
theorem m_Vv {W0 : va_W} {post : Prop} {W1 : (Nat → Nat) → va_W} {C : String} {b : Nat} {ret : Option FieldType} {ix maxL n : Nat} {y : MethodName} {bytes : ByteArray} {rm : Room} {As st0 : List Value} (hM : CV l y bytes maxL ret rm D ct (.ref b :: As) W0 post W1) (X : CX p m c cc nL s args own D ct) (hls : ls.size = nL) (hG : GoodIn tb (wsV own ix C y (Cond.code y bytes maxL ret :: tb))) (hd : y.cls = C ∧ y.cls ≠ "java/lang/invoke/MethodHandle" ∧ y.cls ≠ "java/lang/invoke/VarHandle" ∧ (parseMethodDescriptor y.desc).map (fun d => d.parameters.length) = some n) (hw : WD D A H0 H locs ws) (isC isR : List Nat) (hn : va_nd isC = true) (hC : isC.map (fun i => ws[i]?) = W0.map some) (hnR : va_nd isR = true) (hlt : isR.all (fun i => Nat.blt i ws.length) = true) (hdis : ∀ i ∈ isR, i ∉ isC) (q0 : Nat) {ci N : Nat} {T : u_T} {fs : List Value} (hq : W0[q0]? = some (b, .inr (ci, fs))) (hci : vwCl[ci]? = some (C, T, N)) (hR : rm.frames + 1 ≤ R.frames ∧ 8 + (maxL + 11) + rm.locals ≤ R.locals) (hl : As.length = n) (hst : st0 = As.reverse ++ .ref b :: rest) (hr8 : (rest.map fun v => v.category).sum ≤ 8) (hdg : decode cc pc = .ok (.invokevirtual ix, 3)) (hf : cells + rm.cells ≤ R.cells ∧ slots + rm.slots ≤ R.slots) (kk : ∀ (u : Nat → Nat) (H1 : Heap) (locs1 : List Loc), post → WD D A H0 H1 locs1 (isR.filterMap (fun i => ws[i]?) ++ W1 u) → W p l e R s m args below meth c H1 locs1 (cells + rm.cells) (slots + rm.slots) Q (F0 m (pc + 3) ls rest)) : W p l e R s m args below meth c H locs cells slots Q (F0 m pc ls st0) :=
  kc_v hw isC isR hC (fm_some hlt) hnR hdis (kr_V X hls hG hd hw isC hn hC (hM H.size) hq hci hR hl hst hr8 hdg hf) kk
theorem m_Si {W0 : va_W} {post : Int32 → Prop} {W1 : (Nat → Nat) → va_W} {ret : Option FieldType} {ix maxL n : Nat} {y : MethodName} {bytes : ByteArray} {rm : Room} {As st0 : List Value} (hM : CI l y bytes maxL ret rm D ct As W0 post W1) (X : CX p m c cc nL s args own D ct) (hls : ls.size = nL) (hG : GoodIn tb (va_wsS own ix y (Cond.code y bytes maxL ret :: tb))) (hd : y.cls ≠ "java/lang/invoke/MethodHandle" ∧ y.cls ≠ "java/lang/invoke/VarHandle" ∧ (parseMethodDescriptor y.desc).map (fun d => d.parameters.length) = some n) (hw : WD D A H0 H locs ws) (isC isR : List Nat) (hn : va_nd isC = true) (hC : isC.map (fun i => ws[i]?) = W0.map some) (hnR : va_nd isR = true) (hlt : isR.all (fun i => Nat.blt i ws.length) = true) (hdis : ∀ i ∈ isR, i ∉ isC) (hR : rm.frames + 1 ≤ R.frames ∧ 8 + (maxL + 11) + rm.locals ≤ R.locals) (hl : As.length = n) (hst : st0 = As.reverse ++ rest) (hr8 : (rest.map fun v => v.category).sum ≤ 8) (hdg : decode cc pc = .ok (.invokestatic ix, 3)) (hf : cells + rm.cells ≤ R.cells ∧ slots + rm.slots ≤ R.slots) (kk : ∀ (r : Int32) (u : Nat → Nat) (H1 : Heap) (locs1 : List Loc), post r → WD D A H0 H1 locs1 (isR.filterMap (fun i => ws[i]?) ++ W1 u) → W p l e R s m args below meth c H1 locs1 (cells + rm.cells) (slots + rm.slots) Q (F0 m (pc + 3) ls (.int r :: rest))) : W p l e R s m args below meth c H locs cells slots Q (F0 m pc ls st0) :=
  kc_i hw isC isR hC (fm_some hlt) hnR hdis (kr_S X hls hG hd hw isC hn hC (hM H.size) hR hl hst hr8 hdg hf) kk
theorem m_Sl {W0 : va_W} {post : Int64 → Prop} {W1 : (Nat → Nat) → va_W} {ret : Option FieldType} {ix maxL n : Nat} {y : MethodName} {bytes : ByteArray} {rm : Room} {As st0 : List Value} (hM : CL l y bytes maxL ret rm D ct As W0 post W1) (X : CX p m c cc nL s args own D ct) (hls : ls.size = nL) (hG : GoodIn tb (va_wsS own ix y (Cond.code y bytes maxL ret :: tb))) (hd : y.cls ≠ "java/lang/invoke/MethodHandle" ∧ y.cls ≠ "java/lang/invoke/VarHandle" ∧ (parseMethodDescriptor y.desc).map (fun d => d.parameters.length) = some n) (hw : WD D A H0 H locs ws) (isC isR : List Nat) (hn : va_nd isC = true) (hC : isC.map (fun i => ws[i]?) = W0.map some) (hnR : va_nd isR = true) (hlt : isR.all (fun i => Nat.blt i ws.length) = true) (hdis : ∀ i ∈ isR, i ∉ isC) (hR : rm.frames + 1 ≤ R.frames ∧ 8 + (maxL + 11) + rm.locals ≤ R.locals) (hl : As.length = n) (hst : st0 = As.reverse ++ rest) (hr8 : (rest.map fun v => v.category).sum ≤ 8) (hdg : decode cc pc = .ok (.invokestatic ix, 3)) (hf : cells + rm.cells ≤ R.cells ∧ slots + rm.slots ≤ R.slots) (kk : ∀ (r : Int64) (u : Nat → Nat) (H1 : Heap) (locs1 : List Loc), post r → WD D A H0 H1 locs1 (isR.filterMap (fun i => ws[i]?) ++ W1 u) → W p l e R s m args below meth c H1 locs1 (cells + rm.cells) (slots + rm.slots) Q (F0 m (pc + 3) ls (.long r :: rest))) : W p l e R s m args below meth c H locs cells slots Q (F0 m pc ls st0) :=
  kc_l hw isC isR hC (fm_some hlt) hnR hdis (kr_S X hls hG hd hw isC hn hC (hM H.size) hR hl hst hr8 hdg hf) kk
theorem m_Sv {W0 : va_W} {post : Prop} {W1 : (Nat → Nat) → va_W} {ret : Option FieldType} {ix maxL n : Nat} {y : MethodName} {bytes : ByteArray} {rm : Room} {As st0 : List Value} (hM : CV l y bytes maxL ret rm D ct As W0 post W1) (X : CX p m c cc nL s args own D ct) (hls : ls.size = nL) (hG : GoodIn tb (va_wsS own ix y (Cond.code y bytes maxL ret :: tb))) (hd : y.cls ≠ "java/lang/invoke/MethodHandle" ∧ y.cls ≠ "java/lang/invoke/VarHandle" ∧ (parseMethodDescriptor y.desc).map (fun d => d.parameters.length) = some n) (hw : WD D A H0 H locs ws) (isC isR : List Nat) (hn : va_nd isC = true) (hC : isC.map (fun i => ws[i]?) = W0.map some) (hnR : va_nd isR = true) (hlt : isR.all (fun i => Nat.blt i ws.length) = true) (hdis : ∀ i ∈ isR, i ∉ isC) (hR : rm.frames + 1 ≤ R.frames ∧ 8 + (maxL + 11) + rm.locals ≤ R.locals) (hl : As.length = n) (hst : st0 = As.reverse ++ rest) (hr8 : (rest.map fun v => v.category).sum ≤ 8) (hdg : decode cc pc = .ok (.invokestatic ix, 3)) (hf : cells + rm.cells ≤ R.cells ∧ slots + rm.slots ≤ R.slots) (kk : ∀ (u : Nat → Nat) (H1 : Heap) (locs1 : List Loc), post → WD D A H0 H1 locs1 (isR.filterMap (fun i => ws[i]?) ++ W1 u) → W p l e R s m args below meth c H1 locs1 (cells + rm.cells) (slots + rm.slots) Q (F0 m (pc + 3) ls rest)) : W p l e R s m args below meth c H locs cells slots Q (F0 m pc ls st0) :=
  kc_v hw isC isR hC (fm_some hlt) hnR hdis (kr_S X hls hG hd hw isC hn hC (hM H.size) hR hl hst hr8 hdg hf) kk
theorem m_Iv {W0 : va_W} {post : Prop} {W1 : (Nat → Nat) → va_W} {b : Nat} {ix maxL n : Nat} {y : MethodName} {bytes : ByteArray} {rm : Room} {As st0 : List Value} (hM : CV l y bytes maxL none rm D ct (.ref b :: As) W0 post W1) (X : CX p m c cc nL s args own D ct) (hls : ls.size = nL) (hG : Cond.code y bytes maxL none ∈ tb) (g1 : Cond.initialized y.cls ∈ tb) (g2 : Cond.methodLink own ix y ∈ tb) (g3 : Cond.instanceMethod y ∈ tb) (hy : y.name = "<init>") (hd : y.cls ≠ "java/lang/invoke/MethodHandle" ∧ y.cls ≠ "java/lang/invoke/VarHandle" ∧ (parseMethodDescriptor y.desc).map (fun d => d.parameters.length) = some n) (hw : WD D A H0 H locs ws) (isC isR : List Nat) (hn : va_nd isC = true) (hC : isC.map (fun i => ws[i]?) = W0.map some) (hnR : va_nd isR = true) (hlt : isR.all (fun i => Nat.blt i ws.length) = true) (hdis : ∀ i ∈ isR, i ∉ isC) (hR : rm.frames + 1 ≤ R.frames ∧ 8 + (maxL + 11) + rm.locals ≤ R.locals) (hl : As.length = n) (hst : st0 = As.reverse ++ .ref b :: rest) (hr8 : (rest.map fun v => v.category).sum ≤ 8) (hdg : decode cc pc = .ok (.invokespecial ix, 3)) (hf : cells + rm.cells ≤ R.cells ∧ slots + rm.slots ≤ R.slots) (kk : ∀ (u : Nat → Nat) (H1 : Heap) (locs1 : List Loc), post → WD D A H0 H1 locs1 (isR.filterMap (fun i => ws[i]?) ++ W1 u) → W p l e R s m args below meth c H1 locs1 (cells + rm.cells) (slots + rm.slots) Q (F0 m (pc + 3) ls rest)) : W p l e R s m args below meth c H locs cells slots Q (F0 m pc ls st0) :=
  kc_v hw isC isR hC (fm_some hlt) hnR hdis (kr_I X hls hG g1 g2 g3 hy hd hw isC hn hC (hM H.size) hR hl hst hr8 hdg hf) kk
theorem m_Nv {W0 : va_W} {post : Prop} {W1 : (Nat → Nat) → va_W} {b : Nat} {host : String} {ix maxL n : Nat} {y : MethodName} {bytes : ByteArray} {rm : Room} {As st0 : List Value} (hM : CV l y bytes maxL none rm D ct (.ref b :: As) W0 post W1) (X : CX p m c cc nL s args own D ct) (hls : ls.size = nL) (hG : Cond.code y bytes maxL none ∈ tb) (g1 : Cond.initialized y.cls ∈ tb) (g2 : va_Nw (.methodLinkNest own ix y host) s) (g3 : Cond.instanceMethod y ∈ tb) (hy : y.name = "<init>") (hd : y.cls ≠ "java/lang/invoke/MethodHandle" ∧ y.cls ≠ "java/lang/invoke/VarHandle" ∧ (parseMethodDescriptor y.desc).map (fun d => d.parameters.length) = some n) (hw : WD D A H0 H locs ws) (isC isR : List Nat) (hn : va_nd isC = true) (hC : isC.map (fun i => ws[i]?) = W0.map some) (hnR : va_nd isR = true) (hlt : isR.all (fun i => Nat.blt i ws.length) = true) (hdis : ∀ i ∈ isR, i ∉ isC) (hR : rm.frames + 1 ≤ R.frames ∧ 8 + (maxL + 11) + rm.locals ≤ R.locals) (hl : As.length = n) (hst : st0 = As.reverse ++ .ref b :: rest) (hr8 : (rest.map fun v => v.category).sum ≤ 8) (hdg : decode cc pc = .ok (.invokespecial ix, 3)) (hf : cells + rm.cells ≤ R.cells ∧ slots + rm.slots ≤ R.slots) (kk : ∀ (u : Nat → Nat) (H1 : Heap) (locs1 : List Loc), post → WD D A H0 H1 locs1 (isR.filterMap (fun i => ws[i]?) ++ W1 u) → W p l e R s m args below meth c H1 locs1 (cells + rm.cells) (slots + rm.slots) Q (F0 m (pc + 3) ls rest)) : W p l e R s m args below meth c H locs cells slots Q (F0 m pc ls st0) :=
  kc_v hw isC isR hC (fm_some hlt) hnR hdis (kr_IN X hls hG g1 g2 g3 hy hd hw isC hn hC (hM H.size) hR hl hst hr8 hdg hf) kk
theorem ci_lt {x y : Int32} {a b : Int} (ha : x.toInt = a) (hb : y.toInt = b) (h : x < y) : a < b := by rw [← ha, ← hb]; exact Int32.lt_iff_toInt_lt.mp h
theorem ci_nlt {x y : Int32} {a b : Int} (ha : x.toInt = a) (hb : y.toInt = b) (h : ¬ x < y) : b ≤ a := by rw [Int32.lt_iff_toInt_lt, ha, hb] at h; omega
theorem ci_le {x y : Int32} {a b : Int} (ha : x.toInt = a) (hb : y.toInt = b) (h : x ≤ y) : a ≤ b := by rw [← ha, ← hb]; exact Int32.le_iff_toInt_le.mp h
theorem ci_nle {x y : Int32} {a b : Int} (ha : x.toInt = a) (hb : y.toInt = b) (h : ¬ x ≤ y) : b < a := by rw [Int32.le_iff_toInt_le, ha, hb] at h; omega
theorem ci_eq {x y : Int32} {a b : Int} (ha : x.toInt = a) (hb : y.toInt = b) (h : x = y) : a = b := by rw [← ha, ← hb, h]
theorem ci_neq {x y : Int32} {a b : Int} (ha : x.toInt = a) (hb : y.toInt = b) (h : ¬ x = y) : a ≠ b := by rw [← ha, ← hb]; exact fun q => h (Int32.toInt_inj.mp q)
theorem cl_lt {x y : Int64} {a b : Int} (ha : x.toInt = a) (hb : y.toInt = b) (h : lg_cmp x y < 0) : a < b := by rw [← ha, ← hb]; exact Int64.lt_iff_toInt_lt.mp ((lg_cmp_lt x y).mp h)
theorem cl_nlt {x y : Int64} {a b : Int} (ha : x.toInt = a) (hb : y.toInt = b) (h : ¬ lg_cmp x y < 0) : b ≤ a := by rw [lg_cmp_lt, Int64.lt_iff_toInt_lt, ha, hb] at h; omega
theorem cl_gt {x y : Int64} {a b : Int} (ha : x.toInt = a) (hb : y.toInt = b) (h : 0 < lg_cmp x y) : b < a := by rw [← ha, ← hb]; exact Int64.lt_iff_toInt_lt.mp ((lg_cmp_gt x y).mp h)
theorem cl_ngt {x y : Int64} {a b : Int} (ha : x.toInt = a) (hb : y.toInt = b) (h : ¬ 0 < lg_cmp x y) : a ≤ b := by rw [lg_cmp_gt, Int64.lt_iff_toInt_lt, ha, hb] at h; omega
theorem cl_le {x y : Int64} {a b : Int} (ha : x.toInt = a) (hb : y.toInt = b) (h : lg_cmp x y ≤ 0) : a ≤ b := by rw [← ha, ← hb]; exact Int64.le_iff_toInt_le.mp ((lg_cmp_le x y).mp h)
theorem cl_nle {x y : Int64} {a b : Int} (ha : x.toInt = a) (hb : y.toInt = b) (h : ¬ lg_cmp x y ≤ 0) : b < a := by rw [lg_cmp_le, Int64.le_iff_toInt_le, ha, hb] at h; omega
theorem cl_ge {x y : Int64} {a b : Int} (ha : x.toInt = a) (hb : y.toInt = b) (h : 0 ≤ lg_cmp x y) : b ≤ a := by rw [← ha, ← hb]; exact Int64.le_iff_toInt_le.mp ((lg_cmp_ge x y).mp h)
theorem cl_nge {x y : Int64} {a b : Int} (ha : x.toInt = a) (hb : y.toInt = b) (h : ¬ 0 ≤ lg_cmp x y) : a < b := by rw [lg_cmp_ge, Int64.le_iff_toInt_le, ha, hb] at h; omega
theorem cl_eq {x y : Int64} {a b : Int} (ha : x.toInt = a) (hb : y.toInt = b) (h : lg_cmp x y = 0) : a = b := by rw [← ha, ← hb, (lg_cmp_eq x y).mp h]
theorem cl_neq {x y : Int64} {a b : Int} (ha : x.toInt = a) (hb : y.toInt = b) (h : ¬ lg_cmp x y = 0) : a ≠ b := by rw [lg_cmp_eq] at h; rw [← ha, ← hb]; exact fun q => h (Int64.toInt_inj.mp q)
theorem i64i (x : Int32) : x.toInt64.toInt = x.toInt := Int32.toInt_toInt64 x
theorem i32_of {x y : Int32} (h : x.toInt = y.toInt) : x = y := Int32.toInt_inj.mp h
theorem cpy_0 {α : Type} (f g : Nat → α) (sp dp : Nat) : g = va_cpy f g sp dp 0 := by
  funext j
  simp only [va_cpy]
  rw [if_neg (by omega)]
theorem cpy_s (f g : Nat → Int32) (sp dp k j : Nat) (v : Int32) (hj : j = dp + k) (hv : v = f (sp + k)) : upd (va_cpy f g sp dp k) j v = va_cpy f g sp dp (k + 1) := by
  subst hj hv
  funext i
  simp only [va_cpy, upd]
  by_cases h : i = dp + k
  · subst h
    rw [if_pos rfl, if_pos (by omega)]
    congr 1; omega
  · rw [if_neg h]
    by_cases h2 : dp ≤ i ∧ i < dp + k
    · rw [if_pos h2, if_pos (by omega)]
    · rw [if_neg h2, if_neg (by omega)]
theorem cpy_sL (f g : Nat → Int64) (sp dp k j : Nat) (v : Int64) (hj : j = dp + k) (hv : v = f (sp + k)) : vp_updL (va_cpy f g sp dp k) j v = va_cpy f g sp dp (k + 1) := by
  subst hj hv
  funext i
  simp only [va_cpy, vp_updL]
  by_cases h : i = dp + k
  · subst h
    rw [if_pos rfl, if_pos (by omega)]
    congr 1; omega
  · rw [if_neg h]
    by_cases h2 : dp ≤ i ∧ i < dp + k
    · rw [if_pos h2, if_pos (by omega)]
    · rw [if_neg h2, if_neg (by omega)]
theorem fg_174 {a : Nat} (X : CX p m c cc nL s args RX4 D ct) (hw : WD D A H0 H locs ws) (q0 : Nat) {fs : List Value} {v : Value} (he : ws[q0]? = some (a, .inr (4, fs))) (hv : fs[0]? = some v) (hdg : decode cc pc = .ok (.getfield 9, 3)) (kk : W p l e R s m args below meth c H locs cells slots Q (F0 m (pc + 3) ls (v :: rest))) : W p l e R s m args below meth c H locs cells slots Q (F0 m pc ls (.ref a :: rest)) :=
  k_get (k := 0) X inT4 wd_174 rfl (by decide) rfl hw q0 he hv hdg kk
theorem fp_174 {a : Nat} (X : CX p m c cc nL s args RX4 D ct) (hnam : meth.name = "<init>") (hw : WD D A H0 H locs ws) (q0 : Nat) {fs : List Value} {v : Value} (he : ws[q0]? = some (a, .inr (4, fs))) (hn : narrow (.array (.int)) v = v) (hfit : fits (.array (.int)) v = true) (hl : 0 < fs.length) (hdg : decode cc pc = .ok (.putfield 9, 3)) (w1 : va_W) (h1 : ws.set q0 (a, .inr (4, fs.set 0 v)) = w1) (kk : ∀ (H1 : Heap) (locs1 : List Loc), WD D A H0 H1 locs1 w1 → W p l e R s m args below meth c H1 locs1 cells slots Q (F0 m (pc + 3) ls rest)) : W p l e R s m args below meth c H locs cells slots Q (F0 m pc ls (v :: .ref a :: rest)) :=
  k_putF (k := 0) X inT4 tyX4_ok nmX4 wd_174 rfl (by decide) rfl rfl rfl (by decide +kernel) hnam hw q0 he hn hfit hl hdg w1 h1 kk
theorem fg_175 {a : Nat} (X : CX p m c cc nL s args RX8 D ct) (hw : WD D A H0 H locs ws) (q0 : Nat) {fs : List Value} {v : Value} (he : ws[q0]? = some (a, .inr (4, fs))) (hv : fs[0]? = some v) (hdg : decode cc pc = .ok (.getfield 42, 3)) (kk : W p l e R s m args below meth c H locs cells slots Q (F0 m (pc + 3) ls (v :: rest))) : W p l e R s m args below meth c H locs cells slots Q (F0 m pc ls (.ref a :: rest)) :=
  k_get (k := 0) X inT4 wd_175 rfl (by decide) rfl hw q0 he hv hdg kk
theorem fg_176 {a : Nat} (X : CX p m c cc nL s args RX0 D ct) (hw : WD D A H0 H locs ws) (q0 : Nat) {fs : List Value} {v : Value} (he : ws[q0]? = some (a, .inr (4, fs))) (hv : fs[0]? = some v) (hdg : decode cc pc = .ok (.getfield 74, 3)) (kk : W p l e R s m args below meth c H locs cells slots Q (F0 m (pc + 3) ls (v :: rest))) : W p l e R s m args below meth c H locs cells slots Q (F0 m pc ls (.ref a :: rest)) :=
  k_get (k := 0) X inT4 wd_176 rfl (by decide) rfl hw q0 he hv hdg kk
theorem fg_177 {a : Nat} (X : CX p m c cc nL s args RX3 D ct) (hw : WD D A H0 H locs ws) (q0 : Nat) {fs : List Value} {v : Value} (he : ws[q0]? = some (a, .inr (4, fs))) (hv : fs[0]? = some v) (hdg : decode cc pc = .ok (.getfield 78, 3)) (kk : W p l e R s m args below meth c H locs cells slots Q (F0 m (pc + 3) ls (v :: rest))) : W p l e R s m args below meth c H locs cells slots Q (F0 m pc ls (.ref a :: rest)) :=
  k_get (k := 0) X inT4 wd_177 rfl (by decide) rfl hw q0 he hv hdg kk
theorem fg_178 {a : Nat} (X : CX p m c cc nL s args RX9 D ct) (hw : WD D A H0 H locs ws) (q0 : Nat) {fs : List Value} {v : Value} (he : ws[q0]? = some (a, .inr (4, fs))) (hv : fs[0]? = some v) (hdg : decode cc pc = .ok (.getfield 69, 3)) (kk : W p l e R s m args below meth c H locs cells slots Q (F0 m (pc + 3) ls (v :: rest))) : W p l e R s m args below meth c H locs cells slots Q (F0 m pc ls (.ref a :: rest)) :=
  k_get (k := 0) X inT4 wd_178 rfl (by decide) rfl hw q0 he hv hdg kk
theorem fg_179 {a : Nat} (X : CX p m c cc nL s args RX2 D ct) (hw : WD D A H0 H locs ws) (q0 : Nat) {fs : List Value} {v : Value} (he : ws[q0]? = some (a, .inr (4, fs))) (hv : fs[0]? = some v) (hdg : decode cc pc = .ok (.getfield 78, 3)) (kk : W p l e R s m args below meth c H locs cells slots Q (F0 m (pc + 3) ls (v :: rest))) : W p l e R s m args below meth c H locs cells slots Q (F0 m pc ls (.ref a :: rest)) :=
  k_get (k := 0) X inT4 wd_179 rfl (by decide) rfl hw q0 he hv hdg kk
theorem fg_180 {a : Nat} (X : CX p m c cc nL s args RX7 D ct) (hw : WD D A H0 H locs ws) (q0 : Nat) {fs : List Value} {v : Value} (he : ws[q0]? = some (a, .inr (4, fs))) (hv : fs[0]? = some v) (hdg : decode cc pc = .ok (.getfield 124, 3)) (kk : W p l e R s m args below meth c H locs cells slots Q (F0 m (pc + 3) ls (v :: rest))) : W p l e R s m args below meth c H locs cells slots Q (F0 m pc ls (.ref a :: rest)) :=
  k_get (k := 0) X inT4 wd_180 rfl (by decide) rfl hw q0 he hv hdg kk
theorem fg_181 {a : Nat} (X : CX p m c cc nL s args RX11 D ct) (hw : WD D A H0 H locs ws) (q0 : Nat) {fs : List Value} {v : Value} (he : ws[q0]? = some (a, .inr (4, fs))) (hv : fs[0]? = some v) (hdg : decode cc pc = .ok (.getfield 167, 3)) (kk : W p l e R s m args below meth c H locs cells slots Q (F0 m (pc + 3) ls (v :: rest))) : W p l e R s m args below meth c H locs cells slots Q (F0 m pc ls (.ref a :: rest)) :=
  k_get (k := 0) X inT4 wd_181 rfl (by decide) rfl hw q0 he hv hdg kk
theorem fg_182 {a : Nat} (X : CX p m c cc nL s args RX4 D ct) (hw : WD D A H0 H locs ws) (q0 : Nat) {fs : List Value} {v : Value} (he : ws[q0]? = some (a, .inr (4, fs))) (hv : fs[1]? = some v) (hdg : decode cc pc = .ok (.getfield 15, 3)) (kk : W p l e R s m args below meth c H locs cells slots Q (F0 m (pc + 3) ls (v :: rest))) : W p l e R s m args below meth c H locs cells slots Q (F0 m pc ls (.ref a :: rest)) :=
  k_get (k := 1) X inT4 wd_182 rfl (by decide) rfl hw q0 he hv hdg kk
theorem fp_182 {a : Nat} (X : CX p m c cc nL s args RX4 D ct) (hnam : meth.name = "<init>") (hw : WD D A H0 H locs ws) (q0 : Nat) {fs : List Value} {v : Value} (he : ws[q0]? = some (a, .inr (4, fs))) (hn : narrow (.array (.int)) v = v) (hfit : fits (.array (.int)) v = true) (hl : 1 < fs.length) (hdg : decode cc pc = .ok (.putfield 15, 3)) (w1 : va_W) (h1 : ws.set q0 (a, .inr (4, fs.set 1 v)) = w1) (kk : ∀ (H1 : Heap) (locs1 : List Loc), WD D A H0 H1 locs1 w1 → W p l e R s m args below meth c H1 locs1 cells slots Q (F0 m (pc + 3) ls rest)) : W p l e R s m args below meth c H locs cells slots Q (F0 m pc ls (v :: .ref a :: rest)) :=
  k_putF (k := 1) X inT4 tyX4_ok nmX4 wd_182 rfl (by decide) rfl rfl rfl (by decide +kernel) hnam hw q0 he hn hfit hl hdg w1 h1 kk
theorem fg_183 {a : Nat} (X : CX p m c cc nL s args RX9 D ct) (hw : WD D A H0 H locs ws) (q0 : Nat) {fs : List Value} {v : Value} (he : ws[q0]? = some (a, .inr (4, fs))) (hv : fs[1]? = some v) (hdg : decode cc pc = .ok (.getfield 87, 3)) (kk : W p l e R s m args below meth c H locs cells slots Q (F0 m (pc + 3) ls (v :: rest))) : W p l e R s m args below meth c H locs cells slots Q (F0 m pc ls (.ref a :: rest)) :=
  k_get (k := 1) X inT4 wd_183 rfl (by decide) rfl hw q0 he hv hdg kk
theorem fg_184 {a : Nat} (X : CX p m c cc nL s args RX0 D ct) (hw : WD D A H0 H locs ws) (q0 : Nat) {fs : List Value} {v : Value} (he : ws[q0]? = some (a, .inr (4, fs))) (hv : fs[1]? = some v) (hdg : decode cc pc = .ok (.getfield 98, 3)) (kk : W p l e R s m args below meth c H locs cells slots Q (F0 m (pc + 3) ls (v :: rest))) : W p l e R s m args below meth c H locs cells slots Q (F0 m pc ls (.ref a :: rest)) :=
  k_get (k := 1) X inT4 wd_184 rfl (by decide) rfl hw q0 he hv hdg kk
theorem fg_185 {a : Nat} (X : CX p m c cc nL s args RX11 D ct) (hw : WD D A H0 H locs ws) (q0 : Nat) {fs : List Value} {v : Value} (he : ws[q0]? = some (a, .inr (4, fs))) (hv : fs[1]? = some v) (hdg : decode cc pc = .ok (.getfield 174, 3)) (kk : W p l e R s m args below meth c H locs cells slots Q (F0 m (pc + 3) ls (v :: rest))) : W p l e R s m args below meth c H locs cells slots Q (F0 m pc ls (.ref a :: rest)) :=
  k_get (k := 1) X inT4 wd_185 rfl (by decide) rfl hw q0 he hv hdg kk
theorem fg_186 {a : Nat} (X : CX p m c cc nL s args RX4 D ct) (hw : WD D A H0 H locs ws) (q0 : Nat) {fs : List Value} {v : Value} (he : ws[q0]? = some (a, .inr (4, fs))) (hv : fs[2]? = some v) (hdg : decode cc pc = .ok (.getfield 18, 3)) (kk : W p l e R s m args below meth c H locs cells slots Q (F0 m (pc + 3) ls (v :: rest))) : W p l e R s m args below meth c H locs cells slots Q (F0 m pc ls (.ref a :: rest)) :=
  k_get (k := 2) X inT4 wd_186 rfl (by decide) rfl hw q0 he hv hdg kk
theorem fp_186 {a : Nat} (X : CX p m c cc nL s args RX4 D ct) (hnam : meth.name = "<init>") (hw : WD D A H0 H locs ws) (q0 : Nat) {fs : List Value} {v : Value} (he : ws[q0]? = some (a, .inr (4, fs))) (hn : narrow (.array (.int)) v = v) (hfit : fits (.array (.int)) v = true) (hl : 2 < fs.length) (hdg : decode cc pc = .ok (.putfield 18, 3)) (w1 : va_W) (h1 : ws.set q0 (a, .inr (4, fs.set 2 v)) = w1) (kk : ∀ (H1 : Heap) (locs1 : List Loc), WD D A H0 H1 locs1 w1 → W p l e R s m args below meth c H1 locs1 cells slots Q (F0 m (pc + 3) ls rest)) : W p l e R s m args below meth c H locs cells slots Q (F0 m pc ls (v :: .ref a :: rest)) :=
  k_putF (k := 2) X inT4 tyX4_ok nmX4 wd_186 rfl (by decide) rfl rfl rfl (by decide +kernel) hnam hw q0 he hn hfit hl hdg w1 h1 kk
theorem fg_187 {a : Nat} (X : CX p m c cc nL s args RX0 D ct) (hw : WD D A H0 H locs ws) (q0 : Nat) {fs : List Value} {v : Value} (he : ws[q0]? = some (a, .inr (4, fs))) (hv : fs[2]? = some v) (hdg : decode cc pc = .ok (.getfield 79, 3)) (kk : W p l e R s m args below meth c H locs cells slots Q (F0 m (pc + 3) ls (v :: rest))) : W p l e R s m args below meth c H locs cells slots Q (F0 m pc ls (.ref a :: rest)) :=
  k_get (k := 2) X inT4 wd_187 rfl (by decide) rfl hw q0 he hv hdg kk
theorem fg_188 {a : Nat} (X : CX p m c cc nL s args RX7 D ct) (hw : WD D A H0 H locs ws) (q0 : Nat) {fs : List Value} {v : Value} (he : ws[q0]? = some (a, .inr (4, fs))) (hv : fs[2]? = some v) (hdg : decode cc pc = .ok (.getfield 113, 3)) (kk : W p l e R s m args below meth c H locs cells slots Q (F0 m (pc + 3) ls (v :: rest))) : W p l e R s m args below meth c H locs cells slots Q (F0 m pc ls (.ref a :: rest)) :=
  k_get (k := 2) X inT4 wd_188 rfl (by decide) rfl hw q0 he hv hdg kk
theorem fg_189 {a : Nat} (X : CX p m c cc nL s args RX2 D ct) (hw : WD D A H0 H locs ws) (q0 : Nat) {fs : List Value} {v : Value} (he : ws[q0]? = some (a, .inr (4, fs))) (hv : fs[2]? = some v) (hdg : decode cc pc = .ok (.getfield 75, 3)) (kk : W p l e R s m args below meth c H locs cells slots Q (F0 m (pc + 3) ls (v :: rest))) : W p l e R s m args below meth c H locs cells slots Q (F0 m pc ls (.ref a :: rest)) :=
  k_get (k := 2) X inT4 wd_189 rfl (by decide) rfl hw q0 he hv hdg kk
theorem fg_190 {a : Nat} (X : CX p m c cc nL s args RX9 D ct) (hw : WD D A H0 H locs ws) (q0 : Nat) {fs : List Value} {v : Value} (he : ws[q0]? = some (a, .inr (4, fs))) (hv : fs[2]? = some v) (hdg : decode cc pc = .ok (.getfield 81, 3)) (kk : W p l e R s m args below meth c H locs cells slots Q (F0 m (pc + 3) ls (v :: rest))) : W p l e R s m args below meth c H locs cells slots Q (F0 m pc ls (.ref a :: rest)) :=
  k_get (k := 2) X inT4 wd_190 rfl (by decide) rfl hw q0 he hv hdg kk
theorem fg_191 {a : Nat} (X : CX p m c cc nL s args RX11 D ct) (hw : WD D A H0 H locs ws) (q0 : Nat) {fs : List Value} {v : Value} (he : ws[q0]? = some (a, .inr (4, fs))) (hv : fs[2]? = some v) (hdg : decode cc pc = .ok (.getfield 154, 3)) (kk : W p l e R s m args below meth c H locs cells slots Q (F0 m (pc + 3) ls (v :: rest))) : W p l e R s m args below meth c H locs cells slots Q (F0 m pc ls (.ref a :: rest)) :=
  k_get (k := 2) X inT4 wd_191 rfl (by decide) rfl hw q0 he hv hdg kk
theorem fg_192 {a : Nat} (X : CX p m c cc nL s args RX4 D ct) (hw : WD D A H0 H locs ws) (q0 : Nat) {fs : List Value} {v : Value} (he : ws[q0]? = some (a, .inr (4, fs))) (hv : fs[3]? = some v) (hdg : decode cc pc = .ok (.getfield 21, 3)) (kk : W p l e R s m args below meth c H locs cells slots Q (F0 m (pc + 3) ls (v :: rest))) : W p l e R s m args below meth c H locs cells slots Q (F0 m pc ls (.ref a :: rest)) :=
  k_get (k := 3) X inT4 wd_192 rfl (by decide) rfl hw q0 he hv hdg kk
theorem fp_192 {a : Nat} (X : CX p m c cc nL s args RX4 D ct) (hw : WD D A H0 H locs ws) (q0 : Nat) {fs : List Value} {v : Value} (he : ws[q0]? = some (a, .inr (4, fs))) (hn : narrow (.int) v = v) (hfit : fits (.int) v = true) (hl : 3 < fs.length) (hdg : decode cc pc = .ok (.putfield 21, 3)) (w1 : va_W) (h1 : ws.set q0 (a, .inr (4, fs.set 3 v)) = w1) (kk : ∀ (H1 : Heap) (locs1 : List Loc), WD D A H0 H1 locs1 w1 → W p l e R s m args below meth c H1 locs1 cells slots Q (F0 m (pc + 3) ls rest)) : W p l e R s m args below meth c H locs cells slots Q (F0 m pc ls (v :: .ref a :: rest)) :=
  k_put (k := 3) X inT4 tyX4_ok nmX4 wd_192 rfl (by decide) rfl rfl (by decide +kernel) hw q0 he hn hfit hl hdg w1 h1 kk
theorem fg_193 {a : Nat} (X : CX p m c cc nL s args RX9 D ct) (hw : WD D A H0 H locs ws) (q0 : Nat) {fs : List Value} {v : Value} (he : ws[q0]? = some (a, .inr (4, fs))) (hv : fs[3]? = some v) (hdg : decode cc pc = .ok (.getfield 90, 3)) (kk : W p l e R s m args below meth c H locs cells slots Q (F0 m (pc + 3) ls (v :: rest))) : W p l e R s m args below meth c H locs cells slots Q (F0 m pc ls (.ref a :: rest)) :=
  k_get (k := 3) X inT4 wd_193 rfl (by decide) rfl hw q0 he hv hdg kk
theorem fp_193 {a : Nat} (X : CX p m c cc nL s args RX9 D ct) (hw : WD D A H0 H locs ws) (q0 : Nat) {fs : List Value} {v : Value} (he : ws[q0]? = some (a, .inr (4, fs))) (hn : narrow (.int) v = v) (hfit : fits (.int) v = true) (hl : 3 < fs.length) (hdg : decode cc pc = .ok (.putfield 90, 3)) (w1 : va_W) (h1 : ws.set q0 (a, .inr (4, fs.set 3 v)) = w1) (kk : ∀ (H1 : Heap) (locs1 : List Loc), WD D A H0 H1 locs1 w1 → W p l e R s m args below meth c H1 locs1 cells slots Q (F0 m (pc + 3) ls rest)) : W p l e R s m args below meth c H locs cells slots Q (F0 m pc ls (v :: .ref a :: rest)) :=
  k_put (k := 3) X inT4 tyX4_ok nmX4 wd_193 rfl (by decide) rfl rfl (by decide +kernel) hw q0 he hn hfit hl hdg w1 h1 kk
theorem fg_194 {a : Nat} (X : CX p m c cc nL s args RX0 D ct) (hw : WD D A H0 H locs ws) (q0 : Nat) {fs : List Value} {v : Value} (he : ws[q0]? = some (a, .inr (4, fs))) (hv : fs[3]? = some v) (hdg : decode cc pc = .ok (.getfield 101, 3)) (kk : W p l e R s m args below meth c H locs cells slots Q (F0 m (pc + 3) ls (v :: rest))) : W p l e R s m args below meth c H locs cells slots Q (F0 m pc ls (.ref a :: rest)) :=
  k_get (k := 3) X inT4 wd_194 rfl (by decide) rfl hw q0 he hv hdg kk
theorem fp_194 {a : Nat} (X : CX p m c cc nL s args RX0 D ct) (hw : WD D A H0 H locs ws) (q0 : Nat) {fs : List Value} {v : Value} (he : ws[q0]? = some (a, .inr (4, fs))) (hn : narrow (.int) v = v) (hfit : fits (.int) v = true) (hl : 3 < fs.length) (hdg : decode cc pc = .ok (.putfield 101, 3)) (w1 : va_W) (h1 : ws.set q0 (a, .inr (4, fs.set 3 v)) = w1) (kk : ∀ (H1 : Heap) (locs1 : List Loc), WD D A H0 H1 locs1 w1 → W p l e R s m args below meth c H1 locs1 cells slots Q (F0 m (pc + 3) ls rest)) : W p l e R s m args below meth c H locs cells slots Q (F0 m pc ls (v :: .ref a :: rest)) :=
  k_put (k := 3) X inT4 tyX4_ok nmX4 wd_194 rfl (by decide) rfl rfl (by decide +kernel) hw q0 he hn hfit hl hdg w1 h1 kk
theorem fg_195 {a : Nat} (X : CX p m c cc nL s args RX7 D ct) (hw : WD D A H0 H locs ws) (q0 : Nat) {fs : List Value} {v : Value} (he : ws[q0]? = some (a, .inr (4, fs))) (hv : fs[3]? = some v) (hdg : decode cc pc = .ok (.getfield 152, 3)) (kk : W p l e R s m args below meth c H locs cells slots Q (F0 m (pc + 3) ls (v :: rest))) : W p l e R s m args below meth c H locs cells slots Q (F0 m pc ls (.ref a :: rest)) :=
  k_get (k := 3) X inT4 wd_195 rfl (by decide) rfl hw q0 he hv hdg kk
theorem fp_195 {a : Nat} (X : CX p m c cc nL s args RX7 D ct) (hw : WD D A H0 H locs ws) (q0 : Nat) {fs : List Value} {v : Value} (he : ws[q0]? = some (a, .inr (4, fs))) (hn : narrow (.int) v = v) (hfit : fits (.int) v = true) (hl : 3 < fs.length) (hdg : decode cc pc = .ok (.putfield 152, 3)) (w1 : va_W) (h1 : ws.set q0 (a, .inr (4, fs.set 3 v)) = w1) (kk : ∀ (H1 : Heap) (locs1 : List Loc), WD D A H0 H1 locs1 w1 → W p l e R s m args below meth c H1 locs1 cells slots Q (F0 m (pc + 3) ls rest)) : W p l e R s m args below meth c H locs cells slots Q (F0 m pc ls (v :: .ref a :: rest)) :=
  k_put (k := 3) X inT4 tyX4_ok nmX4 wd_195 rfl (by decide) rfl rfl (by decide +kernel) hw q0 he hn hfit hl hdg w1 h1 kk
theorem fg_196 {a : Nat} (X : CX p m c cc nL s args RX11 D ct) (hw : WD D A H0 H locs ws) (q0 : Nat) {fs : List Value} {v : Value} (he : ws[q0]? = some (a, .inr (4, fs))) (hv : fs[3]? = some v) (hdg : decode cc pc = .ok (.getfield 257, 3)) (kk : W p l e R s m args below meth c H locs cells slots Q (F0 m (pc + 3) ls (v :: rest))) : W p l e R s m args below meth c H locs cells slots Q (F0 m pc ls (.ref a :: rest)) :=
  k_get (k := 3) X inT4 wd_196 rfl (by decide) rfl hw q0 he hv hdg kk
theorem fp_196 {a : Nat} (X : CX p m c cc nL s args RX11 D ct) (hw : WD D A H0 H locs ws) (q0 : Nat) {fs : List Value} {v : Value} (he : ws[q0]? = some (a, .inr (4, fs))) (hn : narrow (.int) v = v) (hfit : fits (.int) v = true) (hl : 3 < fs.length) (hdg : decode cc pc = .ok (.putfield 257, 3)) (w1 : va_W) (h1 : ws.set q0 (a, .inr (4, fs.set 3 v)) = w1) (kk : ∀ (H1 : Heap) (locs1 : List Loc), WD D A H0 H1 locs1 w1 → W p l e R s m args below meth c H1 locs1 cells slots Q (F0 m (pc + 3) ls rest)) : W p l e R s m args below meth c H locs cells slots Q (F0 m pc ls (v :: .ref a :: rest)) :=
  k_put (k := 3) X inT4 tyX4_ok nmX4 wd_196 rfl (by decide) rfl rfl (by decide +kernel) hw q0 he hn hfit hl hdg w1 h1 kk
theorem fg_208 {a : Nat} (X : CX p m c cc nL s args RX2 D ct) (hw : WD D A H0 H locs ws) (q0 : Nat) {fs : List Value} {v : Value} (he : ws[q0]? = some (a, .inr (2, fs))) (hv : fs[0]? = some v) (hdg : decode cc pc = .ok (.getfield 9, 3)) (kk : W p l e R s m args below meth c H locs cells slots Q (F0 m (pc + 3) ls (v :: rest))) : W p l e R s m args below meth c H locs cells slots Q (F0 m pc ls (.ref a :: rest)) :=
  k_get (k := 0) X inT2 wd_208 rfl (by decide) rfl hw q0 he hv hdg kk
theorem fp_208 {a : Nat} (X : CX p m c cc nL s args RX2 D ct) (hw : WD D A H0 H locs ws) (q0 : Nat) {fs : List Value} {v : Value} (he : ws[q0]? = some (a, .inr (2, fs))) (hn : narrow (.int) v = v) (hfit : fits (.int) v = true) (hl : 0 < fs.length) (hdg : decode cc pc = .ok (.putfield 9, 3)) (w1 : va_W) (h1 : ws.set q0 (a, .inr (2, fs.set 0 v)) = w1) (kk : ∀ (H1 : Heap) (locs1 : List Loc), WD D A H0 H1 locs1 w1 → W p l e R s m args below meth c H1 locs1 cells slots Q (F0 m (pc + 3) ls rest)) : W p l e R s m args below meth c H locs cells slots Q (F0 m pc ls (v :: .ref a :: rest)) :=
  k_put (k := 0) X inT2 tyX2_ok nmX2 wd_208 rfl (by decide) rfl rfl (by decide +kernel) hw q0 he hn hfit hl hdg w1 h1 kk
theorem fg_209 {a : Nat} (X : CX p m c cc nL s args RX7 D ct) (hw : WD D A H0 H locs ws) (q0 : Nat) {fs : List Value} {v : Value} (he : ws[q0]? = some (a, .inr (2, fs))) (hv : fs[0]? = some v) (hdg : decode cc pc = .ok (.getfield 82, 3)) (kk : W p l e R s m args below meth c H locs cells slots Q (F0 m (pc + 3) ls (v :: rest))) : W p l e R s m args below meth c H locs cells slots Q (F0 m pc ls (.ref a :: rest)) :=
  k_get (k := 0) X inT2 wd_209 rfl (by decide) rfl hw q0 he hv hdg kk
theorem fp_209 {a : Nat} (X : CX p m c cc nL s args RX7 D ct) (hw : WD D A H0 H locs ws) (q0 : Nat) {fs : List Value} {v : Value} (he : ws[q0]? = some (a, .inr (2, fs))) (hn : narrow (.int) v = v) (hfit : fits (.int) v = true) (hl : 0 < fs.length) (hdg : decode cc pc = .ok (.putfield 82, 3)) (w1 : va_W) (h1 : ws.set q0 (a, .inr (2, fs.set 0 v)) = w1) (kk : ∀ (H1 : Heap) (locs1 : List Loc), WD D A H0 H1 locs1 w1 → W p l e R s m args below meth c H1 locs1 cells slots Q (F0 m (pc + 3) ls rest)) : W p l e R s m args below meth c H locs cells slots Q (F0 m pc ls (v :: .ref a :: rest)) :=
  k_put (k := 0) X inT2 tyX2_ok nmX2 wd_209 rfl (by decide) rfl rfl (by decide +kernel) hw q0 he hn hfit hl hdg w1 h1 kk
theorem fg_210 {a : Nat} (X : CX p m c cc nL s args RX11 D ct) (hw : WD D A H0 H locs ws) (q0 : Nat) {fs : List Value} {v : Value} (he : ws[q0]? = some (a, .inr (2, fs))) (hv : fs[0]? = some v) (hdg : decode cc pc = .ok (.getfield 137, 3)) (kk : W p l e R s m args below meth c H locs cells slots Q (F0 m (pc + 3) ls (v :: rest))) : W p l e R s m args below meth c H locs cells slots Q (F0 m pc ls (.ref a :: rest)) :=
  k_get (k := 0) X inT2 wd_210 rfl (by decide) rfl hw q0 he hv hdg kk
theorem fp_210 {a : Nat} (X : CX p m c cc nL s args RX11 D ct) (hw : WD D A H0 H locs ws) (q0 : Nat) {fs : List Value} {v : Value} (he : ws[q0]? = some (a, .inr (2, fs))) (hn : narrow (.int) v = v) (hfit : fits (.int) v = true) (hl : 0 < fs.length) (hdg : decode cc pc = .ok (.putfield 137, 3)) (w1 : va_W) (h1 : ws.set q0 (a, .inr (2, fs.set 0 v)) = w1) (kk : ∀ (H1 : Heap) (locs1 : List Loc), WD D A H0 H1 locs1 w1 → W p l e R s m args below meth c H1 locs1 cells slots Q (F0 m (pc + 3) ls rest)) : W p l e R s m args below meth c H locs cells slots Q (F0 m pc ls (v :: .ref a :: rest)) :=
  k_put (k := 0) X inT2 tyX2_ok nmX2 wd_210 rfl (by decide) rfl rfl (by decide +kernel) hw q0 he hn hfit hl hdg w1 h1 kk
theorem fg_211 {a : Nat} (X : CX p m c cc nL s args RX2 D ct) (hw : WD D A H0 H locs ws) (q0 : Nat) {fs : List Value} {v : Value} (he : ws[q0]? = some (a, .inr (2, fs))) (hv : fs[1]? = some v) (hdg : decode cc pc = .ok (.getfield 15, 3)) (kk : W p l e R s m args below meth c H locs cells slots Q (F0 m (pc + 3) ls (v :: rest))) : W p l e R s m args below meth c H locs cells slots Q (F0 m pc ls (.ref a :: rest)) :=
  k_get (k := 1) X inT2 wd_211 rfl (by decide) rfl hw q0 he hv hdg kk
theorem fp_211 {a : Nat} (X : CX p m c cc nL s args RX2 D ct) (hw : WD D A H0 H locs ws) (q0 : Nat) {fs : List Value} {v : Value} (he : ws[q0]? = some (a, .inr (2, fs))) (hn : narrow (.int) v = v) (hfit : fits (.int) v = true) (hl : 1 < fs.length) (hdg : decode cc pc = .ok (.putfield 15, 3)) (w1 : va_W) (h1 : ws.set q0 (a, .inr (2, fs.set 1 v)) = w1) (kk : ∀ (H1 : Heap) (locs1 : List Loc), WD D A H0 H1 locs1 w1 → W p l e R s m args below meth c H1 locs1 cells slots Q (F0 m (pc + 3) ls rest)) : W p l e R s m args below meth c H locs cells slots Q (F0 m pc ls (v :: .ref a :: rest)) :=
  k_put (k := 1) X inT2 tyX2_ok nmX2 wd_211 rfl (by decide) rfl rfl (by decide +kernel) hw q0 he hn hfit hl hdg w1 h1 kk
theorem fg_212 {a : Nat} (X : CX p m c cc nL s args RX6 D ct) (hw : WD D A H0 H locs ws) (q0 : Nat) {fs : List Value} {v : Value} (he : ws[q0]? = some (a, .inr (2, fs))) (hv : fs[1]? = some v) (hdg : decode cc pc = .ok (.getfield 38, 3)) (kk : W p l e R s m args below meth c H locs cells slots Q (F0 m (pc + 3) ls (v :: rest))) : W p l e R s m args below meth c H locs cells slots Q (F0 m pc ls (.ref a :: rest)) :=
  k_get (k := 1) X inT2 wd_212 rfl (by decide) rfl hw q0 he hv hdg kk
theorem fp_212 {a : Nat} (X : CX p m c cc nL s args RX6 D ct) (hw : WD D A H0 H locs ws) (q0 : Nat) {fs : List Value} {v : Value} (he : ws[q0]? = some (a, .inr (2, fs))) (hn : narrow (.int) v = v) (hfit : fits (.int) v = true) (hl : 1 < fs.length) (hdg : decode cc pc = .ok (.putfield 38, 3)) (w1 : va_W) (h1 : ws.set q0 (a, .inr (2, fs.set 1 v)) = w1) (kk : ∀ (H1 : Heap) (locs1 : List Loc), WD D A H0 H1 locs1 w1 → W p l e R s m args below meth c H1 locs1 cells slots Q (F0 m (pc + 3) ls rest)) : W p l e R s m args below meth c H locs cells slots Q (F0 m pc ls (v :: .ref a :: rest)) :=
  k_put (k := 1) X inT2 tyX2_ok nmX2 wd_212 rfl (by decide) rfl rfl (by decide +kernel) hw q0 he hn hfit hl hdg w1 h1 kk
theorem fg_213 {a : Nat} (X : CX p m c cc nL s args RX0 D ct) (hw : WD D A H0 H locs ws) (q0 : Nat) {fs : List Value} {v : Value} (he : ws[q0]? = some (a, .inr (2, fs))) (hv : fs[1]? = some v) (hdg : decode cc pc = .ok (.getfield 50, 3)) (kk : W p l e R s m args below meth c H locs cells slots Q (F0 m (pc + 3) ls (v :: rest))) : W p l e R s m args below meth c H locs cells slots Q (F0 m pc ls (.ref a :: rest)) :=
  k_get (k := 1) X inT2 wd_213 rfl (by decide) rfl hw q0 he hv hdg kk
theorem fp_213 {a : Nat} (X : CX p m c cc nL s args RX0 D ct) (hw : WD D A H0 H locs ws) (q0 : Nat) {fs : List Value} {v : Value} (he : ws[q0]? = some (a, .inr (2, fs))) (hn : narrow (.int) v = v) (hfit : fits (.int) v = true) (hl : 1 < fs.length) (hdg : decode cc pc = .ok (.putfield 50, 3)) (w1 : va_W) (h1 : ws.set q0 (a, .inr (2, fs.set 1 v)) = w1) (kk : ∀ (H1 : Heap) (locs1 : List Loc), WD D A H0 H1 locs1 w1 → W p l e R s m args below meth c H1 locs1 cells slots Q (F0 m (pc + 3) ls rest)) : W p l e R s m args below meth c H locs cells slots Q (F0 m pc ls (v :: .ref a :: rest)) :=
  k_put (k := 1) X inT2 tyX2_ok nmX2 wd_213 rfl (by decide) rfl rfl (by decide +kernel) hw q0 he hn hfit hl hdg w1 h1 kk
theorem fg_214 {a : Nat} (X : CX p m c cc nL s args RX9 D ct) (hw : WD D A H0 H locs ws) (q0 : Nat) {fs : List Value} {v : Value} (he : ws[q0]? = some (a, .inr (2, fs))) (hv : fs[1]? = some v) (hdg : decode cc pc = .ok (.getfield 42, 3)) (kk : W p l e R s m args below meth c H locs cells slots Q (F0 m (pc + 3) ls (v :: rest))) : W p l e R s m args below meth c H locs cells slots Q (F0 m pc ls (.ref a :: rest)) :=
  k_get (k := 1) X inT2 wd_214 rfl (by decide) rfl hw q0 he hv hdg kk
theorem fp_214 {a : Nat} (X : CX p m c cc nL s args RX9 D ct) (hw : WD D A H0 H locs ws) (q0 : Nat) {fs : List Value} {v : Value} (he : ws[q0]? = some (a, .inr (2, fs))) (hn : narrow (.int) v = v) (hfit : fits (.int) v = true) (hl : 1 < fs.length) (hdg : decode cc pc = .ok (.putfield 42, 3)) (w1 : va_W) (h1 : ws.set q0 (a, .inr (2, fs.set 1 v)) = w1) (kk : ∀ (H1 : Heap) (locs1 : List Loc), WD D A H0 H1 locs1 w1 → W p l e R s m args below meth c H1 locs1 cells slots Q (F0 m (pc + 3) ls rest)) : W p l e R s m args below meth c H locs cells slots Q (F0 m pc ls (v :: .ref a :: rest)) :=
  k_put (k := 1) X inT2 tyX2_ok nmX2 wd_214 rfl (by decide) rfl rfl (by decide +kernel) hw q0 he hn hfit hl hdg w1 h1 kk
theorem fg_215 {a : Nat} (X : CX p m c cc nL s args RX7 D ct) (hw : WD D A H0 H locs ws) (q0 : Nat) {fs : List Value} {v : Value} (he : ws[q0]? = some (a, .inr (2, fs))) (hv : fs[1]? = some v) (hdg : decode cc pc = .ok (.getfield 85, 3)) (kk : W p l e R s m args below meth c H locs cells slots Q (F0 m (pc + 3) ls (v :: rest))) : W p l e R s m args below meth c H locs cells slots Q (F0 m pc ls (.ref a :: rest)) :=
  k_get (k := 1) X inT2 wd_215 rfl (by decide) rfl hw q0 he hv hdg kk
theorem fp_215 {a : Nat} (X : CX p m c cc nL s args RX7 D ct) (hw : WD D A H0 H locs ws) (q0 : Nat) {fs : List Value} {v : Value} (he : ws[q0]? = some (a, .inr (2, fs))) (hn : narrow (.int) v = v) (hfit : fits (.int) v = true) (hl : 1 < fs.length) (hdg : decode cc pc = .ok (.putfield 85, 3)) (w1 : va_W) (h1 : ws.set q0 (a, .inr (2, fs.set 1 v)) = w1) (kk : ∀ (H1 : Heap) (locs1 : List Loc), WD D A H0 H1 locs1 w1 → W p l e R s m args below meth c H1 locs1 cells slots Q (F0 m (pc + 3) ls rest)) : W p l e R s m args below meth c H locs cells slots Q (F0 m pc ls (v :: .ref a :: rest)) :=
  k_put (k := 1) X inT2 tyX2_ok nmX2 wd_215 rfl (by decide) rfl rfl (by decide +kernel) hw q0 he hn hfit hl hdg w1 h1 kk
theorem fg_216 {a : Nat} (X : CX p m c cc nL s args RX8 D ct) (hw : WD D A H0 H locs ws) (q0 : Nat) {fs : List Value} {v : Value} (he : ws[q0]? = some (a, .inr (2, fs))) (hv : fs[1]? = some v) (hdg : decode cc pc = .ok (.getfield 56, 3)) (kk : W p l e R s m args below meth c H locs cells slots Q (F0 m (pc + 3) ls (v :: rest))) : W p l e R s m args below meth c H locs cells slots Q (F0 m pc ls (.ref a :: rest)) :=
  k_get (k := 1) X inT2 wd_216 rfl (by decide) rfl hw q0 he hv hdg kk
theorem fp_216 {a : Nat} (X : CX p m c cc nL s args RX8 D ct) (hw : WD D A H0 H locs ws) (q0 : Nat) {fs : List Value} {v : Value} (he : ws[q0]? = some (a, .inr (2, fs))) (hn : narrow (.int) v = v) (hfit : fits (.int) v = true) (hl : 1 < fs.length) (hdg : decode cc pc = .ok (.putfield 56, 3)) (w1 : va_W) (h1 : ws.set q0 (a, .inr (2, fs.set 1 v)) = w1) (kk : ∀ (H1 : Heap) (locs1 : List Loc), WD D A H0 H1 locs1 w1 → W p l e R s m args below meth c H1 locs1 cells slots Q (F0 m (pc + 3) ls rest)) : W p l e R s m args below meth c H locs cells slots Q (F0 m pc ls (v :: .ref a :: rest)) :=
  k_put (k := 1) X inT2 tyX2_ok nmX2 wd_216 rfl (by decide) rfl rfl (by decide +kernel) hw q0 he hn hfit hl hdg w1 h1 kk
theorem fg_217 {a : Nat} (X : CX p m c cc nL s args RX11 D ct) (hw : WD D A H0 H locs ws) (q0 : Nat) {fs : List Value} {v : Value} (he : ws[q0]? = some (a, .inr (2, fs))) (hv : fs[1]? = some v) (hdg : decode cc pc = .ok (.getfield 187, 3)) (kk : W p l e R s m args below meth c H locs cells slots Q (F0 m (pc + 3) ls (v :: rest))) : W p l e R s m args below meth c H locs cells slots Q (F0 m pc ls (.ref a :: rest)) :=
  k_get (k := 1) X inT2 wd_217 rfl (by decide) rfl hw q0 he hv hdg kk
theorem fp_217 {a : Nat} (X : CX p m c cc nL s args RX11 D ct) (hw : WD D A H0 H locs ws) (q0 : Nat) {fs : List Value} {v : Value} (he : ws[q0]? = some (a, .inr (2, fs))) (hn : narrow (.int) v = v) (hfit : fits (.int) v = true) (hl : 1 < fs.length) (hdg : decode cc pc = .ok (.putfield 187, 3)) (w1 : va_W) (h1 : ws.set q0 (a, .inr (2, fs.set 1 v)) = w1) (kk : ∀ (H1 : Heap) (locs1 : List Loc), WD D A H0 H1 locs1 w1 → W p l e R s m args below meth c H1 locs1 cells slots Q (F0 m (pc + 3) ls rest)) : W p l e R s m args below meth c H locs cells slots Q (F0 m pc ls (v :: .ref a :: rest)) :=
  k_put (k := 1) X inT2 tyX2_ok nmX2 wd_217 rfl (by decide) rfl rfl (by decide +kernel) hw q0 he hn hfit hl hdg w1 h1 kk
theorem fg_218 {a : Nat} (X : CX p m c cc nL s args RX2 D ct) (hw : WD D A H0 H locs ws) (q0 : Nat) {fs : List Value} {v : Value} (he : ws[q0]? = some (a, .inr (2, fs))) (hv : fs[2]? = some v) (hdg : decode cc pc = .ok (.getfield 18, 3)) (kk : W p l e R s m args below meth c H locs cells slots Q (F0 m (pc + 3) ls (v :: rest))) : W p l e R s m args below meth c H locs cells slots Q (F0 m pc ls (.ref a :: rest)) :=
  k_get (k := 2) X inT2 wd_218 rfl (by decide) rfl hw q0 he hv hdg kk
theorem fp_218 {a : Nat} (X : CX p m c cc nL s args RX2 D ct) (hw : WD D A H0 H locs ws) (q0 : Nat) {fs : List Value} {v : Value} (he : ws[q0]? = some (a, .inr (2, fs))) (hn : narrow (.int) v = v) (hfit : fits (.int) v = true) (hl : 2 < fs.length) (hdg : decode cc pc = .ok (.putfield 18, 3)) (w1 : va_W) (h1 : ws.set q0 (a, .inr (2, fs.set 2 v)) = w1) (kk : ∀ (H1 : Heap) (locs1 : List Loc), WD D A H0 H1 locs1 w1 → W p l e R s m args below meth c H1 locs1 cells slots Q (F0 m (pc + 3) ls rest)) : W p l e R s m args below meth c H locs cells slots Q (F0 m pc ls (v :: .ref a :: rest)) :=
  k_put (k := 2) X inT2 tyX2_ok nmX2 wd_218 rfl (by decide) rfl rfl (by decide +kernel) hw q0 he hn hfit hl hdg w1 h1 kk
theorem fg_219 {a : Nat} (X : CX p m c cc nL s args RX0 D ct) (hw : WD D A H0 H locs ws) (q0 : Nat) {fs : List Value} {v : Value} (he : ws[q0]? = some (a, .inr (2, fs))) (hv : fs[2]? = some v) (hdg : decode cc pc = .ok (.getfield 45, 3)) (kk : W p l e R s m args below meth c H locs cells slots Q (F0 m (pc + 3) ls (v :: rest))) : W p l e R s m args below meth c H locs cells slots Q (F0 m pc ls (.ref a :: rest)) :=
  k_get (k := 2) X inT2 wd_219 rfl (by decide) rfl hw q0 he hv hdg kk
theorem fp_219 {a : Nat} (X : CX p m c cc nL s args RX0 D ct) (hw : WD D A H0 H locs ws) (q0 : Nat) {fs : List Value} {v : Value} (he : ws[q0]? = some (a, .inr (2, fs))) (hn : narrow (.int) v = v) (hfit : fits (.int) v = true) (hl : 2 < fs.length) (hdg : decode cc pc = .ok (.putfield 45, 3)) (w1 : va_W) (h1 : ws.set q0 (a, .inr (2, fs.set 2 v)) = w1) (kk : ∀ (H1 : Heap) (locs1 : List Loc), WD D A H0 H1 locs1 w1 → W p l e R s m args below meth c H1 locs1 cells slots Q (F0 m (pc + 3) ls rest)) : W p l e R s m args below meth c H locs cells slots Q (F0 m pc ls (v :: .ref a :: rest)) :=
  k_put (k := 2) X inT2 tyX2_ok nmX2 wd_219 rfl (by decide) rfl rfl (by decide +kernel) hw q0 he hn hfit hl hdg w1 h1 kk
theorem fg_220 {a : Nat} (X : CX p m c cc nL s args RX8 D ct) (hw : WD D A H0 H locs ws) (q0 : Nat) {fs : List Value} {v : Value} (he : ws[q0]? = some (a, .inr (2, fs))) (hv : fs[2]? = some v) (hdg : decode cc pc = .ok (.getfield 33, 3)) (kk : W p l e R s m args below meth c H locs cells slots Q (F0 m (pc + 3) ls (v :: rest))) : W p l e R s m args below meth c H locs cells slots Q (F0 m pc ls (.ref a :: rest)) :=
  k_get (k := 2) X inT2 wd_220 rfl (by decide) rfl hw q0 he hv hdg kk
theorem fp_220 {a : Nat} (X : CX p m c cc nL s args RX8 D ct) (hw : WD D A H0 H locs ws) (q0 : Nat) {fs : List Value} {v : Value} (he : ws[q0]? = some (a, .inr (2, fs))) (hn : narrow (.int) v = v) (hfit : fits (.int) v = true) (hl : 2 < fs.length) (hdg : decode cc pc = .ok (.putfield 33, 3)) (w1 : va_W) (h1 : ws.set q0 (a, .inr (2, fs.set 2 v)) = w1) (kk : ∀ (H1 : Heap) (locs1 : List Loc), WD D A H0 H1 locs1 w1 → W p l e R s m args below meth c H1 locs1 cells slots Q (F0 m (pc + 3) ls rest)) : W p l e R s m args below meth c H locs cells slots Q (F0 m pc ls (v :: .ref a :: rest)) :=
  k_put (k := 2) X inT2 tyX2_ok nmX2 wd_220 rfl (by decide) rfl rfl (by decide +kernel) hw q0 he hn hfit hl hdg w1 h1 kk
theorem fg_221 {a : Nat} (X : CX p m c cc nL s args RX9 D ct) (hw : WD D A H0 H locs ws) (q0 : Nat) {fs : List Value} {v : Value} (he : ws[q0]? = some (a, .inr (2, fs))) (hv : fs[2]? = some v) (hdg : decode cc pc = .ok (.getfield 39, 3)) (kk : W p l e R s m args below meth c H locs cells slots Q (F0 m (pc + 3) ls (v :: rest))) : W p l e R s m args below meth c H locs cells slots Q (F0 m pc ls (.ref a :: rest)) :=
  k_get (k := 2) X inT2 wd_221 rfl (by decide) rfl hw q0 he hv hdg kk
theorem fp_221 {a : Nat} (X : CX p m c cc nL s args RX9 D ct) (hw : WD D A H0 H locs ws) (q0 : Nat) {fs : List Value} {v : Value} (he : ws[q0]? = some (a, .inr (2, fs))) (hn : narrow (.int) v = v) (hfit : fits (.int) v = true) (hl : 2 < fs.length) (hdg : decode cc pc = .ok (.putfield 39, 3)) (w1 : va_W) (h1 : ws.set q0 (a, .inr (2, fs.set 2 v)) = w1) (kk : ∀ (H1 : Heap) (locs1 : List Loc), WD D A H0 H1 locs1 w1 → W p l e R s m args below meth c H1 locs1 cells slots Q (F0 m (pc + 3) ls rest)) : W p l e R s m args below meth c H locs cells slots Q (F0 m pc ls (v :: .ref a :: rest)) :=
  k_put (k := 2) X inT2 tyX2_ok nmX2 wd_221 rfl (by decide) rfl rfl (by decide +kernel) hw q0 he hn hfit hl hdg w1 h1 kk
theorem fg_222 {a : Nat} (X : CX p m c cc nL s args RX3 D ct) (hw : WD D A H0 H locs ws) (q0 : Nat) {fs : List Value} {v : Value} (he : ws[q0]? = some (a, .inr (2, fs))) (hv : fs[2]? = some v) (hdg : decode cc pc = .ok (.getfield 69, 3)) (kk : W p l e R s m args below meth c H locs cells slots Q (F0 m (pc + 3) ls (v :: rest))) : W p l e R s m args below meth c H locs cells slots Q (F0 m pc ls (.ref a :: rest)) :=
  k_get (k := 2) X inT2 wd_222 rfl (by decide) rfl hw q0 he hv hdg kk
theorem fp_222 {a : Nat} (X : CX p m c cc nL s args RX3 D ct) (hw : WD D A H0 H locs ws) (q0 : Nat) {fs : List Value} {v : Value} (he : ws[q0]? = some (a, .inr (2, fs))) (hn : narrow (.int) v = v) (hfit : fits (.int) v = true) (hl : 2 < fs.length) (hdg : decode cc pc = .ok (.putfield 69, 3)) (w1 : va_W) (h1 : ws.set q0 (a, .inr (2, fs.set 2 v)) = w1) (kk : ∀ (H1 : Heap) (locs1 : List Loc), WD D A H0 H1 locs1 w1 → W p l e R s m args below meth c H1 locs1 cells slots Q (F0 m (pc + 3) ls rest)) : W p l e R s m args below meth c H locs cells slots Q (F0 m pc ls (v :: .ref a :: rest)) :=
  k_put (k := 2) X inT2 tyX2_ok nmX2 wd_222 rfl (by decide) rfl rfl (by decide +kernel) hw q0 he hn hfit hl hdg w1 h1 kk
theorem fg_223 {a : Nat} (X : CX p m c cc nL s args RX7 D ct) (hw : WD D A H0 H locs ws) (q0 : Nat) {fs : List Value} {v : Value} (he : ws[q0]? = some (a, .inr (2, fs))) (hv : fs[2]? = some v) (hdg : decode cc pc = .ok (.getfield 118, 3)) (kk : W p l e R s m args below meth c H locs cells slots Q (F0 m (pc + 3) ls (v :: rest))) : W p l e R s m args below meth c H locs cells slots Q (F0 m pc ls (.ref a :: rest)) :=
  k_get (k := 2) X inT2 wd_223 rfl (by decide) rfl hw q0 he hv hdg kk
theorem fp_223 {a : Nat} (X : CX p m c cc nL s args RX7 D ct) (hw : WD D A H0 H locs ws) (q0 : Nat) {fs : List Value} {v : Value} (he : ws[q0]? = some (a, .inr (2, fs))) (hn : narrow (.int) v = v) (hfit : fits (.int) v = true) (hl : 2 < fs.length) (hdg : decode cc pc = .ok (.putfield 118, 3)) (w1 : va_W) (h1 : ws.set q0 (a, .inr (2, fs.set 2 v)) = w1) (kk : ∀ (H1 : Heap) (locs1 : List Loc), WD D A H0 H1 locs1 w1 → W p l e R s m args below meth c H1 locs1 cells slots Q (F0 m (pc + 3) ls rest)) : W p l e R s m args below meth c H locs cells slots Q (F0 m pc ls (v :: .ref a :: rest)) :=
  k_put (k := 2) X inT2 tyX2_ok nmX2 wd_223 rfl (by decide) rfl rfl (by decide +kernel) hw q0 he hn hfit hl hdg w1 h1 kk
theorem fg_224 {a : Nat} (X : CX p m c cc nL s args RX6 D ct) (hw : WD D A H0 H locs ws) (q0 : Nat) {fs : List Value} {v : Value} (he : ws[q0]? = some (a, .inr (2, fs))) (hv : fs[2]? = some v) (hdg : decode cc pc = .ok (.getfield 71, 3)) (kk : W p l e R s m args below meth c H locs cells slots Q (F0 m (pc + 3) ls (v :: rest))) : W p l e R s m args below meth c H locs cells slots Q (F0 m pc ls (.ref a :: rest)) :=
  k_get (k := 2) X inT2 wd_224 rfl (by decide) rfl hw q0 he hv hdg kk
theorem fp_224 {a : Nat} (X : CX p m c cc nL s args RX6 D ct) (hw : WD D A H0 H locs ws) (q0 : Nat) {fs : List Value} {v : Value} (he : ws[q0]? = some (a, .inr (2, fs))) (hn : narrow (.int) v = v) (hfit : fits (.int) v = true) (hl : 2 < fs.length) (hdg : decode cc pc = .ok (.putfield 71, 3)) (w1 : va_W) (h1 : ws.set q0 (a, .inr (2, fs.set 2 v)) = w1) (kk : ∀ (H1 : Heap) (locs1 : List Loc), WD D A H0 H1 locs1 w1 → W p l e R s m args below meth c H1 locs1 cells slots Q (F0 m (pc + 3) ls rest)) : W p l e R s m args below meth c H locs cells slots Q (F0 m pc ls (v :: .ref a :: rest)) :=
  k_put (k := 2) X inT2 tyX2_ok nmX2 wd_224 rfl (by decide) rfl rfl (by decide +kernel) hw q0 he hn hfit hl hdg w1 h1 kk
theorem fg_225 {a : Nat} (X : CX p m c cc nL s args RX11 D ct) (hw : WD D A H0 H locs ws) (q0 : Nat) {fs : List Value} {v : Value} (he : ws[q0]? = some (a, .inr (2, fs))) (hv : fs[2]? = some v) (hdg : decode cc pc = .ok (.getfield 190, 3)) (kk : W p l e R s m args below meth c H locs cells slots Q (F0 m (pc + 3) ls (v :: rest))) : W p l e R s m args below meth c H locs cells slots Q (F0 m pc ls (.ref a :: rest)) :=
  k_get (k := 2) X inT2 wd_225 rfl (by decide) rfl hw q0 he hv hdg kk
theorem fp_225 {a : Nat} (X : CX p m c cc nL s args RX11 D ct) (hw : WD D A H0 H locs ws) (q0 : Nat) {fs : List Value} {v : Value} (he : ws[q0]? = some (a, .inr (2, fs))) (hn : narrow (.int) v = v) (hfit : fits (.int) v = true) (hl : 2 < fs.length) (hdg : decode cc pc = .ok (.putfield 190, 3)) (w1 : va_W) (h1 : ws.set q0 (a, .inr (2, fs.set 2 v)) = w1) (kk : ∀ (H1 : Heap) (locs1 : List Loc), WD D A H0 H1 locs1 w1 → W p l e R s m args below meth c H1 locs1 cells slots Q (F0 m (pc + 3) ls rest)) : W p l e R s m args below meth c H locs cells slots Q (F0 m pc ls (v :: .ref a :: rest)) :=
  k_put (k := 2) X inT2 tyX2_ok nmX2 wd_225 rfl (by decide) rfl rfl (by decide +kernel) hw q0 he hn hfit hl hdg w1 h1 kk
theorem fg_226 {a : Nat} (X : CX p m c cc nL s args RX2 D ct) (hw : WD D A H0 H locs ws) (q0 : Nat) {fs : List Value} {v : Value} (he : ws[q0]? = some (a, .inr (2, fs))) (hv : fs[3]? = some v) (hdg : decode cc pc = .ok (.getfield 21, 3)) (kk : W p l e R s m args below meth c H locs cells slots Q (F0 m (pc + 3) ls (v :: rest))) : W p l e R s m args below meth c H locs cells slots Q (F0 m pc ls (.ref a :: rest)) :=
  k_get (k := 3) X inT2 wd_226 rfl (by decide) rfl hw q0 he hv hdg kk
theorem fp_226 {a : Nat} (X : CX p m c cc nL s args RX2 D ct) (hnam : meth.name = "<init>") (hw : WD D A H0 H locs ws) (q0 : Nat) {fs : List Value} {v : Value} (he : ws[q0]? = some (a, .inr (2, fs))) (hn : narrow (.array (.int)) v = v) (hfit : fits (.array (.int)) v = true) (hl : 3 < fs.length) (hdg : decode cc pc = .ok (.putfield 21, 3)) (w1 : va_W) (h1 : ws.set q0 (a, .inr (2, fs.set 3 v)) = w1) (kk : ∀ (H1 : Heap) (locs1 : List Loc), WD D A H0 H1 locs1 w1 → W p l e R s m args below meth c H1 locs1 cells slots Q (F0 m (pc + 3) ls rest)) : W p l e R s m args below meth c H locs cells slots Q (F0 m pc ls (v :: .ref a :: rest)) :=
  k_putF (k := 3) X inT2 tyX2_ok nmX2 wd_226 rfl (by decide) rfl rfl rfl (by decide +kernel) hnam hw q0 he hn hfit hl hdg w1 h1 kk
theorem fg_227 {a : Nat} (X : CX p m c cc nL s args RX7 D ct) (hw : WD D A H0 H locs ws) (q0 : Nat) {fs : List Value} {v : Value} (he : ws[q0]? = some (a, .inr (2, fs))) (hv : fs[3]? = some v) (hdg : decode cc pc = .ok (.getfield 102, 3)) (kk : W p l e R s m args below meth c H locs cells slots Q (F0 m (pc + 3) ls (v :: rest))) : W p l e R s m args below meth c H locs cells slots Q (F0 m pc ls (.ref a :: rest)) :=
  k_get (k := 3) X inT2 wd_227 rfl (by decide) rfl hw q0 he hv hdg kk
theorem fg_228 {a : Nat} (X : CX p m c cc nL s args RX2 D ct) (hw : WD D A H0 H locs ws) (q0 : Nat) {fs : List Value} {v : Value} (he : ws[q0]? = some (a, .inr (2, fs))) (hv : fs[4]? = some v) (hdg : decode cc pc = .ok (.getfield 25, 3)) (kk : W p l e R s m args below meth c H locs cells slots Q (F0 m (pc + 3) ls (v :: rest))) : W p l e R s m args below meth c H locs cells slots Q (F0 m pc ls (.ref a :: rest)) :=
  k_get (k := 4) X inT2 wd_228 rfl (by decide) rfl hw q0 he hv hdg kk
theorem fp_228 {a : Nat} (X : CX p m c cc nL s args RX2 D ct) (hnam : meth.name = "<init>") (hw : WD D A H0 H locs ws) (q0 : Nat) {fs : List Value} {v : Value} (he : ws[q0]? = some (a, .inr (2, fs))) (hn : narrow (.array (.int)) v = v) (hfit : fits (.array (.int)) v = true) (hl : 4 < fs.length) (hdg : decode cc pc = .ok (.putfield 25, 3)) (w1 : va_W) (h1 : ws.set q0 (a, .inr (2, fs.set 4 v)) = w1) (kk : ∀ (H1 : Heap) (locs1 : List Loc), WD D A H0 H1 locs1 w1 → W p l e R s m args below meth c H1 locs1 cells slots Q (F0 m (pc + 3) ls rest)) : W p l e R s m args below meth c H locs cells slots Q (F0 m pc ls (v :: .ref a :: rest)) :=
  k_putF (k := 4) X inT2 tyX2_ok nmX2 wd_228 rfl (by decide) rfl rfl rfl (by decide +kernel) hnam hw q0 he hn hfit hl hdg w1 h1 kk
theorem fg_229 {a : Nat} (X : CX p m c cc nL s args RX7 D ct) (hw : WD D A H0 H locs ws) (q0 : Nat) {fs : List Value} {v : Value} (he : ws[q0]? = some (a, .inr (2, fs))) (hv : fs[4]? = some v) (hdg : decode cc pc = .ok (.getfield 121, 3)) (kk : W p l e R s m args below meth c H locs cells slots Q (F0 m (pc + 3) ls (v :: rest))) : W p l e R s m args below meth c H locs cells slots Q (F0 m pc ls (.ref a :: rest)) :=
  k_get (k := 4) X inT2 wd_229 rfl (by decide) rfl hw q0 he hv hdg kk
theorem fg_230 {a : Nat} (X : CX p m c cc nL s args RX2 D ct) (hw : WD D A H0 H locs ws) (q0 : Nat) {fs : List Value} {v : Value} (he : ws[q0]? = some (a, .inr (2, fs))) (hv : fs[5]? = some v) (hdg : decode cc pc = .ok (.getfield 28, 3)) (kk : W p l e R s m args below meth c H locs cells slots Q (F0 m (pc + 3) ls (v :: rest))) : W p l e R s m args below meth c H locs cells slots Q (F0 m pc ls (.ref a :: rest)) :=
  k_get (k := 5) X inT2 wd_230 rfl (by decide) rfl hw q0 he hv hdg kk
theorem fp_230 {a : Nat} (X : CX p m c cc nL s args RX2 D ct) (hnam : meth.name = "<init>") (hw : WD D A H0 H locs ws) (q0 : Nat) {fs : List Value} {v : Value} (he : ws[q0]? = some (a, .inr (2, fs))) (hn : narrow (.array (.int)) v = v) (hfit : fits (.array (.int)) v = true) (hl : 5 < fs.length) (hdg : decode cc pc = .ok (.putfield 28, 3)) (w1 : va_W) (h1 : ws.set q0 (a, .inr (2, fs.set 5 v)) = w1) (kk : ∀ (H1 : Heap) (locs1 : List Loc), WD D A H0 H1 locs1 w1 → W p l e R s m args below meth c H1 locs1 cells slots Q (F0 m (pc + 3) ls rest)) : W p l e R s m args below meth c H locs cells slots Q (F0 m pc ls (v :: .ref a :: rest)) :=
  k_putF (k := 5) X inT2 tyX2_ok nmX2 wd_230 rfl (by decide) rfl rfl rfl (by decide +kernel) hnam hw q0 he hn hfit hl hdg w1 h1 kk
theorem fg_231 {a : Nat} (X : CX p m c cc nL s args RX9 D ct) (hw : WD D A H0 H locs ws) (q0 : Nat) {fs : List Value} {v : Value} (he : ws[q0]? = some (a, .inr (2, fs))) (hv : fs[5]? = some v) (hdg : decode cc pc = .ok (.getfield 93, 3)) (kk : W p l e R s m args below meth c H locs cells slots Q (F0 m (pc + 3) ls (v :: rest))) : W p l e R s m args below meth c H locs cells slots Q (F0 m pc ls (.ref a :: rest)) :=
  k_get (k := 5) X inT2 wd_231 rfl (by decide) rfl hw q0 he hv hdg kk
theorem fg_232 {a : Nat} (X : CX p m c cc nL s args RX7 D ct) (hw : WD D A H0 H locs ws) (q0 : Nat) {fs : List Value} {v : Value} (he : ws[q0]? = some (a, .inr (2, fs))) (hv : fs[5]? = some v) (hdg : decode cc pc = .ok (.getfield 170, 3)) (kk : W p l e R s m args below meth c H locs cells slots Q (F0 m (pc + 3) ls (v :: rest))) : W p l e R s m args below meth c H locs cells slots Q (F0 m pc ls (.ref a :: rest)) :=
  k_get (k := 5) X inT2 wd_232 rfl (by decide) rfl hw q0 he hv hdg kk
theorem fg_233 {a : Nat} (X : CX p m c cc nL s args RX2 D ct) (hw : WD D A H0 H locs ws) (q0 : Nat) {fs : List Value} {v : Value} (he : ws[q0]? = some (a, .inr (2, fs))) (hv : fs[6]? = some v) (hdg : decode cc pc = .ok (.getfield 31, 3)) (kk : W p l e R s m args below meth c H locs cells slots Q (F0 m (pc + 3) ls (v :: rest))) : W p l e R s m args below meth c H locs cells slots Q (F0 m pc ls (.ref a :: rest)) :=
  k_get (k := 6) X inT2 wd_233 rfl (by decide) rfl hw q0 he hv hdg kk
theorem fp_233 {a : Nat} (X : CX p m c cc nL s args RX2 D ct) (hw : WD D A H0 H locs ws) (q0 : Nat) {fs : List Value} {v : Value} (he : ws[q0]? = some (a, .inr (2, fs))) (hn : narrow (.int) v = v) (hfit : fits (.int) v = true) (hl : 6 < fs.length) (hdg : decode cc pc = .ok (.putfield 31, 3)) (w1 : va_W) (h1 : ws.set q0 (a, .inr (2, fs.set 6 v)) = w1) (kk : ∀ (H1 : Heap) (locs1 : List Loc), WD D A H0 H1 locs1 w1 → W p l e R s m args below meth c H1 locs1 cells slots Q (F0 m (pc + 3) ls rest)) : W p l e R s m args below meth c H locs cells slots Q (F0 m pc ls (v :: .ref a :: rest)) :=
  k_put (k := 6) X inT2 tyX2_ok nmX2 wd_233 rfl (by decide) rfl rfl (by decide +kernel) hw q0 he hn hfit hl hdg w1 h1 kk
theorem fg_234 {a : Nat} (X : CX p m c cc nL s args RX7 D ct) (hw : WD D A H0 H locs ws) (q0 : Nat) {fs : List Value} {v : Value} (he : ws[q0]? = some (a, .inr (2, fs))) (hv : fs[6]? = some v) (hdg : decode cc pc = .ok (.getfield 131, 3)) (kk : W p l e R s m args below meth c H locs cells slots Q (F0 m (pc + 3) ls (v :: rest))) : W p l e R s m args below meth c H locs cells slots Q (F0 m pc ls (.ref a :: rest)) :=
  k_get (k := 6) X inT2 wd_234 rfl (by decide) rfl hw q0 he hv hdg kk
theorem fp_234 {a : Nat} (X : CX p m c cc nL s args RX7 D ct) (hw : WD D A H0 H locs ws) (q0 : Nat) {fs : List Value} {v : Value} (he : ws[q0]? = some (a, .inr (2, fs))) (hn : narrow (.int) v = v) (hfit : fits (.int) v = true) (hl : 6 < fs.length) (hdg : decode cc pc = .ok (.putfield 131, 3)) (w1 : va_W) (h1 : ws.set q0 (a, .inr (2, fs.set 6 v)) = w1) (kk : ∀ (H1 : Heap) (locs1 : List Loc), WD D A H0 H1 locs1 w1 → W p l e R s m args below meth c H1 locs1 cells slots Q (F0 m (pc + 3) ls rest)) : W p l e R s m args below meth c H locs cells slots Q (F0 m pc ls (v :: .ref a :: rest)) :=
  k_put (k := 6) X inT2 tyX2_ok nmX2 wd_234 rfl (by decide) rfl rfl (by decide +kernel) hw q0 he hn hfit hl hdg w1 h1 kk
theorem fg_235 {a : Nat} (X : CX p m c cc nL s args RX2 D ct) (hw : WD D A H0 H locs ws) (q0 : Nat) {fs : List Value} {v : Value} (he : ws[q0]? = some (a, .inr (2, fs))) (hv : fs[7]? = some v) (hdg : decode cc pc = .ok (.getfield 34, 3)) (kk : W p l e R s m args below meth c H locs cells slots Q (F0 m (pc + 3) ls (v :: rest))) : W p l e R s m args below meth c H locs cells slots Q (F0 m pc ls (.ref a :: rest)) :=
  k_get (k := 7) X inT2 wd_235 rfl (by decide) rfl hw q0 he hv hdg kk
theorem fp_235 {a : Nat} (X : CX p m c cc nL s args RX2 D ct) (hw : WD D A H0 H locs ws) (q0 : Nat) {fs : List Value} {v : Value} (he : ws[q0]? = some (a, .inr (2, fs))) (hn : narrow (.int) v = v) (hfit : fits (.int) v = true) (hl : 7 < fs.length) (hdg : decode cc pc = .ok (.putfield 34, 3)) (w1 : va_W) (h1 : ws.set q0 (a, .inr (2, fs.set 7 v)) = w1) (kk : ∀ (H1 : Heap) (locs1 : List Loc), WD D A H0 H1 locs1 w1 → W p l e R s m args below meth c H1 locs1 cells slots Q (F0 m (pc + 3) ls rest)) : W p l e R s m args below meth c H locs cells slots Q (F0 m pc ls (v :: .ref a :: rest)) :=
  k_put (k := 7) X inT2 tyX2_ok nmX2 wd_235 rfl (by decide) rfl rfl (by decide +kernel) hw q0 he hn hfit hl hdg w1 h1 kk
theorem fg_236 {a : Nat} (X : CX p m c cc nL s args RX9 D ct) (hw : WD D A H0 H locs ws) (q0 : Nat) {fs : List Value} {v : Value} (he : ws[q0]? = some (a, .inr (2, fs))) (hv : fs[7]? = some v) (hdg : decode cc pc = .ok (.getfield 49, 3)) (kk : W p l e R s m args below meth c H locs cells slots Q (F0 m (pc + 3) ls (v :: rest))) : W p l e R s m args below meth c H locs cells slots Q (F0 m pc ls (.ref a :: rest)) :=
  k_get (k := 7) X inT2 wd_236 rfl (by decide) rfl hw q0 he hv hdg kk
theorem fp_236 {a : Nat} (X : CX p m c cc nL s args RX9 D ct) (hw : WD D A H0 H locs ws) (q0 : Nat) {fs : List Value} {v : Value} (he : ws[q0]? = some (a, .inr (2, fs))) (hn : narrow (.int) v = v) (hfit : fits (.int) v = true) (hl : 7 < fs.length) (hdg : decode cc pc = .ok (.putfield 49, 3)) (w1 : va_W) (h1 : ws.set q0 (a, .inr (2, fs.set 7 v)) = w1) (kk : ∀ (H1 : Heap) (locs1 : List Loc), WD D A H0 H1 locs1 w1 → W p l e R s m args below meth c H1 locs1 cells slots Q (F0 m (pc + 3) ls rest)) : W p l e R s m args below meth c H locs cells slots Q (F0 m pc ls (v :: .ref a :: rest)) :=
  k_put (k := 7) X inT2 tyX2_ok nmX2 wd_236 rfl (by decide) rfl rfl (by decide +kernel) hw q0 he hn hfit hl hdg w1 h1 kk
theorem fg_237 {a : Nat} (X : CX p m c cc nL s args RX7 D ct) (hw : WD D A H0 H locs ws) (q0 : Nat) {fs : List Value} {v : Value} (he : ws[q0]? = some (a, .inr (2, fs))) (hv : fs[7]? = some v) (hdg : decode cc pc = .ok (.getfield 137, 3)) (kk : W p l e R s m args below meth c H locs cells slots Q (F0 m (pc + 3) ls (v :: rest))) : W p l e R s m args below meth c H locs cells slots Q (F0 m pc ls (.ref a :: rest)) :=
  k_get (k := 7) X inT2 wd_237 rfl (by decide) rfl hw q0 he hv hdg kk
theorem fp_237 {a : Nat} (X : CX p m c cc nL s args RX7 D ct) (hw : WD D A H0 H locs ws) (q0 : Nat) {fs : List Value} {v : Value} (he : ws[q0]? = some (a, .inr (2, fs))) (hn : narrow (.int) v = v) (hfit : fits (.int) v = true) (hl : 7 < fs.length) (hdg : decode cc pc = .ok (.putfield 137, 3)) (w1 : va_W) (h1 : ws.set q0 (a, .inr (2, fs.set 7 v)) = w1) (kk : ∀ (H1 : Heap) (locs1 : List Loc), WD D A H0 H1 locs1 w1 → W p l e R s m args below meth c H1 locs1 cells slots Q (F0 m (pc + 3) ls rest)) : W p l e R s m args below meth c H locs cells slots Q (F0 m pc ls (v :: .ref a :: rest)) :=
  k_put (k := 7) X inT2 tyX2_ok nmX2 wd_237 rfl (by decide) rfl rfl (by decide +kernel) hw q0 he hn hfit hl hdg w1 h1 kk
theorem fg_238 {a : Nat} (X : CX p m c cc nL s args RX2 D ct) (hw : WD D A H0 H locs ws) (q0 : Nat) {fs : List Value} {v : Value} (he : ws[q0]? = some (a, .inr (2, fs))) (hv : fs[8]? = some v) (hdg : decode cc pc = .ok (.getfield 37, 3)) (kk : W p l e R s m args below meth c H locs cells slots Q (F0 m (pc + 3) ls (v :: rest))) : W p l e R s m args below meth c H locs cells slots Q (F0 m pc ls (.ref a :: rest)) :=
  k_get (k := 8) X inT2 wd_238 rfl (by decide) rfl hw q0 he hv hdg kk
theorem fp_238 {a : Nat} (X : CX p m c cc nL s args RX2 D ct) (hw : WD D A H0 H locs ws) (q0 : Nat) {fs : List Value} {v : Value} (he : ws[q0]? = some (a, .inr (2, fs))) (hn : narrow (.int) v = v) (hfit : fits (.int) v = true) (hl : 8 < fs.length) (hdg : decode cc pc = .ok (.putfield 37, 3)) (w1 : va_W) (h1 : ws.set q0 (a, .inr (2, fs.set 8 v)) = w1) (kk : ∀ (H1 : Heap) (locs1 : List Loc), WD D A H0 H1 locs1 w1 → W p l e R s m args below meth c H1 locs1 cells slots Q (F0 m (pc + 3) ls rest)) : W p l e R s m args below meth c H locs cells slots Q (F0 m pc ls (v :: .ref a :: rest)) :=
  k_put (k := 8) X inT2 tyX2_ok nmX2 wd_238 rfl (by decide) rfl rfl (by decide +kernel) hw q0 he hn hfit hl hdg w1 h1 kk
theorem fg_239 {a : Nat} (X : CX p m c cc nL s args RX9 D ct) (hw : WD D A H0 H locs ws) (q0 : Nat) {fs : List Value} {v : Value} (he : ws[q0]? = some (a, .inr (2, fs))) (hv : fs[8]? = some v) (hdg : decode cc pc = .ok (.getfield 52, 3)) (kk : W p l e R s m args below meth c H locs cells slots Q (F0 m (pc + 3) ls (v :: rest))) : W p l e R s m args below meth c H locs cells slots Q (F0 m pc ls (.ref a :: rest)) :=
  k_get (k := 8) X inT2 wd_239 rfl (by decide) rfl hw q0 he hv hdg kk
theorem fp_239 {a : Nat} (X : CX p m c cc nL s args RX9 D ct) (hw : WD D A H0 H locs ws) (q0 : Nat) {fs : List Value} {v : Value} (he : ws[q0]? = some (a, .inr (2, fs))) (hn : narrow (.int) v = v) (hfit : fits (.int) v = true) (hl : 8 < fs.length) (hdg : decode cc pc = .ok (.putfield 52, 3)) (w1 : va_W) (h1 : ws.set q0 (a, .inr (2, fs.set 8 v)) = w1) (kk : ∀ (H1 : Heap) (locs1 : List Loc), WD D A H0 H1 locs1 w1 → W p l e R s m args below meth c H1 locs1 cells slots Q (F0 m (pc + 3) ls rest)) : W p l e R s m args below meth c H locs cells slots Q (F0 m pc ls (v :: .ref a :: rest)) :=
  k_put (k := 8) X inT2 tyX2_ok nmX2 wd_239 rfl (by decide) rfl rfl (by decide +kernel) hw q0 he hn hfit hl hdg w1 h1 kk
theorem fg_240 {a : Nat} (X : CX p m c cc nL s args RX7 D ct) (hw : WD D A H0 H locs ws) (q0 : Nat) {fs : List Value} {v : Value} (he : ws[q0]? = some (a, .inr (2, fs))) (hv : fs[8]? = some v) (hdg : decode cc pc = .ok (.getfield 140, 3)) (kk : W p l e R s m args below meth c H locs cells slots Q (F0 m (pc + 3) ls (v :: rest))) : W p l e R s m args below meth c H locs cells slots Q (F0 m pc ls (.ref a :: rest)) :=
  k_get (k := 8) X inT2 wd_240 rfl (by decide) rfl hw q0 he hv hdg kk
theorem fp_240 {a : Nat} (X : CX p m c cc nL s args RX7 D ct) (hw : WD D A H0 H locs ws) (q0 : Nat) {fs : List Value} {v : Value} (he : ws[q0]? = some (a, .inr (2, fs))) (hn : narrow (.int) v = v) (hfit : fits (.int) v = true) (hl : 8 < fs.length) (hdg : decode cc pc = .ok (.putfield 140, 3)) (w1 : va_W) (h1 : ws.set q0 (a, .inr (2, fs.set 8 v)) = w1) (kk : ∀ (H1 : Heap) (locs1 : List Loc), WD D A H0 H1 locs1 w1 → W p l e R s m args below meth c H1 locs1 cells slots Q (F0 m (pc + 3) ls rest)) : W p l e R s m args below meth c H locs cells slots Q (F0 m pc ls (v :: .ref a :: rest)) :=
  k_put (k := 8) X inT2 tyX2_ok nmX2 wd_240 rfl (by decide) rfl rfl (by decide +kernel) hw q0 he hn hfit hl hdg w1 h1 kk
theorem fg_241 {a : Nat} (X : CX p m c cc nL s args RX2 D ct) (hw : WD D A H0 H locs ws) (q0 : Nat) {fs : List Value} {v : Value} (he : ws[q0]? = some (a, .inr (2, fs))) (hv : fs[9]? = some v) (hdg : decode cc pc = .ok (.getfield 40, 3)) (kk : W p l e R s m args below meth c H locs cells slots Q (F0 m (pc + 3) ls (v :: rest))) : W p l e R s m args below meth c H locs cells slots Q (F0 m pc ls (.ref a :: rest)) :=
  k_get (k := 9) X inT2 wd_241 rfl (by decide) rfl hw q0 he hv hdg kk
theorem fp_241 {a : Nat} (X : CX p m c cc nL s args RX2 D ct) (hw : WD D A H0 H locs ws) (q0 : Nat) {fs : List Value} {v : Value} (he : ws[q0]? = some (a, .inr (2, fs))) (hn : narrow (.int) v = v) (hfit : fits (.int) v = true) (hl : 9 < fs.length) (hdg : decode cc pc = .ok (.putfield 40, 3)) (w1 : va_W) (h1 : ws.set q0 (a, .inr (2, fs.set 9 v)) = w1) (kk : ∀ (H1 : Heap) (locs1 : List Loc), WD D A H0 H1 locs1 w1 → W p l e R s m args below meth c H1 locs1 cells slots Q (F0 m (pc + 3) ls rest)) : W p l e R s m args below meth c H locs cells slots Q (F0 m pc ls (v :: .ref a :: rest)) :=
  k_put (k := 9) X inT2 tyX2_ok nmX2 wd_241 rfl (by decide) rfl rfl (by decide +kernel) hw q0 he hn hfit hl hdg w1 h1 kk
theorem fg_242 {a : Nat} (X : CX p m c cc nL s args RX9 D ct) (hw : WD D A H0 H locs ws) (q0 : Nat) {fs : List Value} {v : Value} (he : ws[q0]? = some (a, .inr (2, fs))) (hv : fs[9]? = some v) (hdg : decode cc pc = .ok (.getfield 59, 3)) (kk : W p l e R s m args below meth c H locs cells slots Q (F0 m (pc + 3) ls (v :: rest))) : W p l e R s m args below meth c H locs cells slots Q (F0 m pc ls (.ref a :: rest)) :=
  k_get (k := 9) X inT2 wd_242 rfl (by decide) rfl hw q0 he hv hdg kk
theorem fp_242 {a : Nat} (X : CX p m c cc nL s args RX9 D ct) (hw : WD D A H0 H locs ws) (q0 : Nat) {fs : List Value} {v : Value} (he : ws[q0]? = some (a, .inr (2, fs))) (hn : narrow (.int) v = v) (hfit : fits (.int) v = true) (hl : 9 < fs.length) (hdg : decode cc pc = .ok (.putfield 59, 3)) (w1 : va_W) (h1 : ws.set q0 (a, .inr (2, fs.set 9 v)) = w1) (kk : ∀ (H1 : Heap) (locs1 : List Loc), WD D A H0 H1 locs1 w1 → W p l e R s m args below meth c H1 locs1 cells slots Q (F0 m (pc + 3) ls rest)) : W p l e R s m args below meth c H locs cells slots Q (F0 m pc ls (v :: .ref a :: rest)) :=
  k_put (k := 9) X inT2 tyX2_ok nmX2 wd_242 rfl (by decide) rfl rfl (by decide +kernel) hw q0 he hn hfit hl hdg w1 h1 kk
theorem fg_243 {a : Nat} (X : CX p m c cc nL s args RX7 D ct) (hw : WD D A H0 H locs ws) (q0 : Nat) {fs : List Value} {v : Value} (he : ws[q0]? = some (a, .inr (2, fs))) (hv : fs[9]? = some v) (hdg : decode cc pc = .ok (.getfield 146, 3)) (kk : W p l e R s m args below meth c H locs cells slots Q (F0 m (pc + 3) ls (v :: rest))) : W p l e R s m args below meth c H locs cells slots Q (F0 m pc ls (.ref a :: rest)) :=
  k_get (k := 9) X inT2 wd_243 rfl (by decide) rfl hw q0 he hv hdg kk
theorem fp_243 {a : Nat} (X : CX p m c cc nL s args RX7 D ct) (hw : WD D A H0 H locs ws) (q0 : Nat) {fs : List Value} {v : Value} (he : ws[q0]? = some (a, .inr (2, fs))) (hn : narrow (.int) v = v) (hfit : fits (.int) v = true) (hl : 9 < fs.length) (hdg : decode cc pc = .ok (.putfield 146, 3)) (w1 : va_W) (h1 : ws.set q0 (a, .inr (2, fs.set 9 v)) = w1) (kk : ∀ (H1 : Heap) (locs1 : List Loc), WD D A H0 H1 locs1 w1 → W p l e R s m args below meth c H1 locs1 cells slots Q (F0 m (pc + 3) ls rest)) : W p l e R s m args below meth c H locs cells slots Q (F0 m pc ls (v :: .ref a :: rest)) :=
  k_put (k := 9) X inT2 tyX2_ok nmX2 wd_243 rfl (by decide) rfl rfl (by decide +kernel) hw q0 he hn hfit hl hdg w1 h1 kk
theorem fg_244 {a : Nat} (X : CX p m c cc nL s args RX2 D ct) (hw : WD D A H0 H locs ws) (q0 : Nat) {fs : List Value} {v : Value} (he : ws[q0]? = some (a, .inr (2, fs))) (hv : fs[10]? = some v) (hdg : decode cc pc = .ok (.getfield 43, 3)) (kk : W p l e R s m args below meth c H locs cells slots Q (F0 m (pc + 3) ls (v :: rest))) : W p l e R s m args below meth c H locs cells slots Q (F0 m pc ls (.ref a :: rest)) :=
  k_get (k := 10) X inT2 wd_244 rfl (by decide) rfl hw q0 he hv hdg kk
theorem fp_244 {a : Nat} (X : CX p m c cc nL s args RX2 D ct) (hw : WD D A H0 H locs ws) (q0 : Nat) {fs : List Value} {v : Value} (he : ws[q0]? = some (a, .inr (2, fs))) (hn : narrow (.int) v = v) (hfit : fits (.int) v = true) (hl : 10 < fs.length) (hdg : decode cc pc = .ok (.putfield 43, 3)) (w1 : va_W) (h1 : ws.set q0 (a, .inr (2, fs.set 10 v)) = w1) (kk : ∀ (H1 : Heap) (locs1 : List Loc), WD D A H0 H1 locs1 w1 → W p l e R s m args below meth c H1 locs1 cells slots Q (F0 m (pc + 3) ls rest)) : W p l e R s m args below meth c H locs cells slots Q (F0 m pc ls (v :: .ref a :: rest)) :=
  k_put (k := 10) X inT2 tyX2_ok nmX2 wd_244 rfl (by decide) rfl rfl (by decide +kernel) hw q0 he hn hfit hl hdg w1 h1 kk
theorem fg_245 {a : Nat} (X : CX p m c cc nL s args RX9 D ct) (hw : WD D A H0 H locs ws) (q0 : Nat) {fs : List Value} {v : Value} (he : ws[q0]? = some (a, .inr (2, fs))) (hv : fs[10]? = some v) (hdg : decode cc pc = .ok (.getfield 62, 3)) (kk : W p l e R s m args below meth c H locs cells slots Q (F0 m (pc + 3) ls (v :: rest))) : W p l e R s m args below meth c H locs cells slots Q (F0 m pc ls (.ref a :: rest)) :=
  k_get (k := 10) X inT2 wd_245 rfl (by decide) rfl hw q0 he hv hdg kk
theorem fp_245 {a : Nat} (X : CX p m c cc nL s args RX9 D ct) (hw : WD D A H0 H locs ws) (q0 : Nat) {fs : List Value} {v : Value} (he : ws[q0]? = some (a, .inr (2, fs))) (hn : narrow (.int) v = v) (hfit : fits (.int) v = true) (hl : 10 < fs.length) (hdg : decode cc pc = .ok (.putfield 62, 3)) (w1 : va_W) (h1 : ws.set q0 (a, .inr (2, fs.set 10 v)) = w1) (kk : ∀ (H1 : Heap) (locs1 : List Loc), WD D A H0 H1 locs1 w1 → W p l e R s m args below meth c H1 locs1 cells slots Q (F0 m (pc + 3) ls rest)) : W p l e R s m args below meth c H locs cells slots Q (F0 m pc ls (v :: .ref a :: rest)) :=
  k_put (k := 10) X inT2 tyX2_ok nmX2 wd_245 rfl (by decide) rfl rfl (by decide +kernel) hw q0 he hn hfit hl hdg w1 h1 kk
theorem fg_246 {a : Nat} (X : CX p m c cc nL s args RX7 D ct) (hw : WD D A H0 H locs ws) (q0 : Nat) {fs : List Value} {v : Value} (he : ws[q0]? = some (a, .inr (2, fs))) (hv : fs[10]? = some v) (hdg : decode cc pc = .ok (.getfield 149, 3)) (kk : W p l e R s m args below meth c H locs cells slots Q (F0 m (pc + 3) ls (v :: rest))) : W p l e R s m args below meth c H locs cells slots Q (F0 m pc ls (.ref a :: rest)) :=
  k_get (k := 10) X inT2 wd_246 rfl (by decide) rfl hw q0 he hv hdg kk
theorem fp_246 {a : Nat} (X : CX p m c cc nL s args RX7 D ct) (hw : WD D A H0 H locs ws) (q0 : Nat) {fs : List Value} {v : Value} (he : ws[q0]? = some (a, .inr (2, fs))) (hn : narrow (.int) v = v) (hfit : fits (.int) v = true) (hl : 10 < fs.length) (hdg : decode cc pc = .ok (.putfield 149, 3)) (w1 : va_W) (h1 : ws.set q0 (a, .inr (2, fs.set 10 v)) = w1) (kk : ∀ (H1 : Heap) (locs1 : List Loc), WD D A H0 H1 locs1 w1 → W p l e R s m args below meth c H1 locs1 cells slots Q (F0 m (pc + 3) ls rest)) : W p l e R s m args below meth c H locs cells slots Q (F0 m pc ls (v :: .ref a :: rest)) :=
  k_put (k := 10) X inT2 tyX2_ok nmX2 wd_246 rfl (by decide) rfl rfl (by decide +kernel) hw q0 he hn hfit hl hdg w1 h1 kk
theorem fg_247 {a : Nat} (X : CX p m c cc nL s args RX2 D ct) (hw : WD D A H0 H locs ws) (q0 : Nat) {fs : List Value} {v : Value} (he : ws[q0]? = some (a, .inr (2, fs))) (hv : fs[11]? = some v) (hdg : decode cc pc = .ok (.getfield 49, 3)) (kk : W p l e R s m args below meth c H locs cells slots Q (F0 m (pc + 3) ls (v :: rest))) : W p l e R s m args below meth c H locs cells slots Q (F0 m pc ls (.ref a :: rest)) :=
  k_get (k := 11) X inT2 wd_247 rfl (by decide) rfl hw q0 he hv hdg kk
theorem fp_247 {a : Nat} (X : CX p m c cc nL s args RX2 D ct) (hnam : meth.name = "<init>") (hw : WD D A H0 H locs ws) (q0 : Nat) {fs : List Value} {v : Value} (he : ws[q0]? = some (a, .inr (2, fs))) (hn : narrow (.object "FloorsByLot$Living") v = v) (hfit : fits (.object "FloorsByLot$Living") v = true) (hl : 11 < fs.length) (hdg : decode cc pc = .ok (.putfield 49, 3)) (w1 : va_W) (h1 : ws.set q0 (a, .inr (2, fs.set 11 v)) = w1) (kk : ∀ (H1 : Heap) (locs1 : List Loc), WD D A H0 H1 locs1 w1 → W p l e R s m args below meth c H1 locs1 cells slots Q (F0 m (pc + 3) ls rest)) : W p l e R s m args below meth c H locs cells slots Q (F0 m pc ls (v :: .ref a :: rest)) :=
  k_putF (k := 11) X inT2 tyX2_ok nmX2 wd_247 rfl (by decide) rfl rfl rfl (by decide +kernel) hnam hw q0 he hn hfit hl hdg w1 h1 kk
theorem fg_248 {a : Nat} (X : CX p m c cc nL s args RX8 D ct) (hw : WD D A H0 H locs ws) (q0 : Nat) {fs : List Value} {v : Value} (he : ws[q0]? = some (a, .inr (2, fs))) (hv : fs[11]? = some v) (hdg : decode cc pc = .ok (.getfield 38, 3)) (kk : W p l e R s m args below meth c H locs cells slots Q (F0 m (pc + 3) ls (v :: rest))) : W p l e R s m args below meth c H locs cells slots Q (F0 m pc ls (.ref a :: rest)) :=
  k_get (k := 11) X inT2 wd_248 rfl (by decide) rfl hw q0 he hv hdg kk
theorem fg_249 {a : Nat} (X : CX p m c cc nL s args RX0 D ct) (hw : WD D A H0 H locs ws) (q0 : Nat) {fs : List Value} {v : Value} (he : ws[q0]? = some (a, .inr (2, fs))) (hv : fs[11]? = some v) (hdg : decode cc pc = .ok (.getfield 70, 3)) (kk : W p l e R s m args below meth c H locs cells slots Q (F0 m (pc + 3) ls (v :: rest))) : W p l e R s m args below meth c H locs cells slots Q (F0 m pc ls (.ref a :: rest)) :=
  k_get (k := 11) X inT2 wd_249 rfl (by decide) rfl hw q0 he hv hdg kk
theorem fg_250 {a : Nat} (X : CX p m c cc nL s args RX3 D ct) (hw : WD D A H0 H locs ws) (q0 : Nat) {fs : List Value} {v : Value} (he : ws[q0]? = some (a, .inr (2, fs))) (hv : fs[11]? = some v) (hdg : decode cc pc = .ok (.getfield 74, 3)) (kk : W p l e R s m args below meth c H locs cells slots Q (F0 m (pc + 3) ls (v :: rest))) : W p l e R s m args below meth c H locs cells slots Q (F0 m pc ls (.ref a :: rest)) :=
  k_get (k := 11) X inT2 wd_250 rfl (by decide) rfl hw q0 he hv hdg kk
theorem fg_251 {a : Nat} (X : CX p m c cc nL s args RX9 D ct) (hw : WD D A H0 H locs ws) (q0 : Nat) {fs : List Value} {v : Value} (he : ws[q0]? = some (a, .inr (2, fs))) (hv : fs[11]? = some v) (hdg : decode cc pc = .ok (.getfield 65, 3)) (kk : W p l e R s m args below meth c H locs cells slots Q (F0 m (pc + 3) ls (v :: rest))) : W p l e R s m args below meth c H locs cells slots Q (F0 m pc ls (.ref a :: rest)) :=
  k_get (k := 11) X inT2 wd_251 rfl (by decide) rfl hw q0 he hv hdg kk
theorem fg_252 {a : Nat} (X : CX p m c cc nL s args RX7 D ct) (hw : WD D A H0 H locs ws) (q0 : Nat) {fs : List Value} {v : Value} (he : ws[q0]? = some (a, .inr (2, fs))) (hv : fs[11]? = some v) (hdg : decode cc pc = .ok (.getfield 109, 3)) (kk : W p l e R s m args below meth c H locs cells slots Q (F0 m (pc + 3) ls (v :: rest))) : W p l e R s m args below meth c H locs cells slots Q (F0 m pc ls (.ref a :: rest)) :=
  k_get (k := 11) X inT2 wd_252 rfl (by decide) rfl hw q0 he hv hdg kk
theorem fg_253 {a : Nat} (X : CX p m c cc nL s args RX11 D ct) (hw : WD D A H0 H locs ws) (q0 : Nat) {fs : List Value} {v : Value} (he : ws[q0]? = some (a, .inr (2, fs))) (hv : fs[11]? = some v) (hdg : decode cc pc = .ok (.getfield 151, 3)) (kk : W p l e R s m args below meth c H locs cells slots Q (F0 m (pc + 3) ls (v :: rest))) : W p l e R s m args below meth c H locs cells slots Q (F0 m pc ls (.ref a :: rest)) :=
  k_get (k := 11) X inT2 wd_253 rfl (by decide) rfl hw q0 he hv hdg kk
theorem fg_254 {a : Nat} (X : CX p m c cc nL s args RX2 D ct) (hw : WD D A H0 H locs ws) (q0 : Nat) {fs : List Value} {v : Value} (he : ws[q0]? = some (a, .inr (2, fs))) (hv : fs[12]? = some v) (hdg : decode cc pc = .ok (.getfield 53, 3)) (kk : W p l e R s m args below meth c H locs cells slots Q (F0 m (pc + 3) ls (v :: rest))) : W p l e R s m args below meth c H locs cells slots Q (F0 m pc ls (.ref a :: rest)) :=
  k_get (k := 12) X inT2 wd_254 rfl (by decide) rfl hw q0 he hv hdg kk
theorem fp_254 {a : Nat} (X : CX p m c cc nL s args RX2 D ct) (hw : WD D A H0 H locs ws) (q0 : Nat) {fs : List Value} {v : Value} (he : ws[q0]? = some (a, .inr (2, fs))) (hn : narrow (.int) v = v) (hfit : fits (.int) v = true) (hl : 12 < fs.length) (hdg : decode cc pc = .ok (.putfield 53, 3)) (w1 : va_W) (h1 : ws.set q0 (a, .inr (2, fs.set 12 v)) = w1) (kk : ∀ (H1 : Heap) (locs1 : List Loc), WD D A H0 H1 locs1 w1 → W p l e R s m args below meth c H1 locs1 cells slots Q (F0 m (pc + 3) ls rest)) : W p l e R s m args below meth c H locs cells slots Q (F0 m pc ls (v :: .ref a :: rest)) :=
  k_put (k := 12) X inT2 tyX2_ok nmX2 wd_254 rfl (by decide) rfl rfl (by decide +kernel) hw q0 he hn hfit hl hdg w1 h1 kk
theorem fg_255 {a : Nat} (X : CX p m c cc nL s args RX9 D ct) (hw : WD D A H0 H locs ws) (q0 : Nat) {fs : List Value} {v : Value} (he : ws[q0]? = some (a, .inr (2, fs))) (hv : fs[12]? = some v) (hdg : decode cc pc = .ok (.getfield 34, 3)) (kk : W p l e R s m args below meth c H locs cells slots Q (F0 m (pc + 3) ls (v :: rest))) : W p l e R s m args below meth c H locs cells slots Q (F0 m pc ls (.ref a :: rest)) :=
  k_get (k := 12) X inT2 wd_255 rfl (by decide) rfl hw q0 he hv hdg kk
theorem fp_255 {a : Nat} (X : CX p m c cc nL s args RX9 D ct) (hw : WD D A H0 H locs ws) (q0 : Nat) {fs : List Value} {v : Value} (he : ws[q0]? = some (a, .inr (2, fs))) (hn : narrow (.int) v = v) (hfit : fits (.int) v = true) (hl : 12 < fs.length) (hdg : decode cc pc = .ok (.putfield 34, 3)) (w1 : va_W) (h1 : ws.set q0 (a, .inr (2, fs.set 12 v)) = w1) (kk : ∀ (H1 : Heap) (locs1 : List Loc), WD D A H0 H1 locs1 w1 → W p l e R s m args below meth c H1 locs1 cells slots Q (F0 m (pc + 3) ls rest)) : W p l e R s m args below meth c H locs cells slots Q (F0 m pc ls (v :: .ref a :: rest)) :=
  k_put (k := 12) X inT2 tyX2_ok nmX2 wd_255 rfl (by decide) rfl rfl (by decide +kernel) hw q0 he hn hfit hl hdg w1 h1 kk
theorem fg_256 {a : Nat} (X : CX p m c cc nL s args RX6 D ct) (hw : WD D A H0 H locs ws) (q0 : Nat) {fs : List Value} {v : Value} (he : ws[q0]? = some (a, .inr (2, fs))) (hv : fs[12]? = some v) (hdg : decode cc pc = .ok (.getfield 57, 3)) (kk : W p l e R s m args below meth c H locs cells slots Q (F0 m (pc + 3) ls (v :: rest))) : W p l e R s m args below meth c H locs cells slots Q (F0 m pc ls (.ref a :: rest)) :=
  k_get (k := 12) X inT2 wd_256 rfl (by decide) rfl hw q0 he hv hdg kk
theorem fp_256 {a : Nat} (X : CX p m c cc nL s args RX6 D ct) (hw : WD D A H0 H locs ws) (q0 : Nat) {fs : List Value} {v : Value} (he : ws[q0]? = some (a, .inr (2, fs))) (hn : narrow (.int) v = v) (hfit : fits (.int) v = true) (hl : 12 < fs.length) (hdg : decode cc pc = .ok (.putfield 57, 3)) (w1 : va_W) (h1 : ws.set q0 (a, .inr (2, fs.set 12 v)) = w1) (kk : ∀ (H1 : Heap) (locs1 : List Loc), WD D A H0 H1 locs1 w1 → W p l e R s m args below meth c H1 locs1 cells slots Q (F0 m (pc + 3) ls rest)) : W p l e R s m args below meth c H locs cells slots Q (F0 m pc ls (v :: .ref a :: rest)) :=
  k_put (k := 12) X inT2 tyX2_ok nmX2 wd_256 rfl (by decide) rfl rfl (by decide +kernel) hw q0 he hn hfit hl hdg w1 h1 kk
theorem fg_257 {a : Nat} (X : CX p m c cc nL s args RX0 D ct) (hw : WD D A H0 H locs ws) (q0 : Nat) {fs : List Value} {v : Value} (he : ws[q0]? = some (a, .inr (2, fs))) (hv : fs[12]? = some v) (hdg : decode cc pc = .ok (.getfield 104, 3)) (kk : W p l e R s m args below meth c H locs cells slots Q (F0 m (pc + 3) ls (v :: rest))) : W p l e R s m args below meth c H locs cells slots Q (F0 m pc ls (.ref a :: rest)) :=
  k_get (k := 12) X inT2 wd_257 rfl (by decide) rfl hw q0 he hv hdg kk
theorem fp_257 {a : Nat} (X : CX p m c cc nL s args RX0 D ct) (hw : WD D A H0 H locs ws) (q0 : Nat) {fs : List Value} {v : Value} (he : ws[q0]? = some (a, .inr (2, fs))) (hn : narrow (.int) v = v) (hfit : fits (.int) v = true) (hl : 12 < fs.length) (hdg : decode cc pc = .ok (.putfield 104, 3)) (w1 : va_W) (h1 : ws.set q0 (a, .inr (2, fs.set 12 v)) = w1) (kk : ∀ (H1 : Heap) (locs1 : List Loc), WD D A H0 H1 locs1 w1 → W p l e R s m args below meth c H1 locs1 cells slots Q (F0 m (pc + 3) ls rest)) : W p l e R s m args below meth c H locs cells slots Q (F0 m pc ls (v :: .ref a :: rest)) :=
  k_put (k := 12) X inT2 tyX2_ok nmX2 wd_257 rfl (by decide) rfl rfl (by decide +kernel) hw q0 he hn hfit hl hdg w1 h1 kk
theorem fg_258 {a : Nat} (X : CX p m c cc nL s args RX11 D ct) (hw : WD D A H0 H locs ws) (q0 : Nat) {fs : List Value} {v : Value} (he : ws[q0]? = some (a, .inr (2, fs))) (hv : fs[12]? = some v) (hdg : decode cc pc = .ok (.getfield 372, 3)) (kk : W p l e R s m args below meth c H locs cells slots Q (F0 m (pc + 3) ls (v :: rest))) : W p l e R s m args below meth c H locs cells slots Q (F0 m pc ls (.ref a :: rest)) :=
  k_get (k := 12) X inT2 wd_258 rfl (by decide) rfl hw q0 he hv hdg kk
theorem fp_258 {a : Nat} (X : CX p m c cc nL s args RX11 D ct) (hw : WD D A H0 H locs ws) (q0 : Nat) {fs : List Value} {v : Value} (he : ws[q0]? = some (a, .inr (2, fs))) (hn : narrow (.int) v = v) (hfit : fits (.int) v = true) (hl : 12 < fs.length) (hdg : decode cc pc = .ok (.putfield 372, 3)) (w1 : va_W) (h1 : ws.set q0 (a, .inr (2, fs.set 12 v)) = w1) (kk : ∀ (H1 : Heap) (locs1 : List Loc), WD D A H0 H1 locs1 w1 → W p l e R s m args below meth c H1 locs1 cells slots Q (F0 m (pc + 3) ls rest)) : W p l e R s m args below meth c H locs cells slots Q (F0 m pc ls (v :: .ref a :: rest)) :=
  k_put (k := 12) X inT2 tyX2_ok nmX2 wd_258 rfl (by decide) rfl rfl (by decide +kernel) hw q0 he hn hfit hl hdg w1 h1 kk
theorem fg_294 {a : Nat} (X : CX p m c cc nL s args RX7 D ct) (hw : WD D A H0 H locs ws) (q0 : Nat) {fs : List Value} {v : Value} (he : ws[q0]? = some (a, .inr (7, fs))) (hv : fs[0]? = some v) (hdg : decode cc pc = .ok (.getfield 14, 3)) (kk : W p l e R s m args below meth c H locs cells slots Q (F0 m (pc + 3) ls (v :: rest))) : W p l e R s m args below meth c H locs cells slots Q (F0 m pc ls (.ref a :: rest)) :=
  k_get (k := 0) X inT7 wd_294 rfl (by decide) rfl hw q0 he hv hdg kk
theorem fp_294 {a : Nat} (X : CX p m c cc nL s args RX7 D ct) (hnam : meth.name = "<init>") (hw : WD D A H0 H locs ws) (q0 : Nat) {fs : List Value} {v : Value} (he : ws[q0]? = some (a, .inr (7, fs))) (hn : narrow (.object "FloorsByLot$House") v = v) (hfit : fits (.object "FloorsByLot$House") v = true) (hl : 0 < fs.length) (hdg : decode cc pc = .ok (.putfield 14, 3)) (w1 : va_W) (h1 : ws.set q0 (a, .inr (7, fs.set 0 v)) = w1) (kk : ∀ (H1 : Heap) (locs1 : List Loc), WD D A H0 H1 locs1 w1 → W p l e R s m args below meth c H1 locs1 cells slots Q (F0 m (pc + 3) ls rest)) : W p l e R s m args below meth c H locs cells slots Q (F0 m pc ls (v :: .ref a :: rest)) :=
  k_putF (k := 0) X inT7 tyX7_ok nmX7 wd_294 rfl (by decide) rfl rfl rfl (by decide +kernel) hnam hw q0 he hn hfit hl hdg w1 h1 kk
theorem fg_295 {a : Nat} (X : CX p m c cc nL s args RX11 D ct) (hw : WD D A H0 H locs ws) (q0 : Nat) {fs : List Value} {v : Value} (he : ws[q0]? = some (a, .inr (7, fs))) (hv : fs[0]? = some v) (hdg : decode cc pc = .ok (.getfield 128, 3)) (kk : W p l e R s m args below meth c H locs cells slots Q (F0 m (pc + 3) ls (v :: rest))) : W p l e R s m args below meth c H locs cells slots Q (F0 m pc ls (.ref a :: rest)) :=
  k_get (k := 0) X inT7 wd_295 rfl (by decide) rfl hw q0 he hv hdg kk
theorem fg_296 {a : Nat} (X : CX p m c cc nL s args RX7 D ct) (hw : WD D A H0 H locs ws) (q0 : Nat) {fs : List Value} {v : Value} (he : ws[q0]? = some (a, .inr (7, fs))) (hv : fs[1]? = some v) (hdg : decode cc pc = .ok (.getfield 18, 3)) (kk : W p l e R s m args below meth c H locs cells slots Q (F0 m (pc + 3) ls (v :: rest))) : W p l e R s m args below meth c H locs cells slots Q (F0 m pc ls (.ref a :: rest)) :=
  k_get (k := 1) X inT7 wd_296 rfl (by decide) rfl hw q0 he hv hdg kk
theorem fp_296 {a : Nat} (X : CX p m c cc nL s args RX7 D ct) (hw : WD D A H0 H locs ws) (q0 : Nat) {fs : List Value} {v : Value} (he : ws[q0]? = some (a, .inr (7, fs))) (hn : narrow (.int) v = v) (hfit : fits (.int) v = true) (hl : 1 < fs.length) (hdg : decode cc pc = .ok (.putfield 18, 3)) (w1 : va_W) (h1 : ws.set q0 (a, .inr (7, fs.set 1 v)) = w1) (kk : ∀ (H1 : Heap) (locs1 : List Loc), WD D A H0 H1 locs1 w1 → W p l e R s m args below meth c H1 locs1 cells slots Q (F0 m (pc + 3) ls rest)) : W p l e R s m args below meth c H locs cells slots Q (F0 m pc ls (v :: .ref a :: rest)) :=
  k_put (k := 1) X inT7 tyX7_ok nmX7 wd_296 rfl (by decide) rfl rfl (by decide +kernel) hw q0 he hn hfit hl hdg w1 h1 kk
theorem fg_297 {a : Nat} (X : CX p m c cc nL s args RX11 D ct) (hw : WD D A H0 H locs ws) (q0 : Nat) {fs : List Value} {v : Value} (he : ws[q0]? = some (a, .inr (7, fs))) (hv : fs[1]? = some v) (hdg : decode cc pc = .ok (.getfield 125, 3)) (kk : W p l e R s m args below meth c H locs cells slots Q (F0 m (pc + 3) ls (v :: rest))) : W p l e R s m args below meth c H locs cells slots Q (F0 m pc ls (.ref a :: rest)) :=
  k_get (k := 1) X inT7 wd_297 rfl (by decide) rfl hw q0 he hv hdg kk
theorem fp_297 {a : Nat} (X : CX p m c cc nL s args RX11 D ct) (hw : WD D A H0 H locs ws) (q0 : Nat) {fs : List Value} {v : Value} (he : ws[q0]? = some (a, .inr (7, fs))) (hn : narrow (.int) v = v) (hfit : fits (.int) v = true) (hl : 1 < fs.length) (hdg : decode cc pc = .ok (.putfield 125, 3)) (w1 : va_W) (h1 : ws.set q0 (a, .inr (7, fs.set 1 v)) = w1) (kk : ∀ (H1 : Heap) (locs1 : List Loc), WD D A H0 H1 locs1 w1 → W p l e R s m args below meth c H1 locs1 cells slots Q (F0 m (pc + 3) ls rest)) : W p l e R s m args below meth c H locs cells slots Q (F0 m pc ls (v :: .ref a :: rest)) :=
  k_put (k := 1) X inT7 tyX7_ok nmX7 wd_297 rfl (by decide) rfl rfl (by decide +kernel) hw q0 he hn hfit hl hdg w1 h1 kk
theorem fg_298 {a : Nat} (X : CX p m c cc nL s args RX7 D ct) (hw : WD D A H0 H locs ws) (q0 : Nat) {fs : List Value} {v : Value} (he : ws[q0]? = some (a, .inr (7, fs))) (hv : fs[2]? = some v) (hdg : decode cc pc = .ok (.getfield 22, 3)) (kk : W p l e R s m args below meth c H locs cells slots Q (F0 m (pc + 3) ls (v :: rest))) : W p l e R s m args below meth c H locs cells slots Q (F0 m pc ls (.ref a :: rest)) :=
  k_get (k := 2) X inT7 wd_298 rfl (by decide) rfl hw q0 he hv hdg kk
theorem fp_298 {a : Nat} (X : CX p m c cc nL s args RX7 D ct) (hw : WD D A H0 H locs ws) (q0 : Nat) {fs : List Value} {v : Value} (he : ws[q0]? = some (a, .inr (7, fs))) (hn : narrow (.int) v = v) (hfit : fits (.int) v = true) (hl : 2 < fs.length) (hdg : decode cc pc = .ok (.putfield 22, 3)) (w1 : va_W) (h1 : ws.set q0 (a, .inr (7, fs.set 2 v)) = w1) (kk : ∀ (H1 : Heap) (locs1 : List Loc), WD D A H0 H1 locs1 w1 → W p l e R s m args below meth c H1 locs1 cells slots Q (F0 m (pc + 3) ls rest)) : W p l e R s m args below meth c H locs cells slots Q (F0 m pc ls (v :: .ref a :: rest)) :=
  k_put (k := 2) X inT7 tyX7_ok nmX7 wd_298 rfl (by decide) rfl rfl (by decide +kernel) hw q0 he hn hfit hl hdg w1 h1 kk
theorem fg_299 {a : Nat} (X : CX p m c cc nL s args RX11 D ct) (hw : WD D A H0 H locs ws) (q0 : Nat) {fs : List Value} {v : Value} (he : ws[q0]? = some (a, .inr (7, fs))) (hv : fs[2]? = some v) (hdg : decode cc pc = .ok (.getfield 140, 3)) (kk : W p l e R s m args below meth c H locs cells slots Q (F0 m (pc + 3) ls (v :: rest))) : W p l e R s m args below meth c H locs cells slots Q (F0 m pc ls (.ref a :: rest)) :=
  k_get (k := 2) X inT7 wd_299 rfl (by decide) rfl hw q0 he hv hdg kk
theorem fp_299 {a : Nat} (X : CX p m c cc nL s args RX11 D ct) (hw : WD D A H0 H locs ws) (q0 : Nat) {fs : List Value} {v : Value} (he : ws[q0]? = some (a, .inr (7, fs))) (hn : narrow (.int) v = v) (hfit : fits (.int) v = true) (hl : 2 < fs.length) (hdg : decode cc pc = .ok (.putfield 140, 3)) (w1 : va_W) (h1 : ws.set q0 (a, .inr (7, fs.set 2 v)) = w1) (kk : ∀ (H1 : Heap) (locs1 : List Loc), WD D A H0 H1 locs1 w1 → W p l e R s m args below meth c H1 locs1 cells slots Q (F0 m (pc + 3) ls rest)) : W p l e R s m args below meth c H locs cells slots Q (F0 m pc ls (v :: .ref a :: rest)) :=
  k_put (k := 2) X inT7 tyX7_ok nmX7 wd_299 rfl (by decide) rfl rfl (by decide +kernel) hw q0 he hn hfit hl hdg w1 h1 kk
theorem fg_300 {a : Nat} (X : CX p m c cc nL s args RX7 D ct) (hw : WD D A H0 H locs ws) (q0 : Nat) {fs : List Value} {v : Value} (he : ws[q0]? = some (a, .inr (7, fs))) (hv : fs[3]? = some v) (hdg : decode cc pc = .ok (.getfield 25, 3)) (kk : W p l e R s m args below meth c H locs cells slots Q (F0 m (pc + 3) ls (v :: rest))) : W p l e R s m args below meth c H locs cells slots Q (F0 m pc ls (.ref a :: rest)) :=
  k_get (k := 3) X inT7 wd_300 rfl (by decide) rfl hw q0 he hv hdg kk
theorem fp_300 {a : Nat} (X : CX p m c cc nL s args RX7 D ct) (hw : WD D A H0 H locs ws) (q0 : Nat) {fs : List Value} {v : Value} (he : ws[q0]? = some (a, .inr (7, fs))) (hn : narrow (.array (.byte)) v = v) (hfit : fits (.array (.byte)) v = true) (hl : 3 < fs.length) (hdg : decode cc pc = .ok (.putfield 25, 3)) (w1 : va_W) (h1 : ws.set q0 (a, .inr (7, fs.set 3 v)) = w1) (kk : ∀ (H1 : Heap) (locs1 : List Loc), WD D A H0 H1 locs1 w1 → W p l e R s m args below meth c H1 locs1 cells slots Q (F0 m (pc + 3) ls rest)) : W p l e R s m args below meth c H locs cells slots Q (F0 m pc ls (v :: .ref a :: rest)) :=
  k_put (k := 3) X inT7 tyX7_ok nmX7 wd_300 rfl (by decide) rfl rfl (by decide +kernel) hw q0 he hn hfit hl hdg w1 h1 kk
theorem fg_301 {a : Nat} (X : CX p m c cc nL s args RX7 D ct) (hw : WD D A H0 H locs ws) (q0 : Nat) {fs : List Value} {v : Value} (he : ws[q0]? = some (a, .inr (7, fs))) (hv : fs[4]? = some v) (hdg : decode cc pc = .ok (.getfield 29, 3)) (kk : W p l e R s m args below meth c H locs cells slots Q (F0 m (pc + 3) ls (v :: rest))) : W p l e R s m args below meth c H locs cells slots Q (F0 m pc ls (.ref a :: rest)) :=
  k_get (k := 4) X inT7 wd_301 rfl (by decide) rfl hw q0 he hv hdg kk
theorem fp_301 {a : Nat} (X : CX p m c cc nL s args RX7 D ct) (hw : WD D A H0 H locs ws) (q0 : Nat) {fs : List Value} {v : Value} (he : ws[q0]? = some (a, .inr (7, fs))) (hn : narrow (.int) v = v) (hfit : fits (.int) v = true) (hl : 4 < fs.length) (hdg : decode cc pc = .ok (.putfield 29, 3)) (w1 : va_W) (h1 : ws.set q0 (a, .inr (7, fs.set 4 v)) = w1) (kk : ∀ (H1 : Heap) (locs1 : List Loc), WD D A H0 H1 locs1 w1 → W p l e R s m args below meth c H1 locs1 cells slots Q (F0 m (pc + 3) ls rest)) : W p l e R s m args below meth c H locs cells slots Q (F0 m pc ls (v :: .ref a :: rest)) :=
  k_put (k := 4) X inT7 tyX7_ok nmX7 wd_301 rfl (by decide) rfl rfl (by decide +kernel) hw q0 he hn hfit hl hdg w1 h1 kk
theorem fg_302 {a : Nat} (X : CX p m c cc nL s args RX7 D ct) (hw : WD D A H0 H locs ws) (q0 : Nat) {fs : List Value} {v : Value} (he : ws[q0]? = some (a, .inr (7, fs))) (hv : fs[5]? = some v) (hdg : decode cc pc = .ok (.getfield 32, 3)) (kk : W p l e R s m args below meth c H locs cells slots Q (F0 m (pc + 3) ls (v :: rest))) : W p l e R s m args below meth c H locs cells slots Q (F0 m pc ls (.ref a :: rest)) :=
  k_get (k := 5) X inT7 wd_302 rfl (by decide) rfl hw q0 he hv hdg kk
theorem fp_302 {a : Nat} (X : CX p m c cc nL s args RX7 D ct) (hw : WD D A H0 H locs ws) (q0 : Nat) {fs : List Value} {v : Value} (he : ws[q0]? = some (a, .inr (7, fs))) (hn : narrow (.int) v = v) (hfit : fits (.int) v = true) (hl : 5 < fs.length) (hdg : decode cc pc = .ok (.putfield 32, 3)) (w1 : va_W) (h1 : ws.set q0 (a, .inr (7, fs.set 5 v)) = w1) (kk : ∀ (H1 : Heap) (locs1 : List Loc), WD D A H0 H1 locs1 w1 → W p l e R s m args below meth c H1 locs1 cells slots Q (F0 m (pc + 3) ls rest)) : W p l e R s m args below meth c H locs cells slots Q (F0 m pc ls (v :: .ref a :: rest)) :=
  k_put (k := 5) X inT7 tyX7_ok nmX7 wd_302 rfl (by decide) rfl rfl (by decide +kernel) hw q0 he hn hfit hl hdg w1 h1 kk
theorem fg_303 {a : Nat} (X : CX p m c cc nL s args RX7 D ct) (hw : WD D A H0 H locs ws) (q0 : Nat) {fs : List Value} {v : Value} (he : ws[q0]? = some (a, .inr (7, fs))) (hv : fs[6]? = some v) (hdg : decode cc pc = .ok (.getfield 35, 3)) (kk : W p l e R s m args below meth c H locs cells slots Q (F0 m (pc + 3) ls (v :: rest))) : W p l e R s m args below meth c H locs cells slots Q (F0 m pc ls (.ref a :: rest)) :=
  k_get (k := 6) X inT7 wd_303 rfl (by decide) rfl hw q0 he hv hdg kk
theorem fp_303 {a : Nat} (X : CX p m c cc nL s args RX7 D ct) (hw : WD D A H0 H locs ws) (q0 : Nat) {fs : List Value} {v : Value} (he : ws[q0]? = some (a, .inr (7, fs))) (hn : narrow (.int) v = v) (hfit : fits (.int) v = true) (hl : 6 < fs.length) (hdg : decode cc pc = .ok (.putfield 35, 3)) (w1 : va_W) (h1 : ws.set q0 (a, .inr (7, fs.set 6 v)) = w1) (kk : ∀ (H1 : Heap) (locs1 : List Loc), WD D A H0 H1 locs1 w1 → W p l e R s m args below meth c H1 locs1 cells slots Q (F0 m (pc + 3) ls rest)) : W p l e R s m args below meth c H locs cells slots Q (F0 m pc ls (v :: .ref a :: rest)) :=
  k_put (k := 6) X inT7 tyX7_ok nmX7 wd_303 rfl (by decide) rfl rfl (by decide +kernel) hw q0 he hn hfit hl hdg w1 h1 kk
theorem fg_304 {a : Nat} (X : CX p m c cc nL s args RX7 D ct) (hw : WD D A H0 H locs ws) (q0 : Nat) {fs : List Value} {v : Value} (he : ws[q0]? = some (a, .inr (7, fs))) (hv : fs[7]? = some v) (hdg : decode cc pc = .ok (.getfield 38, 3)) (kk : W p l e R s m args below meth c H locs cells slots Q (F0 m (pc + 3) ls (v :: rest))) : W p l e R s m args below meth c H locs cells slots Q (F0 m pc ls (.ref a :: rest)) :=
  k_get (k := 7) X inT7 wd_304 rfl (by decide) rfl hw q0 he hv hdg kk
theorem fp_304 {a : Nat} (X : CX p m c cc nL s args RX7 D ct) (hw : WD D A H0 H locs ws) (q0 : Nat) {fs : List Value} {v : Value} (he : ws[q0]? = some (a, .inr (7, fs))) (hn : narrow (.int) v = v) (hfit : fits (.int) v = true) (hl : 7 < fs.length) (hdg : decode cc pc = .ok (.putfield 38, 3)) (w1 : va_W) (h1 : ws.set q0 (a, .inr (7, fs.set 7 v)) = w1) (kk : ∀ (H1 : Heap) (locs1 : List Loc), WD D A H0 H1 locs1 w1 → W p l e R s m args below meth c H1 locs1 cells slots Q (F0 m (pc + 3) ls rest)) : W p l e R s m args below meth c H locs cells slots Q (F0 m pc ls (v :: .ref a :: rest)) :=
  k_put (k := 7) X inT7 tyX7_ok nmX7 wd_304 rfl (by decide) rfl rfl (by decide +kernel) hw q0 he hn hfit hl hdg w1 h1 kk
theorem fg_305 {a : Nat} (X : CX p m c cc nL s args RX7 D ct) (hw : WD D A H0 H locs ws) (q0 : Nat) {fs : List Value} {v : Value} (he : ws[q0]? = some (a, .inr (7, fs))) (hv : fs[8]? = some v) (hdg : decode cc pc = .ok (.getfield 41, 3)) (kk : W p l e R s m args below meth c H locs cells slots Q (F0 m (pc + 3) ls (v :: rest))) : W p l e R s m args below meth c H locs cells slots Q (F0 m pc ls (.ref a :: rest)) :=
  k_get (k := 8) X inT7 wd_305 rfl (by decide) rfl hw q0 he hv hdg kk
theorem fp_305 {a : Nat} (X : CX p m c cc nL s args RX7 D ct) (hw : WD D A H0 H locs ws) (q0 : Nat) {fs : List Value} {v : Value} (he : ws[q0]? = some (a, .inr (7, fs))) (hn : narrow (.int) v = v) (hfit : fits (.int) v = true) (hl : 8 < fs.length) (hdg : decode cc pc = .ok (.putfield 41, 3)) (w1 : va_W) (h1 : ws.set q0 (a, .inr (7, fs.set 8 v)) = w1) (kk : ∀ (H1 : Heap) (locs1 : List Loc), WD D A H0 H1 locs1 w1 → W p l e R s m args below meth c H1 locs1 cells slots Q (F0 m (pc + 3) ls rest)) : W p l e R s m args below meth c H locs cells slots Q (F0 m pc ls (v :: .ref a :: rest)) :=
  k_put (k := 8) X inT7 tyX7_ok nmX7 wd_305 rfl (by decide) rfl rfl (by decide +kernel) hw q0 he hn hfit hl hdg w1 h1 kk
theorem fg_331 {a : Nat} (X : CX p m c cc nL s args RX9 D ct) (hw : WD D A H0 H locs ws) (q0 : Nat) {fs : List Value} {v : Value} (he : ws[q0]? = some (a, .inr (9, fs))) (hv : fs[0]? = some v) (hdg : decode cc pc = .ok (.getfield 9, 3)) (kk : W p l e R s m args below meth c H locs cells slots Q (F0 m (pc + 3) ls (v :: rest))) : W p l e R s m args below meth c H locs cells slots Q (F0 m pc ls (.ref a :: rest)) :=
  k_get (k := 0) X inT9 wd_331 rfl (by decide) rfl hw q0 he hv hdg kk
theorem fp_331 {a : Nat} (X : CX p m c cc nL s args RX9 D ct) (hnam : meth.name = "<init>") (hw : WD D A H0 H locs ws) (q0 : Nat) {fs : List Value} {v : Value} (he : ws[q0]? = some (a, .inr (9, fs))) (hn : narrow (.array (.int)) v = v) (hfit : fits (.array (.int)) v = true) (hl : 0 < fs.length) (hdg : decode cc pc = .ok (.putfield 9, 3)) (w1 : va_W) (h1 : ws.set q0 (a, .inr (9, fs.set 0 v)) = w1) (kk : ∀ (H1 : Heap) (locs1 : List Loc), WD D A H0 H1 locs1 w1 → W p l e R s m args below meth c H1 locs1 cells slots Q (F0 m (pc + 3) ls rest)) : W p l e R s m args below meth c H locs cells slots Q (F0 m pc ls (v :: .ref a :: rest)) :=
  k_putF (k := 0) X inT9 tyX9_ok nmX9 wd_331 rfl (by decide) rfl rfl rfl (by decide +kernel) hnam hw q0 he hn hfit hl hdg w1 h1 kk
theorem fg_332 {a : Nat} (X : CX p m c cc nL s args RX0 D ct) (hw : WD D A H0 H locs ws) (q0 : Nat) {fs : List Value} {v : Value} (he : ws[q0]? = some (a, .inr (9, fs))) (hv : fs[0]? = some v) (hdg : decode cc pc = .ok (.getfield 85, 3)) (kk : W p l e R s m args below meth c H locs cells slots Q (F0 m (pc + 3) ls (v :: rest))) : W p l e R s m args below meth c H locs cells slots Q (F0 m pc ls (.ref a :: rest)) :=
  k_get (k := 0) X inT9 wd_332 rfl (by decide) rfl hw q0 he hv hdg kk
theorem fg_333 {a : Nat} (X : CX p m c cc nL s args RX11 D ct) (hw : WD D A H0 H locs ws) (q0 : Nat) {fs : List Value} {v : Value} (he : ws[q0]? = some (a, .inr (9, fs))) (hv : fs[0]? = some v) (hdg : decode cc pc = .ok (.getfield 306, 3)) (kk : W p l e R s m args below meth c H locs cells slots Q (F0 m (pc + 3) ls (v :: rest))) : W p l e R s m args below meth c H locs cells slots Q (F0 m pc ls (.ref a :: rest)) :=
  k_get (k := 0) X inT9 wd_333 rfl (by decide) rfl hw q0 he hv hdg kk
theorem fg_334 {a : Nat} (X : CX p m c cc nL s args RX9 D ct) (hw : WD D A H0 H locs ws) (q0 : Nat) {fs : List Value} {v : Value} (he : ws[q0]? = some (a, .inr (9, fs))) (hv : fs[1]? = some v) (hdg : decode cc pc = .ok (.getfield 15, 3)) (kk : W p l e R s m args below meth c H locs cells slots Q (F0 m (pc + 3) ls (v :: rest))) : W p l e R s m args below meth c H locs cells slots Q (F0 m pc ls (.ref a :: rest)) :=
  k_get (k := 1) X inT9 wd_334 rfl (by decide) rfl hw q0 he hv hdg kk
theorem fp_334 {a : Nat} (X : CX p m c cc nL s args RX9 D ct) (hnam : meth.name = "<init>") (hw : WD D A H0 H locs ws) (q0 : Nat) {fs : List Value} {v : Value} (he : ws[q0]? = some (a, .inr (9, fs))) (hn : narrow (.array (.int)) v = v) (hfit : fits (.array (.int)) v = true) (hl : 1 < fs.length) (hdg : decode cc pc = .ok (.putfield 15, 3)) (w1 : va_W) (h1 : ws.set q0 (a, .inr (9, fs.set 1 v)) = w1) (kk : ∀ (H1 : Heap) (locs1 : List Loc), WD D A H0 H1 locs1 w1 → W p l e R s m args below meth c H1 locs1 cells slots Q (F0 m (pc + 3) ls rest)) : W p l e R s m args below meth c H locs cells slots Q (F0 m pc ls (v :: .ref a :: rest)) :=
  k_putF (k := 1) X inT9 tyX9_ok nmX9 wd_334 rfl (by decide) rfl rfl rfl (by decide +kernel) hnam hw q0 he hn hfit hl hdg w1 h1 kk
theorem fg_335 {a : Nat} (X : CX p m c cc nL s args RX8 D ct) (hw : WD D A H0 H locs ws) (q0 : Nat) {fs : List Value} {v : Value} (he : ws[q0]? = some (a, .inr (9, fs))) (hv : fs[1]? = some v) (hdg : decode cc pc = .ok (.getfield 68, 3)) (kk : W p l e R s m args below meth c H locs cells slots Q (F0 m (pc + 3) ls (v :: rest))) : W p l e R s m args below meth c H locs cells slots Q (F0 m pc ls (.ref a :: rest)) :=
  k_get (k := 1) X inT9 wd_335 rfl (by decide) rfl hw q0 he hv hdg kk
theorem fg_336 {a : Nat} (X : CX p m c cc nL s args RX11 D ct) (hw : WD D A H0 H locs ws) (q0 : Nat) {fs : List Value} {v : Value} (he : ws[q0]? = some (a, .inr (9, fs))) (hv : fs[1]? = some v) (hdg : decode cc pc = .ok (.getfield 184, 3)) (kk : W p l e R s m args below meth c H locs cells slots Q (F0 m (pc + 3) ls (v :: rest))) : W p l e R s m args below meth c H locs cells slots Q (F0 m pc ls (.ref a :: rest)) :=
  k_get (k := 1) X inT9 wd_336 rfl (by decide) rfl hw q0 he hv hdg kk
theorem fg_337 {a : Nat} (X : CX p m c cc nL s args RX9 D ct) (hw : WD D A H0 H locs ws) (q0 : Nat) {fs : List Value} {v : Value} (he : ws[q0]? = some (a, .inr (9, fs))) (hv : fs[2]? = some v) (hdg : decode cc pc = .ok (.getfield 30, 3)) (kk : W p l e R s m args below meth c H locs cells slots Q (F0 m (pc + 3) ls (v :: rest))) : W p l e R s m args below meth c H locs cells slots Q (F0 m pc ls (.ref a :: rest)) :=
  k_get (k := 2) X inT9 wd_337 rfl (by decide) rfl hw q0 he hv hdg kk
theorem fp_337 {a : Nat} (X : CX p m c cc nL s args RX9 D ct) (hnam : meth.name = "<init>") (hw : WD D A H0 H locs ws) (q0 : Nat) {fs : List Value} {v : Value} (he : ws[q0]? = some (a, .inr (9, fs))) (hn : narrow (.object "FloorsByLot$House") v = v) (hfit : fits (.object "FloorsByLot$House") v = true) (hl : 2 < fs.length) (hdg : decode cc pc = .ok (.putfield 30, 3)) (w1 : va_W) (h1 : ws.set q0 (a, .inr (9, fs.set 2 v)) = w1) (kk : ∀ (H1 : Heap) (locs1 : List Loc), WD D A H0 H1 locs1 w1 → W p l e R s m args below meth c H1 locs1 cells slots Q (F0 m (pc + 3) ls rest)) : W p l e R s m args below meth c H locs cells slots Q (F0 m pc ls (v :: .ref a :: rest)) :=
  k_putF (k := 2) X inT9 tyX9_ok nmX9 wd_337 rfl (by decide) rfl rfl rfl (by decide +kernel) hnam hw q0 he hn hfit hl hdg w1 h1 kk
theorem fg_338 {a : Nat} (X : CX p m c cc nL s args RX9 D ct) (hw : WD D A H0 H locs ws) (q0 : Nat) {fs : List Value} {v : Value} (he : ws[q0]? = some (a, .inr (9, fs))) (hv : fs[3]? = some v) (hdg : decode cc pc = .ok (.getfield 20, 3)) (kk : W p l e R s m args below meth c H locs cells slots Q (F0 m (pc + 3) ls (v :: rest))) : W p l e R s m args below meth c H locs cells slots Q (F0 m pc ls (.ref a :: rest)) :=
  k_get (k := 3) X inT9 wd_338 rfl (by decide) rfl hw q0 he hv hdg kk
theorem fp_338 {a : Nat} (X : CX p m c cc nL s args RX9 D ct) (hnam : meth.name = "<init>") (hw : WD D A H0 H locs ws) (q0 : Nat) {fs : List Value} {v : Value} (he : ws[q0]? = some (a, .inr (9, fs))) (hn : narrow (.array (.int)) v = v) (hfit : fits (.array (.int)) v = true) (hl : 3 < fs.length) (hdg : decode cc pc = .ok (.putfield 20, 3)) (w1 : va_W) (h1 : ws.set q0 (a, .inr (9, fs.set 3 v)) = w1) (kk : ∀ (H1 : Heap) (locs1 : List Loc), WD D A H0 H1 locs1 w1 → W p l e R s m args below meth c H1 locs1 cells slots Q (F0 m (pc + 3) ls rest)) : W p l e R s m args below meth c H locs cells slots Q (F0 m pc ls (v :: .ref a :: rest)) :=
  k_putF (k := 3) X inT9 tyX9_ok nmX9 wd_338 rfl (by decide) rfl rfl rfl (by decide +kernel) hnam hw q0 he hn hfit hl hdg w1 h1 kk
theorem fg_339 {a : Nat} (X : CX p m c cc nL s args RX9 D ct) (hw : WD D A H0 H locs ws) (q0 : Nat) {fs : List Value} {v : Value} (he : ws[q0]? = some (a, .inr (9, fs))) (hv : fs[4]? = some v) (hdg : decode cc pc = .ok (.getfield 23, 3)) (kk : W p l e R s m args below meth c H locs cells slots Q (F0 m (pc + 3) ls (v :: rest))) : W p l e R s m args below meth c H locs cells slots Q (F0 m pc ls (.ref a :: rest)) :=
  k_get (k := 4) X inT9 wd_339 rfl (by decide) rfl hw q0 he hv hdg kk
theorem fp_339 {a : Nat} (X : CX p m c cc nL s args RX9 D ct) (hnam : meth.name = "<init>") (hw : WD D A H0 H locs ws) (q0 : Nat) {fs : List Value} {v : Value} (he : ws[q0]? = some (a, .inr (9, fs))) (hn : narrow (.array (.int)) v = v) (hfit : fits (.array (.int)) v = true) (hl : 4 < fs.length) (hdg : decode cc pc = .ok (.putfield 23, 3)) (w1 : va_W) (h1 : ws.set q0 (a, .inr (9, fs.set 4 v)) = w1) (kk : ∀ (H1 : Heap) (locs1 : List Loc), WD D A H0 H1 locs1 w1 → W p l e R s m args below meth c H1 locs1 cells slots Q (F0 m (pc + 3) ls rest)) : W p l e R s m args below meth c H locs cells slots Q (F0 m pc ls (v :: .ref a :: rest)) :=
  k_putF (k := 4) X inT9 tyX9_ok nmX9 wd_339 rfl (by decide) rfl rfl rfl (by decide +kernel) hnam hw q0 he hn hfit hl hdg w1 h1 kk
theorem fg_340 {a : Nat} (X : CX p m c cc nL s args RX9 D ct) (hw : WD D A H0 H locs ws) (q0 : Nat) {fs : List Value} {v : Value} (he : ws[q0]? = some (a, .inr (9, fs))) (hv : fs[5]? = some v) (hdg : decode cc pc = .ok (.getfield 26, 3)) (kk : W p l e R s m args below meth c H locs cells slots Q (F0 m (pc + 3) ls (v :: rest))) : W p l e R s m args below meth c H locs cells slots Q (F0 m pc ls (.ref a :: rest)) :=
  k_get (k := 5) X inT9 wd_340 rfl (by decide) rfl hw q0 he hv hdg kk
theorem fp_340 {a : Nat} (X : CX p m c cc nL s args RX9 D ct) (hw : WD D A H0 H locs ws) (q0 : Nat) {fs : List Value} {v : Value} (he : ws[q0]? = some (a, .inr (9, fs))) (hn : narrow (.int) v = v) (hfit : fits (.int) v = true) (hl : 5 < fs.length) (hdg : decode cc pc = .ok (.putfield 26, 3)) (w1 : va_W) (h1 : ws.set q0 (a, .inr (9, fs.set 5 v)) = w1) (kk : ∀ (H1 : Heap) (locs1 : List Loc), WD D A H0 H1 locs1 w1 → W p l e R s m args below meth c H1 locs1 cells slots Q (F0 m (pc + 3) ls rest)) : W p l e R s m args below meth c H locs cells slots Q (F0 m pc ls (v :: .ref a :: rest)) :=
  k_put (k := 5) X inT9 tyX9_ok nmX9 wd_340 rfl (by decide) rfl rfl (by decide +kernel) hw q0 he hn hfit hl hdg w1 h1 kk
theorem fg_360 {a : Nat} (X : CX p m c cc nL s args RX5 D ct) (hw : WD D A H0 H locs ws) (q0 : Nat) {fs : List Value} {v : Value} (he : ws[q0]? = some (a, .inr (5, fs))) (hv : fs[0]? = some v) (hdg : decode cc pc = .ok (.getfield 9, 3)) (kk : W p l e R s m args below meth c H locs cells slots Q (F0 m (pc + 3) ls (v :: rest))) : W p l e R s m args below meth c H locs cells slots Q (F0 m pc ls (.ref a :: rest)) :=
  k_get (k := 0) X inT5 wd_360 rfl (by decide) rfl hw q0 he hv hdg kk
theorem fp_360 {a : Nat} (X : CX p m c cc nL s args RX5 D ct) (hnam : meth.name = "<init>") (hw : WD D A H0 H locs ws) (q0 : Nat) {fs : List Value} {v : Value} (he : ws[q0]? = some (a, .inr (5, fs))) (hn : narrow (.array (.int)) v = v) (hfit : fits (.array (.int)) v = true) (hl : 0 < fs.length) (hdg : decode cc pc = .ok (.putfield 9, 3)) (w1 : va_W) (h1 : ws.set q0 (a, .inr (5, fs.set 0 v)) = w1) (kk : ∀ (H1 : Heap) (locs1 : List Loc), WD D A H0 H1 locs1 w1 → W p l e R s m args below meth c H1 locs1 cells slots Q (F0 m (pc + 3) ls rest)) : W p l e R s m args below meth c H locs cells slots Q (F0 m pc ls (v :: .ref a :: rest)) :=
  k_putF (k := 0) X inT5 tyX5_ok nmX5 wd_360 rfl (by decide) rfl rfl rfl (by decide +kernel) hnam hw q0 he hn hfit hl hdg w1 h1 kk
theorem fg_361 {a : Nat} (X : CX p m c cc nL s args RX11 D ct) (hw : WD D A H0 H locs ws) (q0 : Nat) {fs : List Value} {v : Value} (he : ws[q0]? = some (a, .inr (5, fs))) (hv : fs[0]? = some v) (hdg : decode cc pc = .ok (.getfield 299, 3)) (kk : W p l e R s m args below meth c H locs cells slots Q (F0 m (pc + 3) ls (v :: rest))) : W p l e R s m args below meth c H locs cells slots Q (F0 m pc ls (.ref a :: rest)) :=
  k_get (k := 0) X inT5 wd_361 rfl (by decide) rfl hw q0 he hv hdg kk
theorem fg_362 {a : Nat} (X : CX p m c cc nL s args RX5 D ct) (hw : WD D A H0 H locs ws) (q0 : Nat) {fs : List Value} {v : Value} (he : ws[q0]? = some (a, .inr (5, fs))) (hv : fs[1]? = some v) (hdg : decode cc pc = .ok (.getfield 15, 3)) (kk : W p l e R s m args below meth c H locs cells slots Q (F0 m (pc + 3) ls (v :: rest))) : W p l e R s m args below meth c H locs cells slots Q (F0 m pc ls (.ref a :: rest)) :=
  k_get (k := 1) X inT5 wd_362 rfl (by decide) rfl hw q0 he hv hdg kk
theorem fp_362 {a : Nat} (X : CX p m c cc nL s args RX5 D ct) (hnam : meth.name = "<init>") (hw : WD D A H0 H locs ws) (q0 : Nat) {fs : List Value} {v : Value} (he : ws[q0]? = some (a, .inr (5, fs))) (hn : narrow (.array (.int)) v = v) (hfit : fits (.array (.int)) v = true) (hl : 1 < fs.length) (hdg : decode cc pc = .ok (.putfield 15, 3)) (w1 : va_W) (h1 : ws.set q0 (a, .inr (5, fs.set 1 v)) = w1) (kk : ∀ (H1 : Heap) (locs1 : List Loc), WD D A H0 H1 locs1 w1 → W p l e R s m args below meth c H1 locs1 cells slots Q (F0 m (pc + 3) ls rest)) : W p l e R s m args below meth c H locs cells slots Q (F0 m pc ls (v :: .ref a :: rest)) :=
  k_putF (k := 1) X inT5 tyX5_ok nmX5 wd_362 rfl (by decide) rfl rfl rfl (by decide +kernel) hnam hw q0 he hn hfit hl hdg w1 h1 kk
theorem fg_363 {a : Nat} (X : CX p m c cc nL s args RX5 D ct) (hw : WD D A H0 H locs ws) (q0 : Nat) {fs : List Value} {v : Value} (he : ws[q0]? = some (a, .inr (5, fs))) (hv : fs[2]? = some v) (hdg : decode cc pc = .ok (.getfield 18, 3)) (kk : W p l e R s m args below meth c H locs cells slots Q (F0 m (pc + 3) ls (v :: rest))) : W p l e R s m args below meth c H locs cells slots Q (F0 m pc ls (.ref a :: rest)) :=
  k_get (k := 2) X inT5 wd_363 rfl (by decide) rfl hw q0 he hv hdg kk
theorem fp_363 {a : Nat} (X : CX p m c cc nL s args RX5 D ct) (hnam : meth.name = "<init>") (hw : WD D A H0 H locs ws) (q0 : Nat) {fs : List Value} {v : Value} (he : ws[q0]? = some (a, .inr (5, fs))) (hn : narrow (.array (.int)) v = v) (hfit : fits (.array (.int)) v = true) (hl : 2 < fs.length) (hdg : decode cc pc = .ok (.putfield 18, 3)) (w1 : va_W) (h1 : ws.set q0 (a, .inr (5, fs.set 2 v)) = w1) (kk : ∀ (H1 : Heap) (locs1 : List Loc), WD D A H0 H1 locs1 w1 → W p l e R s m args below meth c H1 locs1 cells slots Q (F0 m (pc + 3) ls rest)) : W p l e R s m args below meth c H locs cells slots Q (F0 m pc ls (v :: .ref a :: rest)) :=
  k_putF (k := 2) X inT5 tyX5_ok nmX5 wd_363 rfl (by decide) rfl rfl rfl (by decide +kernel) hnam hw q0 he hn hfit hl hdg w1 h1 kk
theorem fg_364 {a : Nat} (X : CX p m c cc nL s args RX5 D ct) (hw : WD D A H0 H locs ws) (q0 : Nat) {fs : List Value} {v : Value} (he : ws[q0]? = some (a, .inr (5, fs))) (hv : fs[3]? = some v) (hdg : decode cc pc = .ok (.getfield 21, 3)) (kk : W p l e R s m args below meth c H locs cells slots Q (F0 m (pc + 3) ls (v :: rest))) : W p l e R s m args below meth c H locs cells slots Q (F0 m pc ls (.ref a :: rest)) :=
  k_get (k := 3) X inT5 wd_364 rfl (by decide) rfl hw q0 he hv hdg kk
theorem fp_364 {a : Nat} (X : CX p m c cc nL s args RX5 D ct) (hnam : meth.name = "<init>") (hw : WD D A H0 H locs ws) (q0 : Nat) {fs : List Value} {v : Value} (he : ws[q0]? = some (a, .inr (5, fs))) (hn : narrow (.array (.int)) v = v) (hfit : fits (.array (.int)) v = true) (hl : 3 < fs.length) (hdg : decode cc pc = .ok (.putfield 21, 3)) (w1 : va_W) (h1 : ws.set q0 (a, .inr (5, fs.set 3 v)) = w1) (kk : ∀ (H1 : Heap) (locs1 : List Loc), WD D A H0 H1 locs1 w1 → W p l e R s m args below meth c H1 locs1 cells slots Q (F0 m (pc + 3) ls rest)) : W p l e R s m args below meth c H locs cells slots Q (F0 m pc ls (v :: .ref a :: rest)) :=
  k_putF (k := 3) X inT5 tyX5_ok nmX5 wd_364 rfl (by decide) rfl rfl rfl (by decide +kernel) hnam hw q0 he hn hfit hl hdg w1 h1 kk
theorem fg_365 {a : Nat} (X : CX p m c cc nL s args RX5 D ct) (hw : WD D A H0 H locs ws) (q0 : Nat) {fs : List Value} {v : Value} (he : ws[q0]? = some (a, .inr (5, fs))) (hv : fs[4]? = some v) (hdg : decode cc pc = .ok (.getfield 24, 3)) (kk : W p l e R s m args below meth c H locs cells slots Q (F0 m (pc + 3) ls (v :: rest))) : W p l e R s m args below meth c H locs cells slots Q (F0 m pc ls (.ref a :: rest)) :=
  k_get (k := 4) X inT5 wd_365 rfl (by decide) rfl hw q0 he hv hdg kk
theorem fp_365 {a : Nat} (X : CX p m c cc nL s args RX5 D ct) (hnam : meth.name = "<init>") (hw : WD D A H0 H locs ws) (q0 : Nat) {fs : List Value} {v : Value} (he : ws[q0]? = some (a, .inr (5, fs))) (hn : narrow (.array (.int)) v = v) (hfit : fits (.array (.int)) v = true) (hl : 4 < fs.length) (hdg : decode cc pc = .ok (.putfield 24, 3)) (w1 : va_W) (h1 : ws.set q0 (a, .inr (5, fs.set 4 v)) = w1) (kk : ∀ (H1 : Heap) (locs1 : List Loc), WD D A H0 H1 locs1 w1 → W p l e R s m args below meth c H1 locs1 cells slots Q (F0 m (pc + 3) ls rest)) : W p l e R s m args below meth c H locs cells slots Q (F0 m pc ls (v :: .ref a :: rest)) :=
  k_putF (k := 4) X inT5 tyX5_ok nmX5 wd_365 rfl (by decide) rfl rfl rfl (by decide +kernel) hnam hw q0 he hn hfit hl hdg w1 h1 kk
theorem fg_366 {a : Nat} (X : CX p m c cc nL s args RX5 D ct) (hw : WD D A H0 H locs ws) (q0 : Nat) {fs : List Value} {v : Value} (he : ws[q0]? = some (a, .inr (5, fs))) (hv : fs[5]? = some v) (hdg : decode cc pc = .ok (.getfield 27, 3)) (kk : W p l e R s m args below meth c H locs cells slots Q (F0 m (pc + 3) ls (v :: rest))) : W p l e R s m args below meth c H locs cells slots Q (F0 m pc ls (.ref a :: rest)) :=
  k_get (k := 5) X inT5 wd_366 rfl (by decide) rfl hw q0 he hv hdg kk
theorem fp_366 {a : Nat} (X : CX p m c cc nL s args RX5 D ct) (hw : WD D A H0 H locs ws) (q0 : Nat) {fs : List Value} {v : Value} (he : ws[q0]? = some (a, .inr (5, fs))) (hn : narrow (.int) v = v) (hfit : fits (.int) v = true) (hl : 5 < fs.length) (hdg : decode cc pc = .ok (.putfield 27, 3)) (w1 : va_W) (h1 : ws.set q0 (a, .inr (5, fs.set 5 v)) = w1) (kk : ∀ (H1 : Heap) (locs1 : List Loc), WD D A H0 H1 locs1 w1 → W p l e R s m args below meth c H1 locs1 cells slots Q (F0 m (pc + 3) ls rest)) : W p l e R s m args below meth c H locs cells slots Q (F0 m pc ls (v :: .ref a :: rest)) :=
  k_put (k := 5) X inT5 tyX5_ok nmX5 wd_366 rfl (by decide) rfl rfl (by decide +kernel) hw q0 he hn hfit hl hdg w1 h1 kk
theorem fg_367 {a : Nat} (X : CX p m c cc nL s args RX5 D ct) (hw : WD D A H0 H locs ws) (q0 : Nat) {fs : List Value} {v : Value} (he : ws[q0]? = some (a, .inr (5, fs))) (hv : fs[6]? = some v) (hdg : decode cc pc = .ok (.getfield 31, 3)) (kk : W p l e R s m args below meth c H locs cells slots Q (F0 m (pc + 3) ls (v :: rest))) : W p l e R s m args below meth c H locs cells slots Q (F0 m pc ls (.ref a :: rest)) :=
  k_get (k := 6) X inT5 wd_367 rfl (by decide) rfl hw q0 he hv hdg kk
theorem fp_367 {a : Nat} (X : CX p m c cc nL s args RX5 D ct) (hw : WD D A H0 H locs ws) (q0 : Nat) {fs : List Value} {v : Value} (he : ws[q0]? = some (a, .inr (5, fs))) (hn : narrow (.int) v = v) (hfit : fits (.int) v = true) (hl : 6 < fs.length) (hdg : decode cc pc = .ok (.putfield 31, 3)) (w1 : va_W) (h1 : ws.set q0 (a, .inr (5, fs.set 6 v)) = w1) (kk : ∀ (H1 : Heap) (locs1 : List Loc), WD D A H0 H1 locs1 w1 → W p l e R s m args below meth c H1 locs1 cells slots Q (F0 m (pc + 3) ls rest)) : W p l e R s m args below meth c H locs cells slots Q (F0 m pc ls (v :: .ref a :: rest)) :=
  k_put (k := 6) X inT5 tyX5_ok nmX5 wd_367 rfl (by decide) rfl rfl (by decide +kernel) hw q0 he hn hfit hl hdg w1 h1 kk
theorem fg_389 {a : Nat} (X : CX p m c cc nL s args RX8 D ct) (hw : WD D A H0 H locs ws) (q0 : Nat) {fs : List Value} {v : Value} (he : ws[q0]? = some (a, .inr (8, fs))) (hv : fs[0]? = some v) (hdg : decode cc pc = .ok (.getfield 9, 3)) (kk : W p l e R s m args below meth c H locs cells slots Q (F0 m (pc + 3) ls (v :: rest))) : W p l e R s m args below meth c H locs cells slots Q (F0 m pc ls (.ref a :: rest)) :=
  k_get (k := 0) X inT8 wd_389 rfl (by decide) rfl hw q0 he hv hdg kk
theorem fp_389 {a : Nat} (X : CX p m c cc nL s args RX8 D ct) (hnam : meth.name = "<init>") (hw : WD D A H0 H locs ws) (q0 : Nat) {fs : List Value} {v : Value} (he : ws[q0]? = some (a, .inr (8, fs))) (hn : narrow (.array (.int)) v = v) (hfit : fits (.array (.int)) v = true) (hl : 0 < fs.length) (hdg : decode cc pc = .ok (.putfield 9, 3)) (w1 : va_W) (h1 : ws.set q0 (a, .inr (8, fs.set 0 v)) = w1) (kk : ∀ (H1 : Heap) (locs1 : List Loc), WD D A H0 H1 locs1 w1 → W p l e R s m args below meth c H1 locs1 cells slots Q (F0 m (pc + 3) ls rest)) : W p l e R s m args below meth c H locs cells slots Q (F0 m pc ls (v :: .ref a :: rest)) :=
  k_putF (k := 0) X inT8 tyX8_ok nmX8 wd_389 rfl (by decide) rfl rfl rfl (by decide +kernel) hnam hw q0 he hn hfit hl hdg w1 h1 kk
theorem fg_390 {a : Nat} (X : CX p m c cc nL s args RX0 D ct) (hw : WD D A H0 H locs ws) (q0 : Nat) {fs : List Value} {v : Value} (he : ws[q0]? = some (a, .inr (8, fs))) (hv : fs[0]? = some v) (hdg : decode cc pc = .ok (.getfield 115, 3)) (kk : W p l e R s m args below meth c H locs cells slots Q (F0 m (pc + 3) ls (v :: rest))) : W p l e R s m args below meth c H locs cells slots Q (F0 m pc ls (.ref a :: rest)) :=
  k_get (k := 0) X inT8 wd_390 rfl (by decide) rfl hw q0 he hv hdg kk
theorem fg_391 {a : Nat} (X : CX p m c cc nL s args RX11 D ct) (hw : WD D A H0 H locs ws) (q0 : Nat) {fs : List Value} {v : Value} (he : ws[q0]? = some (a, .inr (8, fs))) (hv : fs[0]? = some v) (hdg : decode cc pc = .ok (.getfield 361, 3)) (kk : W p l e R s m args below meth c H locs cells slots Q (F0 m (pc + 3) ls (v :: rest))) : W p l e R s m args below meth c H locs cells slots Q (F0 m pc ls (.ref a :: rest)) :=
  k_get (k := 0) X inT8 wd_391 rfl (by decide) rfl hw q0 he hv hdg kk
theorem fg_392 {a : Nat} (X : CX p m c cc nL s args RX8 D ct) (hw : WD D A H0 H locs ws) (q0 : Nat) {fs : List Value} {v : Value} (he : ws[q0]? = some (a, .inr (8, fs))) (hv : fs[1]? = some v) (hdg : decode cc pc = .ok (.getfield 15, 3)) (kk : W p l e R s m args below meth c H locs cells slots Q (F0 m (pc + 3) ls (v :: rest))) : W p l e R s m args below meth c H locs cells slots Q (F0 m pc ls (.ref a :: rest)) :=
  k_get (k := 1) X inT8 wd_392 rfl (by decide) rfl hw q0 he hv hdg kk
theorem fp_392 {a : Nat} (X : CX p m c cc nL s args RX8 D ct) (hw : WD D A H0 H locs ws) (q0 : Nat) {fs : List Value} {v : Value} (he : ws[q0]? = some (a, .inr (8, fs))) (hn : narrow (.int) v = v) (hfit : fits (.int) v = true) (hl : 1 < fs.length) (hdg : decode cc pc = .ok (.putfield 15, 3)) (w1 : va_W) (h1 : ws.set q0 (a, .inr (8, fs.set 1 v)) = w1) (kk : ∀ (H1 : Heap) (locs1 : List Loc), WD D A H0 H1 locs1 w1 → W p l e R s m args below meth c H1 locs1 cells slots Q (F0 m (pc + 3) ls rest)) : W p l e R s m args below meth c H locs cells slots Q (F0 m pc ls (v :: .ref a :: rest)) :=
  k_put (k := 1) X inT8 tyX8_ok nmX8 wd_392 rfl (by decide) rfl rfl (by decide +kernel) hw q0 he hn hfit hl hdg w1 h1 kk
theorem fg_393 {a : Nat} (X : CX p m c cc nL s args RX11 D ct) (hw : WD D A H0 H locs ws) (q0 : Nat) {fs : List Value} {v : Value} (he : ws[q0]? = some (a, .inr (8, fs))) (hv : fs[1]? = some v) (hdg : decode cc pc = .ok (.getfield 364, 3)) (kk : W p l e R s m args below meth c H locs cells slots Q (F0 m (pc + 3) ls (v :: rest))) : W p l e R s m args below meth c H locs cells slots Q (F0 m pc ls (.ref a :: rest)) :=
  k_get (k := 1) X inT8 wd_393 rfl (by decide) rfl hw q0 he hv hdg kk
theorem fp_393 {a : Nat} (X : CX p m c cc nL s args RX11 D ct) (hw : WD D A H0 H locs ws) (q0 : Nat) {fs : List Value} {v : Value} (he : ws[q0]? = some (a, .inr (8, fs))) (hn : narrow (.int) v = v) (hfit : fits (.int) v = true) (hl : 1 < fs.length) (hdg : decode cc pc = .ok (.putfield 364, 3)) (w1 : va_W) (h1 : ws.set q0 (a, .inr (8, fs.set 1 v)) = w1) (kk : ∀ (H1 : Heap) (locs1 : List Loc), WD D A H0 H1 locs1 w1 → W p l e R s m args below meth c H1 locs1 cells slots Q (F0 m (pc + 3) ls rest)) : W p l e R s m args below meth c H locs cells slots Q (F0 m pc ls (v :: .ref a :: rest)) :=
  k_put (k := 1) X inT8 tyX8_ok nmX8 wd_393 rfl (by decide) rfl rfl (by decide +kernel) hw q0 he hn hfit hl hdg w1 h1 kk
theorem fg_394 {a : Nat} (X : CX p m c cc nL s args RX8 D ct) (hw : WD D A H0 H locs ws) (q0 : Nat) {fs : List Value} {v : Value} (he : ws[q0]? = some (a, .inr (8, fs))) (hv : fs[2]? = some v) (hdg : decode cc pc = .ok (.getfield 19, 3)) (kk : W p l e R s m args below meth c H locs cells slots Q (F0 m (pc + 3) ls (v :: rest))) : W p l e R s m args below meth c H locs cells slots Q (F0 m pc ls (.ref a :: rest)) :=
  k_get (k := 2) X inT8 wd_394 rfl (by decide) rfl hw q0 he hv hdg kk
theorem fp_394 {a : Nat} (X : CX p m c cc nL s args RX8 D ct) (hw : WD D A H0 H locs ws) (q0 : Nat) {fs : List Value} {v : Value} (he : ws[q0]? = some (a, .inr (8, fs))) (hn : narrow (.int) v = v) (hfit : fits (.int) v = true) (hl : 2 < fs.length) (hdg : decode cc pc = .ok (.putfield 19, 3)) (w1 : va_W) (h1 : ws.set q0 (a, .inr (8, fs.set 2 v)) = w1) (kk : ∀ (H1 : Heap) (locs1 : List Loc), WD D A H0 H1 locs1 w1 → W p l e R s m args below meth c H1 locs1 cells slots Q (F0 m (pc + 3) ls rest)) : W p l e R s m args below meth c H locs cells slots Q (F0 m pc ls (v :: .ref a :: rest)) :=
  k_put (k := 2) X inT8 tyX8_ok nmX8 wd_394 rfl (by decide) rfl rfl (by decide +kernel) hw q0 he hn hfit hl hdg w1 h1 kk
theorem fg_395 {a : Nat} (X : CX p m c cc nL s args RX0 D ct) (hw : WD D A H0 H locs ws) (q0 : Nat) {fs : List Value} {v : Value} (he : ws[q0]? = some (a, .inr (8, fs))) (hv : fs[2]? = some v) (hdg : decode cc pc = .ok (.getfield 112, 3)) (kk : W p l e R s m args below meth c H locs cells slots Q (F0 m (pc + 3) ls (v :: rest))) : W p l e R s m args below meth c H locs cells slots Q (F0 m pc ls (.ref a :: rest)) :=
  k_get (k := 2) X inT8 wd_395 rfl (by decide) rfl hw q0 he hv hdg kk
theorem fp_395 {a : Nat} (X : CX p m c cc nL s args RX0 D ct) (hw : WD D A H0 H locs ws) (q0 : Nat) {fs : List Value} {v : Value} (he : ws[q0]? = some (a, .inr (8, fs))) (hn : narrow (.int) v = v) (hfit : fits (.int) v = true) (hl : 2 < fs.length) (hdg : decode cc pc = .ok (.putfield 112, 3)) (w1 : va_W) (h1 : ws.set q0 (a, .inr (8, fs.set 2 v)) = w1) (kk : ∀ (H1 : Heap) (locs1 : List Loc), WD D A H0 H1 locs1 w1 → W p l e R s m args below meth c H1 locs1 cells slots Q (F0 m (pc + 3) ls rest)) : W p l e R s m args below meth c H locs cells slots Q (F0 m pc ls (v :: .ref a :: rest)) :=
  k_put (k := 2) X inT8 tyX8_ok nmX8 wd_395 rfl (by decide) rfl rfl (by decide +kernel) hw q0 he hn hfit hl hdg w1 h1 kk
theorem fg_396 {a : Nat} (X : CX p m c cc nL s args RX11 D ct) (hw : WD D A H0 H locs ws) (q0 : Nat) {fs : List Value} {v : Value} (he : ws[q0]? = some (a, .inr (8, fs))) (hv : fs[2]? = some v) (hdg : decode cc pc = .ok (.getfield 210, 3)) (kk : W p l e R s m args below meth c H locs cells slots Q (F0 m (pc + 3) ls (v :: rest))) : W p l e R s m args below meth c H locs cells slots Q (F0 m pc ls (.ref a :: rest)) :=
  k_get (k := 2) X inT8 wd_396 rfl (by decide) rfl hw q0 he hv hdg kk
theorem fp_396 {a : Nat} (X : CX p m c cc nL s args RX11 D ct) (hw : WD D A H0 H locs ws) (q0 : Nat) {fs : List Value} {v : Value} (he : ws[q0]? = some (a, .inr (8, fs))) (hn : narrow (.int) v = v) (hfit : fits (.int) v = true) (hl : 2 < fs.length) (hdg : decode cc pc = .ok (.putfield 210, 3)) (w1 : va_W) (h1 : ws.set q0 (a, .inr (8, fs.set 2 v)) = w1) (kk : ∀ (H1 : Heap) (locs1 : List Loc), WD D A H0 H1 locs1 w1 → W p l e R s m args below meth c H1 locs1 cells slots Q (F0 m (pc + 3) ls rest)) : W p l e R s m args below meth c H locs cells slots Q (F0 m pc ls (v :: .ref a :: rest)) :=
  k_put (k := 2) X inT8 tyX8_ok nmX8 wd_396 rfl (by decide) rfl rfl (by decide +kernel) hw q0 he hn hfit hl hdg w1 h1 kk
theorem fg_397 {a : Nat} (X : CX p m c cc nL s args RX8 D ct) (hw : WD D A H0 H locs ws) (q0 : Nat) {fs : List Value} {v : Value} (he : ws[q0]? = some (a, .inr (8, fs))) (hv : fs[3]? = some v) (hdg : decode cc pc = .ok (.getfield 22, 3)) (kk : W p l e R s m args below meth c H locs cells slots Q (F0 m (pc + 3) ls (v :: rest))) : W p l e R s m args below meth c H locs cells slots Q (F0 m pc ls (.ref a :: rest)) :=
  k_get (k := 3) X inT8 wd_397 rfl (by decide) rfl hw q0 he hv hdg kk
theorem fp_397 {a : Nat} (X : CX p m c cc nL s args RX8 D ct) (hnam : meth.name = "<init>") (hw : WD D A H0 H locs ws) (q0 : Nat) {fs : List Value} {v : Value} (he : ws[q0]? = some (a, .inr (8, fs))) (hn : narrow (.array (.int)) v = v) (hfit : fits (.array (.int)) v = true) (hl : 3 < fs.length) (hdg : decode cc pc = .ok (.putfield 22, 3)) (w1 : va_W) (h1 : ws.set q0 (a, .inr (8, fs.set 3 v)) = w1) (kk : ∀ (H1 : Heap) (locs1 : List Loc), WD D A H0 H1 locs1 w1 → W p l e R s m args below meth c H1 locs1 cells slots Q (F0 m (pc + 3) ls rest)) : W p l e R s m args below meth c H locs cells slots Q (F0 m pc ls (v :: .ref a :: rest)) :=
  k_putF (k := 3) X inT8 tyX8_ok nmX8 wd_397 rfl (by decide) rfl rfl rfl (by decide +kernel) hnam hw q0 he hn hfit hl hdg w1 h1 kk
theorem fg_398 {a : Nat} (X : CX p m c cc nL s args RX8 D ct) (hw : WD D A H0 H locs ws) (q0 : Nat) {fs : List Value} {v : Value} (he : ws[q0]? = some (a, .inr (8, fs))) (hv : fs[4]? = some v) (hdg : decode cc pc = .ok (.getfield 25, 3)) (kk : W p l e R s m args below meth c H locs cells slots Q (F0 m (pc + 3) ls (v :: rest))) : W p l e R s m args below meth c H locs cells slots Q (F0 m pc ls (.ref a :: rest)) :=
  k_get (k := 4) X inT8 wd_398 rfl (by decide) rfl hw q0 he hv hdg kk
theorem fp_398 {a : Nat} (X : CX p m c cc nL s args RX8 D ct) (hnam : meth.name = "<init>") (hw : WD D A H0 H locs ws) (q0 : Nat) {fs : List Value} {v : Value} (he : ws[q0]? = some (a, .inr (8, fs))) (hn : narrow (.object "FloorsByLot$House") v = v) (hfit : fits (.object "FloorsByLot$House") v = true) (hl : 4 < fs.length) (hdg : decode cc pc = .ok (.putfield 25, 3)) (w1 : va_W) (h1 : ws.set q0 (a, .inr (8, fs.set 4 v)) = w1) (kk : ∀ (H1 : Heap) (locs1 : List Loc), WD D A H0 H1 locs1 w1 → W p l e R s m args below meth c H1 locs1 cells slots Q (F0 m (pc + 3) ls rest)) : W p l e R s m args below meth c H locs cells slots Q (F0 m pc ls (v :: .ref a :: rest)) :=
  k_putF (k := 4) X inT8 tyX8_ok nmX8 wd_398 rfl (by decide) rfl rfl rfl (by decide +kernel) hnam hw q0 he hn hfit hl hdg w1 h1 kk
theorem fg_399 {a : Nat} (X : CX p m c cc nL s args RX8 D ct) (hw : WD D A H0 H locs ws) (q0 : Nat) {fs : List Value} {v : Value} (he : ws[q0]? = some (a, .inr (8, fs))) (hv : fs[5]? = some v) (hdg : decode cc pc = .ok (.getfield 29, 3)) (kk : W p l e R s m args below meth c H locs cells slots Q (F0 m (pc + 3) ls (v :: rest))) : W p l e R s m args below meth c H locs cells slots Q (F0 m pc ls (.ref a :: rest)) :=
  k_get (k := 5) X inT8 wd_399 rfl (by decide) rfl hw q0 he hv hdg kk
theorem fp_399 {a : Nat} (X : CX p m c cc nL s args RX8 D ct) (hnam : meth.name = "<init>") (hw : WD D A H0 H locs ws) (q0 : Nat) {fs : List Value} {v : Value} (he : ws[q0]? = some (a, .inr (8, fs))) (hn : narrow (.object "FloorsByLot$Table") v = v) (hfit : fits (.object "FloorsByLot$Table") v = true) (hl : 5 < fs.length) (hdg : decode cc pc = .ok (.putfield 29, 3)) (w1 : va_W) (h1 : ws.set q0 (a, .inr (8, fs.set 5 v)) = w1) (kk : ∀ (H1 : Heap) (locs1 : List Loc), WD D A H0 H1 locs1 w1 → W p l e R s m args below meth c H1 locs1 cells slots Q (F0 m (pc + 3) ls rest)) : W p l e R s m args below meth c H locs cells slots Q (F0 m pc ls (v :: .ref a :: rest)) :=
  k_putF (k := 5) X inT8 tyX8_ok nmX8 wd_399 rfl (by decide) rfl rfl rfl (by decide +kernel) hnam hw q0 he hn hfit hl hdg w1 h1 kk
theorem fg_419 {a : Nat} (X : CX p m c cc nL s args RX6 D ct) (hw : WD D A H0 H locs ws) (q0 : Nat) {fs : List Value} {v : Value} (he : ws[q0]? = some (a, .inr (6, fs))) (hv : fs[0]? = some v) (hdg : decode cc pc = .ok (.getfield 9, 3)) (kk : W p l e R s m args below meth c H locs cells slots Q (F0 m (pc + 3) ls (v :: rest))) : W p l e R s m args below meth c H locs cells slots Q (F0 m pc ls (.ref a :: rest)) :=
  k_get (k := 0) X inT6 wd_419 rfl (by decide) rfl hw q0 he hv hdg kk
theorem fp_419 {a : Nat} (X : CX p m c cc nL s args RX6 D ct) (hw : WD D A H0 H locs ws) (q0 : Nat) {fs : List Value} {v : Value} (he : ws[q0]? = some (a, .inr (6, fs))) (hn : narrow (.int) v = v) (hfit : fits (.int) v = true) (hl : 0 < fs.length) (hdg : decode cc pc = .ok (.putfield 9, 3)) (w1 : va_W) (h1 : ws.set q0 (a, .inr (6, fs.set 0 v)) = w1) (kk : ∀ (H1 : Heap) (locs1 : List Loc), WD D A H0 H1 locs1 w1 → W p l e R s m args below meth c H1 locs1 cells slots Q (F0 m (pc + 3) ls rest)) : W p l e R s m args below meth c H locs cells slots Q (F0 m pc ls (v :: .ref a :: rest)) :=
  k_put (k := 0) X inT6 tyX6_ok nmX6 wd_419 rfl (by decide) rfl rfl (by decide +kernel) hw q0 he hn hfit hl hdg w1 h1 kk
theorem fg_420 {a : Nat} (X : CX p m c cc nL s args RX11 D ct) (hw : WD D A H0 H locs ws) (q0 : Nat) {fs : List Value} {v : Value} (he : ws[q0]? = some (a, .inr (6, fs))) (hv : fs[0]? = some v) (hdg : decode cc pc = .ok (.getfield 339, 3)) (kk : W p l e R s m args below meth c H locs cells slots Q (F0 m (pc + 3) ls (v :: rest))) : W p l e R s m args below meth c H locs cells slots Q (F0 m pc ls (.ref a :: rest)) :=
  k_get (k := 0) X inT6 wd_420 rfl (by decide) rfl hw q0 he hv hdg kk
theorem fp_420 {a : Nat} (X : CX p m c cc nL s args RX11 D ct) (hw : WD D A H0 H locs ws) (q0 : Nat) {fs : List Value} {v : Value} (he : ws[q0]? = some (a, .inr (6, fs))) (hn : narrow (.int) v = v) (hfit : fits (.int) v = true) (hl : 0 < fs.length) (hdg : decode cc pc = .ok (.putfield 339, 3)) (w1 : va_W) (h1 : ws.set q0 (a, .inr (6, fs.set 0 v)) = w1) (kk : ∀ (H1 : Heap) (locs1 : List Loc), WD D A H0 H1 locs1 w1 → W p l e R s m args below meth c H1 locs1 cells slots Q (F0 m (pc + 3) ls rest)) : W p l e R s m args below meth c H locs cells slots Q (F0 m pc ls (v :: .ref a :: rest)) :=
  k_put (k := 0) X inT6 tyX6_ok nmX6 wd_420 rfl (by decide) rfl rfl (by decide +kernel) hw q0 he hn hfit hl hdg w1 h1 kk
theorem fg_421 {a : Nat} (X : CX p m c cc nL s args RX6 D ct) (hw : WD D A H0 H locs ws) (q0 : Nat) {fs : List Value} {v : Value} (he : ws[q0]? = some (a, .inr (6, fs))) (hv : fs[1]? = some v) (hdg : decode cc pc = .ok (.getfield 15, 3)) (kk : W p l e R s m args below meth c H locs cells slots Q (F0 m (pc + 3) ls (v :: rest))) : W p l e R s m args below meth c H locs cells slots Q (F0 m pc ls (.ref a :: rest)) :=
  k_get (k := 1) X inT6 wd_421 rfl (by decide) rfl hw q0 he hv hdg kk
theorem fp_421 {a : Nat} (X : CX p m c cc nL s args RX6 D ct) (hnam : meth.name = "<init>") (hw : WD D A H0 H locs ws) (q0 : Nat) {fs : List Value} {v : Value} (he : ws[q0]? = some (a, .inr (6, fs))) (hn : narrow (.array (.int)) v = v) (hfit : fits (.array (.int)) v = true) (hl : 1 < fs.length) (hdg : decode cc pc = .ok (.putfield 15, 3)) (w1 : va_W) (h1 : ws.set q0 (a, .inr (6, fs.set 1 v)) = w1) (kk : ∀ (H1 : Heap) (locs1 : List Loc), WD D A H0 H1 locs1 w1 → W p l e R s m args below meth c H1 locs1 cells slots Q (F0 m (pc + 3) ls rest)) : W p l e R s m args below meth c H locs cells slots Q (F0 m pc ls (v :: .ref a :: rest)) :=
  k_putF (k := 1) X inT6 tyX6_ok nmX6 wd_421 rfl (by decide) rfl rfl rfl (by decide +kernel) hnam hw q0 he hn hfit hl hdg w1 h1 kk
theorem fg_422 {a : Nat} (X : CX p m c cc nL s args RX11 D ct) (hw : WD D A H0 H locs ws) (q0 : Nat) {fs : List Value} {v : Value} (he : ws[q0]? = some (a, .inr (6, fs))) (hv : fs[1]? = some v) (hdg : decode cc pc = .ok (.getfield 342, 3)) (kk : W p l e R s m args below meth c H locs cells slots Q (F0 m (pc + 3) ls (v :: rest))) : W p l e R s m args below meth c H locs cells slots Q (F0 m pc ls (.ref a :: rest)) :=
  k_get (k := 1) X inT6 wd_422 rfl (by decide) rfl hw q0 he hv hdg kk
theorem fg_423 {a : Nat} (X : CX p m c cc nL s args RX6 D ct) (hw : WD D A H0 H locs ws) (q0 : Nat) {fs : List Value} {v : Value} (he : ws[q0]? = some (a, .inr (6, fs))) (hv : fs[2]? = some v) (hdg : decode cc pc = .ok (.getfield 34, 3)) (kk : W p l e R s m args below meth c H locs cells slots Q (F0 m (pc + 3) ls (v :: rest))) : W p l e R s m args below meth c H locs cells slots Q (F0 m pc ls (.ref a :: rest)) :=
  k_get (k := 2) X inT6 wd_423 rfl (by decide) rfl hw q0 he hv hdg kk
theorem fp_423 {a : Nat} (X : CX p m c cc nL s args RX6 D ct) (hnam : meth.name = "<init>") (hw : WD D A H0 H locs ws) (q0 : Nat) {fs : List Value} {v : Value} (he : ws[q0]? = some (a, .inr (6, fs))) (hn : narrow (.object "FloorsByLot$House") v = v) (hfit : fits (.object "FloorsByLot$House") v = true) (hl : 2 < fs.length) (hdg : decode cc pc = .ok (.putfield 34, 3)) (w1 : va_W) (h1 : ws.set q0 (a, .inr (6, fs.set 2 v)) = w1) (kk : ∀ (H1 : Heap) (locs1 : List Loc), WD D A H0 H1 locs1 w1 → W p l e R s m args below meth c H1 locs1 cells slots Q (F0 m (pc + 3) ls rest)) : W p l e R s m args below meth c H locs cells slots Q (F0 m pc ls (v :: .ref a :: rest)) :=
  k_putF (k := 2) X inT6 tyX6_ok nmX6 wd_423 rfl (by decide) rfl rfl rfl (by decide +kernel) hnam hw q0 he hn hfit hl hdg w1 h1 kk
theorem fg_424 {a : Nat} (X : CX p m c cc nL s args RX6 D ct) (hw : WD D A H0 H locs ws) (q0 : Nat) {fs : List Value} {v : Value} (he : ws[q0]? = some (a, .inr (6, fs))) (hv : fs[3]? = some v) (hdg : decode cc pc = .ok (.getfield 19, 3)) (kk : W p l e R s m args below meth c H locs cells slots Q (F0 m (pc + 3) ls (v :: rest))) : W p l e R s m args below meth c H locs cells slots Q (F0 m pc ls (.ref a :: rest)) :=
  k_get (k := 3) X inT6 wd_424 rfl (by decide) rfl hw q0 he hv hdg kk
theorem fp_424 {a : Nat} (X : CX p m c cc nL s args RX6 D ct) (hnam : meth.name = "<init>") (hw : WD D A H0 H locs ws) (q0 : Nat) {fs : List Value} {v : Value} (he : ws[q0]? = some (a, .inr (6, fs))) (hn : narrow (.array (.int)) v = v) (hfit : fits (.array (.int)) v = true) (hl : 3 < fs.length) (hdg : decode cc pc = .ok (.putfield 19, 3)) (w1 : va_W) (h1 : ws.set q0 (a, .inr (6, fs.set 3 v)) = w1) (kk : ∀ (H1 : Heap) (locs1 : List Loc), WD D A H0 H1 locs1 w1 → W p l e R s m args below meth c H1 locs1 cells slots Q (F0 m (pc + 3) ls rest)) : W p l e R s m args below meth c H locs cells slots Q (F0 m pc ls (v :: .ref a :: rest)) :=
  k_putF (k := 3) X inT6 tyX6_ok nmX6 wd_424 rfl (by decide) rfl rfl rfl (by decide +kernel) hnam hw q0 he hn hfit hl hdg w1 h1 kk
theorem fg_425 {a : Nat} (X : CX p m c cc nL s args RX6 D ct) (hw : WD D A H0 H locs ws) (q0 : Nat) {fs : List Value} {v : Value} (he : ws[q0]? = some (a, .inr (6, fs))) (hv : fs[4]? = some v) (hdg : decode cc pc = .ok (.getfield 22, 3)) (kk : W p l e R s m args below meth c H locs cells slots Q (F0 m (pc + 3) ls (v :: rest))) : W p l e R s m args below meth c H locs cells slots Q (F0 m pc ls (.ref a :: rest)) :=
  k_get (k := 4) X inT6 wd_425 rfl (by decide) rfl hw q0 he hv hdg kk
theorem fp_425 {a : Nat} (X : CX p m c cc nL s args RX6 D ct) (hnam : meth.name = "<init>") (hw : WD D A H0 H locs ws) (q0 : Nat) {fs : List Value} {v : Value} (he : ws[q0]? = some (a, .inr (6, fs))) (hn : narrow (.array (.int)) v = v) (hfit : fits (.array (.int)) v = true) (hl : 4 < fs.length) (hdg : decode cc pc = .ok (.putfield 22, 3)) (w1 : va_W) (h1 : ws.set q0 (a, .inr (6, fs.set 4 v)) = w1) (kk : ∀ (H1 : Heap) (locs1 : List Loc), WD D A H0 H1 locs1 w1 → W p l e R s m args below meth c H1 locs1 cells slots Q (F0 m (pc + 3) ls rest)) : W p l e R s m args below meth c H locs cells slots Q (F0 m pc ls (v :: .ref a :: rest)) :=
  k_putF (k := 4) X inT6 tyX6_ok nmX6 wd_425 rfl (by decide) rfl rfl rfl (by decide +kernel) hnam hw q0 he hn hfit hl hdg w1 h1 kk
theorem fg_426 {a : Nat} (X : CX p m c cc nL s args RX6 D ct) (hw : WD D A H0 H locs ws) (q0 : Nat) {fs : List Value} {v : Value} (he : ws[q0]? = some (a, .inr (6, fs))) (hv : fs[5]? = some v) (hdg : decode cc pc = .ok (.getfield 25, 3)) (kk : W p l e R s m args below meth c H locs cells slots Q (F0 m (pc + 3) ls (v :: rest))) : W p l e R s m args below meth c H locs cells slots Q (F0 m pc ls (.ref a :: rest)) :=
  k_get (k := 5) X inT6 wd_426 rfl (by decide) rfl hw q0 he hv hdg kk
theorem fp_426 {a : Nat} (X : CX p m c cc nL s args RX6 D ct) (hnam : meth.name = "<init>") (hw : WD D A H0 H locs ws) (q0 : Nat) {fs : List Value} {v : Value} (he : ws[q0]? = some (a, .inr (6, fs))) (hn : narrow (.array (.int)) v = v) (hfit : fits (.array (.int)) v = true) (hl : 5 < fs.length) (hdg : decode cc pc = .ok (.putfield 25, 3)) (w1 : va_W) (h1 : ws.set q0 (a, .inr (6, fs.set 5 v)) = w1) (kk : ∀ (H1 : Heap) (locs1 : List Loc), WD D A H0 H1 locs1 w1 → W p l e R s m args below meth c H1 locs1 cells slots Q (F0 m (pc + 3) ls rest)) : W p l e R s m args below meth c H locs cells slots Q (F0 m pc ls (v :: .ref a :: rest)) :=
  k_putF (k := 5) X inT6 tyX6_ok nmX6 wd_426 rfl (by decide) rfl rfl rfl (by decide +kernel) hnam hw q0 he hn hfit hl hdg w1 h1 kk
theorem fg_427 {a : Nat} (X : CX p m c cc nL s args RX6 D ct) (hw : WD D A H0 H locs ws) (q0 : Nat) {fs : List Value} {v : Value} (he : ws[q0]? = some (a, .inr (6, fs))) (hv : fs[6]? = some v) (hdg : decode cc pc = .ok (.getfield 28, 3)) (kk : W p l e R s m args below meth c H locs cells slots Q (F0 m (pc + 3) ls (v :: rest))) : W p l e R s m args below meth c H locs cells slots Q (F0 m pc ls (.ref a :: rest)) :=
  k_get (k := 6) X inT6 wd_427 rfl (by decide) rfl hw q0 he hv hdg kk
theorem fp_427 {a : Nat} (X : CX p m c cc nL s args RX6 D ct) (hnam : meth.name = "<init>") (hw : WD D A H0 H locs ws) (q0 : Nat) {fs : List Value} {v : Value} (he : ws[q0]? = some (a, .inr (6, fs))) (hn : narrow (.array (.int)) v = v) (hfit : fits (.array (.int)) v = true) (hl : 6 < fs.length) (hdg : decode cc pc = .ok (.putfield 28, 3)) (w1 : va_W) (h1 : ws.set q0 (a, .inr (6, fs.set 6 v)) = w1) (kk : ∀ (H1 : Heap) (locs1 : List Loc), WD D A H0 H1 locs1 w1 → W p l e R s m args below meth c H1 locs1 cells slots Q (F0 m (pc + 3) ls rest)) : W p l e R s m args below meth c H locs cells slots Q (F0 m pc ls (v :: .ref a :: rest)) :=
  k_putF (k := 6) X inT6 tyX6_ok nmX6 wd_427 rfl (by decide) rfl rfl rfl (by decide +kernel) hnam hw q0 he hn hfit hl hdg w1 h1 kk
theorem fg_428 {a : Nat} (X : CX p m c cc nL s args RX6 D ct) (hw : WD D A H0 H locs ws) (q0 : Nat) {fs : List Value} {v : Value} (he : ws[q0]? = some (a, .inr (6, fs))) (hv : fs[7]? = some v) (hdg : decode cc pc = .ok (.getfield 31, 3)) (kk : W p l e R s m args below meth c H locs cells slots Q (F0 m (pc + 3) ls (v :: rest))) : W p l e R s m args below meth c H locs cells slots Q (F0 m pc ls (.ref a :: rest)) :=
  k_get (k := 7) X inT6 wd_428 rfl (by decide) rfl hw q0 he hv hdg kk
theorem fp_428 {a : Nat} (X : CX p m c cc nL s args RX6 D ct) (hw : WD D A H0 H locs ws) (q0 : Nat) {fs : List Value} {v : Value} (he : ws[q0]? = some (a, .inr (6, fs))) (hn : narrow (.int) v = v) (hfit : fits (.int) v = true) (hl : 7 < fs.length) (hdg : decode cc pc = .ok (.putfield 31, 3)) (w1 : va_W) (h1 : ws.set q0 (a, .inr (6, fs.set 7 v)) = w1) (kk : ∀ (H1 : Heap) (locs1 : List Loc), WD D A H0 H1 locs1 w1 → W p l e R s m args below meth c H1 locs1 cells slots Q (F0 m (pc + 3) ls rest)) : W p l e R s m args below meth c H locs cells slots Q (F0 m pc ls (v :: .ref a :: rest)) :=
  k_put (k := 7) X inT6 tyX6_ok nmX6 wd_428 rfl (by decide) rfl rfl (by decide +kernel) hw q0 he hn hfit hl hdg w1 h1 kk
theorem fg_452 {a : Nat} (X : CX p m c cc nL s args RX3 D ct) (hw : WD D A H0 H locs ws) (q0 : Nat) {fs : List Value} {v : Value} (he : ws[q0]? = some (a, .inr (3, fs))) (hv : fs[0]? = some v) (hdg : decode cc pc = .ok (.getfield 40, 3)) (kk : W p l e R s m args below meth c H locs cells slots Q (F0 m (pc + 3) ls (v :: rest))) : W p l e R s m args below meth c H locs cells slots Q (F0 m pc ls (.ref a :: rest)) :=
  k_get (k := 0) X inT3 wd_452 rfl (by decide) rfl hw q0 he hv hdg kk
theorem fp_452 {a : Nat} (X : CX p m c cc nL s args RX3 D ct) (hnam : meth.name = "<init>") (hw : WD D A H0 H locs ws) (q0 : Nat) {fs : List Value} {v : Value} (he : ws[q0]? = some (a, .inr (3, fs))) (hn : narrow (.object "FloorsByLot$House") v = v) (hfit : fits (.object "FloorsByLot$House") v = true) (hl : 0 < fs.length) (hdg : decode cc pc = .ok (.putfield 40, 3)) (w1 : va_W) (h1 : ws.set q0 (a, .inr (3, fs.set 0 v)) = w1) (kk : ∀ (H1 : Heap) (locs1 : List Loc), WD D A H0 H1 locs1 w1 → W p l e R s m args below meth c H1 locs1 cells slots Q (F0 m (pc + 3) ls rest)) : W p l e R s m args below meth c H locs cells slots Q (F0 m pc ls (v :: .ref a :: rest)) :=
  k_putF (k := 0) X inT3 tyX3_ok nmX3 wd_452 rfl (by decide) rfl rfl rfl (by decide +kernel) hnam hw q0 he hn hfit hl hdg w1 h1 kk
theorem fg_453 {a : Nat} (X : CX p m c cc nL s args RX3 D ct) (hw : WD D A H0 H locs ws) (q0 : Nat) {fs : List Value} {v : Value} (he : ws[q0]? = some (a, .inr (3, fs))) (hv : fs[1]? = some v) (hdg : decode cc pc = .ok (.getfield 11, 3)) (kk : W p l e R s m args below meth c H locs cells slots Q (F0 m (pc + 3) ls (v :: rest))) : W p l e R s m args below meth c H locs cells slots Q (F0 m pc ls (.ref a :: rest)) :=
  k_get (k := 1) X inT3 wd_453 rfl (by decide) rfl hw q0 he hv hdg kk
theorem fp_453 {a : Nat} (X : CX p m c cc nL s args RX3 D ct) (hw : WD D A H0 H locs ws) (q0 : Nat) {fs : List Value} {v : Value} (he : ws[q0]? = some (a, .inr (3, fs))) (hn : narrow (.int) v = v) (hfit : fits (.int) v = true) (hl : 1 < fs.length) (hdg : decode cc pc = .ok (.putfield 11, 3)) (w1 : va_W) (h1 : ws.set q0 (a, .inr (3, fs.set 1 v)) = w1) (kk : ∀ (H1 : Heap) (locs1 : List Loc), WD D A H0 H1 locs1 w1 → W p l e R s m args below meth c H1 locs1 cells slots Q (F0 m (pc + 3) ls rest)) : W p l e R s m args below meth c H locs cells slots Q (F0 m pc ls (v :: .ref a :: rest)) :=
  k_put (k := 1) X inT3 tyX3_ok nmX3 wd_453 rfl (by decide) rfl rfl (by decide +kernel) hw q0 he hn hfit hl hdg w1 h1 kk
theorem fg_454 {a : Nat} (X : CX p m c cc nL s args RX3 D ct) (hw : WD D A H0 H locs ws) (q0 : Nat) {fs : List Value} {v : Value} (he : ws[q0]? = some (a, .inr (3, fs))) (hv : fs[2]? = some v) (hdg : decode cc pc = .ok (.getfield 15, 3)) (kk : W p l e R s m args below meth c H locs cells slots Q (F0 m (pc + 3) ls (v :: rest))) : W p l e R s m args below meth c H locs cells slots Q (F0 m pc ls (.ref a :: rest)) :=
  k_get (k := 2) X inT3 wd_454 rfl (by decide) rfl hw q0 he hv hdg kk
theorem fp_454 {a : Nat} (X : CX p m c cc nL s args RX3 D ct) (hnam : meth.name = "<init>") (hw : WD D A H0 H locs ws) (q0 : Nat) {fs : List Value} {v : Value} (he : ws[q0]? = some (a, .inr (3, fs))) (hn : narrow (.array (.int)) v = v) (hfit : fits (.array (.int)) v = true) (hl : 2 < fs.length) (hdg : decode cc pc = .ok (.putfield 15, 3)) (w1 : va_W) (h1 : ws.set q0 (a, .inr (3, fs.set 2 v)) = w1) (kk : ∀ (H1 : Heap) (locs1 : List Loc), WD D A H0 H1 locs1 w1 → W p l e R s m args below meth c H1 locs1 cells slots Q (F0 m (pc + 3) ls rest)) : W p l e R s m args below meth c H locs cells slots Q (F0 m pc ls (v :: .ref a :: rest)) :=
  k_putF (k := 2) X inT3 tyX3_ok nmX3 wd_454 rfl (by decide) rfl rfl rfl (by decide +kernel) hnam hw q0 he hn hfit hl hdg w1 h1 kk
theorem fg_455 {a : Nat} (X : CX p m c cc nL s args RX3 D ct) (hw : WD D A H0 H locs ws) (q0 : Nat) {fs : List Value} {v : Value} (he : ws[q0]? = some (a, .inr (3, fs))) (hv : fs[3]? = some v) (hdg : decode cc pc = .ok (.getfield 19, 3)) (kk : W p l e R s m args below meth c H locs cells slots Q (F0 m (pc + 3) ls (v :: rest))) : W p l e R s m args below meth c H locs cells slots Q (F0 m pc ls (.ref a :: rest)) :=
  k_get (k := 3) X inT3 wd_455 rfl (by decide) rfl hw q0 he hv hdg kk
theorem fp_455 {a : Nat} (X : CX p m c cc nL s args RX3 D ct) (hnam : meth.name = "<init>") (hw : WD D A H0 H locs ws) (q0 : Nat) {fs : List Value} {v : Value} (he : ws[q0]? = some (a, .inr (3, fs))) (hn : narrow (.array (.int)) v = v) (hfit : fits (.array (.int)) v = true) (hl : 3 < fs.length) (hdg : decode cc pc = .ok (.putfield 19, 3)) (w1 : va_W) (h1 : ws.set q0 (a, .inr (3, fs.set 3 v)) = w1) (kk : ∀ (H1 : Heap) (locs1 : List Loc), WD D A H0 H1 locs1 w1 → W p l e R s m args below meth c H1 locs1 cells slots Q (F0 m (pc + 3) ls rest)) : W p l e R s m args below meth c H locs cells slots Q (F0 m pc ls (v :: .ref a :: rest)) :=
  k_putF (k := 3) X inT3 tyX3_ok nmX3 wd_455 rfl (by decide) rfl rfl rfl (by decide +kernel) hnam hw q0 he hn hfit hl hdg w1 h1 kk
theorem fg_456 {a : Nat} (X : CX p m c cc nL s args RX3 D ct) (hw : WD D A H0 H locs ws) (q0 : Nat) {fs : List Value} {v : Value} (he : ws[q0]? = some (a, .inr (3, fs))) (hv : fs[4]? = some v) (hdg : decode cc pc = .ok (.getfield 22, 3)) (kk : W p l e R s m args below meth c H locs cells slots Q (F0 m (pc + 3) ls (v :: rest))) : W p l e R s m args below meth c H locs cells slots Q (F0 m pc ls (.ref a :: rest)) :=
  k_get (k := 4) X inT3 wd_456 rfl (by decide) rfl hw q0 he hv hdg kk
theorem fp_456 {a : Nat} (X : CX p m c cc nL s args RX3 D ct) (hnam : meth.name = "<init>") (hw : WD D A H0 H locs ws) (q0 : Nat) {fs : List Value} {v : Value} (he : ws[q0]? = some (a, .inr (3, fs))) (hn : narrow (.array (.int)) v = v) (hfit : fits (.array (.int)) v = true) (hl : 4 < fs.length) (hdg : decode cc pc = .ok (.putfield 22, 3)) (w1 : va_W) (h1 : ws.set q0 (a, .inr (3, fs.set 4 v)) = w1) (kk : ∀ (H1 : Heap) (locs1 : List Loc), WD D A H0 H1 locs1 w1 → W p l e R s m args below meth c H1 locs1 cells slots Q (F0 m (pc + 3) ls rest)) : W p l e R s m args below meth c H locs cells slots Q (F0 m pc ls (v :: .ref a :: rest)) :=
  k_putF (k := 4) X inT3 tyX3_ok nmX3 wd_456 rfl (by decide) rfl rfl rfl (by decide +kernel) hnam hw q0 he hn hfit hl hdg w1 h1 kk
theorem fg_457 {a : Nat} (X : CX p m c cc nL s args RX3 D ct) (hw : WD D A H0 H locs ws) (q0 : Nat) {fs : List Value} {v : Value} (he : ws[q0]? = some (a, .inr (3, fs))) (hv : fs[5]? = some v) (hdg : decode cc pc = .ok (.getfield 25, 3)) (kk : W p l e R s m args below meth c H locs cells slots Q (F0 m (pc + 3) ls (v :: rest))) : W p l e R s m args below meth c H locs cells slots Q (F0 m pc ls (.ref a :: rest)) :=
  k_get (k := 5) X inT3 wd_457 rfl (by decide) rfl hw q0 he hv hdg kk
theorem fp_457 {a : Nat} (X : CX p m c cc nL s args RX3 D ct) (hnam : meth.name = "<init>") (hw : WD D A H0 H locs ws) (q0 : Nat) {fs : List Value} {v : Value} (he : ws[q0]? = some (a, .inr (3, fs))) (hn : narrow (.array (.int)) v = v) (hfit : fits (.array (.int)) v = true) (hl : 5 < fs.length) (hdg : decode cc pc = .ok (.putfield 25, 3)) (w1 : va_W) (h1 : ws.set q0 (a, .inr (3, fs.set 5 v)) = w1) (kk : ∀ (H1 : Heap) (locs1 : List Loc), WD D A H0 H1 locs1 w1 → W p l e R s m args below meth c H1 locs1 cells slots Q (F0 m (pc + 3) ls rest)) : W p l e R s m args below meth c H locs cells slots Q (F0 m pc ls (v :: .ref a :: rest)) :=
  k_putF (k := 5) X inT3 tyX3_ok nmX3 wd_457 rfl (by decide) rfl rfl rfl (by decide +kernel) hnam hw q0 he hn hfit hl hdg w1 h1 kk
theorem fg_458 {a : Nat} (X : CX p m c cc nL s args RX3 D ct) (hw : WD D A H0 H locs ws) (q0 : Nat) {fs : List Value} {v : Value} (he : ws[q0]? = some (a, .inr (3, fs))) (hv : fs[6]? = some v) (hdg : decode cc pc = .ok (.getfield 28, 3)) (kk : W p l e R s m args below meth c H locs cells slots Q (F0 m (pc + 3) ls (v :: rest))) : W p l e R s m args below meth c H locs cells slots Q (F0 m pc ls (.ref a :: rest)) :=
  k_get (k := 6) X inT3 wd_458 rfl (by decide) rfl hw q0 he hv hdg kk
theorem fp_458 {a : Nat} (X : CX p m c cc nL s args RX3 D ct) (hnam : meth.name = "<init>") (hw : WD D A H0 H locs ws) (q0 : Nat) {fs : List Value} {v : Value} (he : ws[q0]? = some (a, .inr (3, fs))) (hn : narrow (.array (.int)) v = v) (hfit : fits (.array (.int)) v = true) (hl : 6 < fs.length) (hdg : decode cc pc = .ok (.putfield 28, 3)) (w1 : va_W) (h1 : ws.set q0 (a, .inr (3, fs.set 6 v)) = w1) (kk : ∀ (H1 : Heap) (locs1 : List Loc), WD D A H0 H1 locs1 w1 → W p l e R s m args below meth c H1 locs1 cells slots Q (F0 m (pc + 3) ls rest)) : W p l e R s m args below meth c H locs cells slots Q (F0 m pc ls (v :: .ref a :: rest)) :=
  k_putF (k := 6) X inT3 tyX3_ok nmX3 wd_458 rfl (by decide) rfl rfl rfl (by decide +kernel) hnam hw q0 he hn hfit hl hdg w1 h1 kk
theorem fg_459 {a : Nat} (X : CX p m c cc nL s args RX3 D ct) (hw : WD D A H0 H locs ws) (q0 : Nat) {fs : List Value} {v : Value} (he : ws[q0]? = some (a, .inr (3, fs))) (hv : fs[7]? = some v) (hdg : decode cc pc = .ok (.getfield 31, 3)) (kk : W p l e R s m args below meth c H locs cells slots Q (F0 m (pc + 3) ls (v :: rest))) : W p l e R s m args below meth c H locs cells slots Q (F0 m pc ls (.ref a :: rest)) :=
  k_get (k := 7) X inT3 wd_459 rfl (by decide) rfl hw q0 he hv hdg kk
theorem fp_459 {a : Nat} (X : CX p m c cc nL s args RX3 D ct) (hnam : meth.name = "<init>") (hw : WD D A H0 H locs ws) (q0 : Nat) {fs : List Value} {v : Value} (he : ws[q0]? = some (a, .inr (3, fs))) (hn : narrow (.array (.int)) v = v) (hfit : fits (.array (.int)) v = true) (hl : 7 < fs.length) (hdg : decode cc pc = .ok (.putfield 31, 3)) (w1 : va_W) (h1 : ws.set q0 (a, .inr (3, fs.set 7 v)) = w1) (kk : ∀ (H1 : Heap) (locs1 : List Loc), WD D A H0 H1 locs1 w1 → W p l e R s m args below meth c H1 locs1 cells slots Q (F0 m (pc + 3) ls rest)) : W p l e R s m args below meth c H locs cells slots Q (F0 m pc ls (v :: .ref a :: rest)) :=
  k_putF (k := 7) X inT3 tyX3_ok nmX3 wd_459 rfl (by decide) rfl rfl rfl (by decide +kernel) hnam hw q0 he hn hfit hl hdg w1 h1 kk
theorem fg_460 {a : Nat} (X : CX p m c cc nL s args RX3 D ct) (hw : WD D A H0 H locs ws) (q0 : Nat) {fs : List Value} {v : Value} (he : ws[q0]? = some (a, .inr (3, fs))) (hv : fs[8]? = some v) (hdg : decode cc pc = .ok (.getfield 34, 3)) (kk : W p l e R s m args below meth c H locs cells slots Q (F0 m (pc + 3) ls (v :: rest))) : W p l e R s m args below meth c H locs cells slots Q (F0 m pc ls (.ref a :: rest)) :=
  k_get (k := 8) X inT3 wd_460 rfl (by decide) rfl hw q0 he hv hdg kk
theorem fp_460 {a : Nat} (X : CX p m c cc nL s args RX3 D ct) (hnam : meth.name = "<init>") (hw : WD D A H0 H locs ws) (q0 : Nat) {fs : List Value} {v : Value} (he : ws[q0]? = some (a, .inr (3, fs))) (hn : narrow (.array (.int)) v = v) (hfit : fits (.array (.int)) v = true) (hl : 8 < fs.length) (hdg : decode cc pc = .ok (.putfield 34, 3)) (w1 : va_W) (h1 : ws.set q0 (a, .inr (3, fs.set 8 v)) = w1) (kk : ∀ (H1 : Heap) (locs1 : List Loc), WD D A H0 H1 locs1 w1 → W p l e R s m args below meth c H1 locs1 cells slots Q (F0 m (pc + 3) ls rest)) : W p l e R s m args below meth c H locs cells slots Q (F0 m pc ls (v :: .ref a :: rest)) :=
  k_putF (k := 8) X inT3 tyX3_ok nmX3 wd_460 rfl (by decide) rfl rfl rfl (by decide +kernel) hnam hw q0 he hn hfit hl hdg w1 h1 kk
theorem fg_461 {a : Nat} (X : CX p m c cc nL s args RX3 D ct) (hw : WD D A H0 H locs ws) (q0 : Nat) {fs : List Value} {v : Value} (he : ws[q0]? = some (a, .inr (3, fs))) (hv : fs[9]? = some v) (hdg : decode cc pc = .ok (.getfield 37, 3)) (kk : W p l e R s m args below meth c H locs cells slots Q (F0 m (pc + 3) ls (v :: rest))) : W p l e R s m args below meth c H locs cells slots Q (F0 m pc ls (.ref a :: rest)) :=
  k_get (k := 9) X inT3 wd_461 rfl (by decide) rfl hw q0 he hv hdg kk
theorem fp_461 {a : Nat} (X : CX p m c cc nL s args RX3 D ct) (hw : WD D A H0 H locs ws) (q0 : Nat) {fs : List Value} {v : Value} (he : ws[q0]? = some (a, .inr (3, fs))) (hn : narrow (.array (.int)) v = v) (hfit : fits (.array (.int)) v = true) (hl : 9 < fs.length) (hdg : decode cc pc = .ok (.putfield 37, 3)) (w1 : va_W) (h1 : ws.set q0 (a, .inr (3, fs.set 9 v)) = w1) (kk : ∀ (H1 : Heap) (locs1 : List Loc), WD D A H0 H1 locs1 w1 → W p l e R s m args below meth c H1 locs1 cells slots Q (F0 m (pc + 3) ls rest)) : W p l e R s m args below meth c H locs cells slots Q (F0 m pc ls (v :: .ref a :: rest)) :=
  k_put (k := 9) X inT3 tyX3_ok nmX3 wd_461 rfl (by decide) rfl rfl (by decide +kernel) hw q0 he hn hfit hl hdg w1 h1 kk
theorem fg_489 {a : Nat} (X : CX p m c cc nL s args RX0 D ct) (hw : WD D A H0 H locs ws) (q0 : Nat) {fs : List Value} {v : Value} (he : ws[q0]? = some (a, .inr (0, fs))) (hv : fs[0]? = some v) (hdg : decode cc pc = .ok (.getfield 9, 3)) (kk : W p l e R s m args below meth c H locs cells slots Q (F0 m (pc + 3) ls (v :: rest))) : W p l e R s m args below meth c H locs cells slots Q (F0 m pc ls (.ref a :: rest)) :=
  k_get (k := 0) X inT0 wd_489 rfl (by decide) rfl hw q0 he hv hdg kk
theorem fp_489 {a : Nat} (X : CX p m c cc nL s args RX0 D ct) (hw : WD D A H0 H locs ws) (q0 : Nat) {fs : List Value} {v : Value} (he : ws[q0]? = some (a, .inr (0, fs))) (hn : narrow (.boolean) v = v) (hfit : fits (.boolean) v = true) (hl : 0 < fs.length) (hdg : decode cc pc = .ok (.putfield 9, 3)) (w1 : va_W) (h1 : ws.set q0 (a, .inr (0, fs.set 0 v)) = w1) (kk : ∀ (H1 : Heap) (locs1 : List Loc), WD D A H0 H1 locs1 w1 → W p l e R s m args below meth c H1 locs1 cells slots Q (F0 m (pc + 3) ls rest)) : W p l e R s m args below meth c H locs cells slots Q (F0 m pc ls (v :: .ref a :: rest)) :=
  k_put (k := 0) X inT0 tyX0_ok nmX0 wd_489 rfl (by decide) rfl rfl (by decide +kernel) hw q0 he hn hfit hl hdg w1 h1 kk
theorem fg_490 {a : Nat} (X : CX p m c cc nL s args RX11 D ct) (hw : WD D A H0 H locs ws) (q0 : Nat) {fs : List Value} {v : Value} (he : ws[q0]? = some (a, .inr (0, fs))) (hv : fs[0]? = some v) (hdg : decode cc pc = .ok (.getfield 272, 3)) (kk : W p l e R s m args below meth c H locs cells slots Q (F0 m (pc + 3) ls (v :: rest))) : W p l e R s m args below meth c H locs cells slots Q (F0 m pc ls (.ref a :: rest)) :=
  k_get (k := 0) X inT0 wd_490 rfl (by decide) rfl hw q0 he hv hdg kk
theorem fp_490 {a : Nat} (X : CX p m c cc nL s args RX11 D ct) (hw : WD D A H0 H locs ws) (q0 : Nat) {fs : List Value} {v : Value} (he : ws[q0]? = some (a, .inr (0, fs))) (hn : narrow (.boolean) v = v) (hfit : fits (.boolean) v = true) (hl : 0 < fs.length) (hdg : decode cc pc = .ok (.putfield 272, 3)) (w1 : va_W) (h1 : ws.set q0 (a, .inr (0, fs.set 0 v)) = w1) (kk : ∀ (H1 : Heap) (locs1 : List Loc), WD D A H0 H1 locs1 w1 → W p l e R s m args below meth c H1 locs1 cells slots Q (F0 m (pc + 3) ls rest)) : W p l e R s m args below meth c H locs cells slots Q (F0 m pc ls (v :: .ref a :: rest)) :=
  k_put (k := 0) X inT0 tyX0_ok nmX0 wd_490 rfl (by decide) rfl rfl (by decide +kernel) hw q0 he hn hfit hl hdg w1 h1 kk
theorem fg_491 {a : Nat} (X : CX p m c cc nL s args RX0 D ct) (hw : WD D A H0 H locs ws) (q0 : Nat) {fs : List Value} {v : Value} (he : ws[q0]? = some (a, .inr (0, fs))) (hv : fs[1]? = some v) (hdg : decode cc pc = .ok (.getfield 15, 3)) (kk : W p l e R s m args below meth c H locs cells slots Q (F0 m (pc + 3) ls (v :: rest))) : W p l e R s m args below meth c H locs cells slots Q (F0 m pc ls (.ref a :: rest)) :=
  k_get (k := 1) X inT0 wd_491 rfl (by decide) rfl hw q0 he hv hdg kk
theorem fp_491 {a : Nat} (X : CX p m c cc nL s args RX0 D ct) (hw : WD D A H0 H locs ws) (q0 : Nat) {fs : List Value} {v : Value} (he : ws[q0]? = some (a, .inr (0, fs))) (hn : narrow (.int) v = v) (hfit : fits (.int) v = true) (hl : 1 < fs.length) (hdg : decode cc pc = .ok (.putfield 15, 3)) (w1 : va_W) (h1 : ws.set q0 (a, .inr (0, fs.set 1 v)) = w1) (kk : ∀ (H1 : Heap) (locs1 : List Loc), WD D A H0 H1 locs1 w1 → W p l e R s m args below meth c H1 locs1 cells slots Q (F0 m (pc + 3) ls rest)) : W p l e R s m args below meth c H locs cells slots Q (F0 m pc ls (v :: .ref a :: rest)) :=
  k_put (k := 1) X inT0 tyX0_ok nmX0 wd_491 rfl (by decide) rfl rfl (by decide +kernel) hw q0 he hn hfit hl hdg w1 h1 kk
theorem fg_492 {a : Nat} (X : CX p m c cc nL s args RX11 D ct) (hw : WD D A H0 H locs ws) (q0 : Nat) {fs : List Value} {v : Value} (he : ws[q0]? = some (a, .inr (0, fs))) (hv : fs[1]? = some v) (hdg : decode cc pc = .ok (.getfield 254, 3)) (kk : W p l e R s m args below meth c H locs cells slots Q (F0 m (pc + 3) ls (v :: rest))) : W p l e R s m args below meth c H locs cells slots Q (F0 m pc ls (.ref a :: rest)) :=
  k_get (k := 1) X inT0 wd_492 rfl (by decide) rfl hw q0 he hv hdg kk
theorem fp_492 {a : Nat} (X : CX p m c cc nL s args RX11 D ct) (hw : WD D A H0 H locs ws) (q0 : Nat) {fs : List Value} {v : Value} (he : ws[q0]? = some (a, .inr (0, fs))) (hn : narrow (.int) v = v) (hfit : fits (.int) v = true) (hl : 1 < fs.length) (hdg : decode cc pc = .ok (.putfield 254, 3)) (w1 : va_W) (h1 : ws.set q0 (a, .inr (0, fs.set 1 v)) = w1) (kk : ∀ (H1 : Heap) (locs1 : List Loc), WD D A H0 H1 locs1 w1 → W p l e R s m args below meth c H1 locs1 cells slots Q (F0 m (pc + 3) ls rest)) : W p l e R s m args below meth c H locs cells slots Q (F0 m pc ls (v :: .ref a :: rest)) :=
  k_put (k := 1) X inT0 tyX0_ok nmX0 wd_492 rfl (by decide) rfl rfl (by decide +kernel) hw q0 he hn hfit hl hdg w1 h1 kk
theorem fg_493 {a : Nat} (X : CX p m c cc nL s args RX0 D ct) (hw : WD D A H0 H locs ws) (q0 : Nat) {fs : List Value} {v : Value} (he : ws[q0]? = some (a, .inr (0, fs))) (hv : fs[2]? = some v) (hdg : decode cc pc = .ok (.getfield 19, 3)) (kk : W p l e R s m args below meth c H locs cells slots Q (F0 m (pc + 3) ls (v :: rest))) : W p l e R s m args below meth c H locs cells slots Q (F0 m pc ls (.ref a :: rest)) :=
  k_get (k := 2) X inT0 wd_493 rfl (by decide) rfl hw q0 he hv hdg kk
theorem fp_493 {a : Nat} (X : CX p m c cc nL s args RX0 D ct) (hw : WD D A H0 H locs ws) (q0 : Nat) {fs : List Value} {v : Value} (he : ws[q0]? = some (a, .inr (0, fs))) (hn : narrow (.int) v = v) (hfit : fits (.int) v = true) (hl : 2 < fs.length) (hdg : decode cc pc = .ok (.putfield 19, 3)) (w1 : va_W) (h1 : ws.set q0 (a, .inr (0, fs.set 2 v)) = w1) (kk : ∀ (H1 : Heap) (locs1 : List Loc), WD D A H0 H1 locs1 w1 → W p l e R s m args below meth c H1 locs1 cells slots Q (F0 m (pc + 3) ls rest)) : W p l e R s m args below meth c H locs cells slots Q (F0 m pc ls (v :: .ref a :: rest)) :=
  k_put (k := 2) X inT0 tyX0_ok nmX0 wd_493 rfl (by decide) rfl rfl (by decide +kernel) hw q0 he hn hfit hl hdg w1 h1 kk
theorem fg_494 {a : Nat} (X : CX p m c cc nL s args RX11 D ct) (hw : WD D A H0 H locs ws) (q0 : Nat) {fs : List Value} {v : Value} (he : ws[q0]? = some (a, .inr (0, fs))) (hv : fs[2]? = some v) (hdg : decode cc pc = .ok (.getfield 203, 3)) (kk : W p l e R s m args below meth c H locs cells slots Q (F0 m (pc + 3) ls (v :: rest))) : W p l e R s m args below meth c H locs cells slots Q (F0 m pc ls (.ref a :: rest)) :=
  k_get (k := 2) X inT0 wd_494 rfl (by decide) rfl hw q0 he hv hdg kk
theorem fp_494 {a : Nat} (X : CX p m c cc nL s args RX11 D ct) (hw : WD D A H0 H locs ws) (q0 : Nat) {fs : List Value} {v : Value} (he : ws[q0]? = some (a, .inr (0, fs))) (hn : narrow (.int) v = v) (hfit : fits (.int) v = true) (hl : 2 < fs.length) (hdg : decode cc pc = .ok (.putfield 203, 3)) (w1 : va_W) (h1 : ws.set q0 (a, .inr (0, fs.set 2 v)) = w1) (kk : ∀ (H1 : Heap) (locs1 : List Loc), WD D A H0 H1 locs1 w1 → W p l e R s m args below meth c H1 locs1 cells slots Q (F0 m (pc + 3) ls rest)) : W p l e R s m args below meth c H locs cells slots Q (F0 m pc ls (v :: .ref a :: rest)) :=
  k_put (k := 2) X inT0 tyX0_ok nmX0 wd_494 rfl (by decide) rfl rfl (by decide +kernel) hw q0 he hn hfit hl hdg w1 h1 kk
theorem fg_495 {a : Nat} (X : CX p m c cc nL s args RX0 D ct) (hw : WD D A H0 H locs ws) (q0 : Nat) {fs : List Value} {v : Value} (he : ws[q0]? = some (a, .inr (0, fs))) (hv : fs[3]? = some v) (hdg : decode cc pc = .ok (.getfield 29, 3)) (kk : W p l e R s m args below meth c H locs cells slots Q (F0 m (pc + 3) ls (v :: rest))) : W p l e R s m args below meth c H locs cells slots Q (F0 m pc ls (.ref a :: rest)) :=
  k_get (k := 3) X inT0 wd_495 rfl (by decide) rfl hw q0 he hv hdg kk
theorem fp_495 {a : Nat} (X : CX p m c cc nL s args RX0 D ct) (hnam : meth.name = "<init>") (hw : WD D A H0 H locs ws) (q0 : Nat) {fs : List Value} {v : Value} (he : ws[q0]? = some (a, .inr (0, fs))) (hn : narrow (.object "FloorsByLot$House") v = v) (hfit : fits (.object "FloorsByLot$House") v = true) (hl : 3 < fs.length) (hdg : decode cc pc = .ok (.putfield 29, 3)) (w1 : va_W) (h1 : ws.set q0 (a, .inr (0, fs.set 3 v)) = w1) (kk : ∀ (H1 : Heap) (locs1 : List Loc), WD D A H0 H1 locs1 w1 → W p l e R s m args below meth c H1 locs1 cells slots Q (F0 m (pc + 3) ls rest)) : W p l e R s m args below meth c H locs cells slots Q (F0 m pc ls (v :: .ref a :: rest)) :=
  k_putF (k := 3) X inT0 tyX0_ok nmX0 wd_495 rfl (by decide) rfl rfl rfl (by decide +kernel) hnam hw q0 he hn hfit hl hdg w1 h1 kk
theorem fg_496 {a : Nat} (X : CX p m c cc nL s args RX0 D ct) (hw : WD D A H0 H locs ws) (q0 : Nat) {fs : List Value} {v : Value} (he : ws[q0]? = some (a, .inr (0, fs))) (hv : fs[4]? = some v) (hdg : decode cc pc = .ok (.getfield 33, 3)) (kk : W p l e R s m args below meth c H locs cells slots Q (F0 m (pc + 3) ls (v :: rest))) : W p l e R s m args below meth c H locs cells slots Q (F0 m pc ls (.ref a :: rest)) :=
  k_get (k := 4) X inT0 wd_496 rfl (by decide) rfl hw q0 he hv hdg kk
theorem fp_496 {a : Nat} (X : CX p m c cc nL s args RX0 D ct) (hnam : meth.name = "<init>") (hw : WD D A H0 H locs ws) (q0 : Nat) {fs : List Value} {v : Value} (he : ws[q0]? = some (a, .inr (0, fs))) (hn : narrow (.object "FloorsByLot$Table") v = v) (hfit : fits (.object "FloorsByLot$Table") v = true) (hl : 4 < fs.length) (hdg : decode cc pc = .ok (.putfield 33, 3)) (w1 : va_W) (h1 : ws.set q0 (a, .inr (0, fs.set 4 v)) = w1) (kk : ∀ (H1 : Heap) (locs1 : List Loc), WD D A H0 H1 locs1 w1 → W p l e R s m args below meth c H1 locs1 cells slots Q (F0 m (pc + 3) ls rest)) : W p l e R s m args below meth c H locs cells slots Q (F0 m pc ls (v :: .ref a :: rest)) :=
  k_putF (k := 4) X inT0 tyX0_ok nmX0 wd_496 rfl (by decide) rfl rfl rfl (by decide +kernel) hnam hw q0 he hn hfit hl hdg w1 h1 kk
theorem fg_497 {a : Nat} (X : CX p m c cc nL s args RX0 D ct) (hw : WD D A H0 H locs ws) (q0 : Nat) {fs : List Value} {v : Value} (he : ws[q0]? = some (a, .inr (0, fs))) (hv : fs[5]? = some v) (hdg : decode cc pc = .ok (.getfield 37, 3)) (kk : W p l e R s m args below meth c H locs cells slots Q (F0 m (pc + 3) ls (v :: rest))) : W p l e R s m args below meth c H locs cells slots Q (F0 m pc ls (.ref a :: rest)) :=
  k_get (k := 5) X inT0 wd_497 rfl (by decide) rfl hw q0 he hv hdg kk
theorem fp_497 {a : Nat} (X : CX p m c cc nL s args RX0 D ct) (hnam : meth.name = "<init>") (hw : WD D A H0 H locs ws) (q0 : Nat) {fs : List Value} {v : Value} (he : ws[q0]? = some (a, .inr (0, fs))) (hn : narrow (.object "FloorsByLot$Maps") v = v) (hfit : fits (.object "FloorsByLot$Maps") v = true) (hl : 5 < fs.length) (hdg : decode cc pc = .ok (.putfield 37, 3)) (w1 : va_W) (h1 : ws.set q0 (a, .inr (0, fs.set 5 v)) = w1) (kk : ∀ (H1 : Heap) (locs1 : List Loc), WD D A H0 H1 locs1 w1 → W p l e R s m args below meth c H1 locs1 cells slots Q (F0 m (pc + 3) ls rest)) : W p l e R s m args below meth c H locs cells slots Q (F0 m pc ls (v :: .ref a :: rest)) :=
  k_putF (k := 5) X inT0 tyX0_ok nmX0 wd_497 rfl (by decide) rfl rfl rfl (by decide +kernel) hnam hw q0 he hn hfit hl hdg w1 h1 kk
theorem fg_498 {a : Nat} (X : CX p m c cc nL s args RX0 D ct) (hw : WD D A H0 H locs ws) (q0 : Nat) {fs : List Value} {v : Value} (he : ws[q0]? = some (a, .inr (0, fs))) (hv : fs[6]? = some v) (hdg : decode cc pc = .ok (.getfield 41, 3)) (kk : W p l e R s m args below meth c H locs cells slots Q (F0 m (pc + 3) ls (v :: rest))) : W p l e R s m args below meth c H locs cells slots Q (F0 m pc ls (.ref a :: rest)) :=
  k_get (k := 6) X inT0 wd_498 rfl (by decide) rfl hw q0 he hv hdg kk
theorem fp_498 {a : Nat} (X : CX p m c cc nL s args RX0 D ct) (hnam : meth.name = "<init>") (hw : WD D A H0 H locs ws) (q0 : Nat) {fs : List Value} {v : Value} (he : ws[q0]? = some (a, .inr (0, fs))) (hn : narrow (.object "FloorsByLot$Rings") v = v) (hfit : fits (.object "FloorsByLot$Rings") v = true) (hl : 6 < fs.length) (hdg : decode cc pc = .ok (.putfield 41, 3)) (w1 : va_W) (h1 : ws.set q0 (a, .inr (0, fs.set 6 v)) = w1) (kk : ∀ (H1 : Heap) (locs1 : List Loc), WD D A H0 H1 locs1 w1 → W p l e R s m args below meth c H1 locs1 cells slots Q (F0 m (pc + 3) ls rest)) : W p l e R s m args below meth c H locs cells slots Q (F0 m pc ls (v :: .ref a :: rest)) :=
  k_putF (k := 6) X inT0 tyX0_ok nmX0 wd_498 rfl (by decide) rfl rfl rfl (by decide +kernel) hnam hw q0 he hn hfit hl hdg w1 h1 kk
theorem fg_499 {a : Nat} (X : CX p m c cc nL s args RX0 D ct) (hw : WD D A H0 H locs ws) (q0 : Nat) {fs : List Value} {v : Value} (he : ws[q0]? = some (a, .inr (0, fs))) (hv : fs[7]? = some v) (hdg : decode cc pc = .ok (.getfield 22, 3)) (kk : W p l e R s m args below meth c H locs cells slots Q (F0 m (pc + 3) ls (v :: rest))) : W p l e R s m args below meth c H locs cells slots Q (F0 m pc ls (.ref a :: rest)) :=
  k_get (k := 7) X inT0 wd_499 rfl (by decide) rfl hw q0 he hv hdg kk
theorem fp_499 {a : Nat} (X : CX p m c cc nL s args RX0 D ct) (hnam : meth.name = "<init>") (hw : WD D A H0 H locs ws) (q0 : Nat) {fs : List Value} {v : Value} (he : ws[q0]? = some (a, .inr (0, fs))) (hn : narrow (.array (.int)) v = v) (hfit : fits (.array (.int)) v = true) (hl : 7 < fs.length) (hdg : decode cc pc = .ok (.putfield 22, 3)) (w1 : va_W) (h1 : ws.set q0 (a, .inr (0, fs.set 7 v)) = w1) (kk : ∀ (H1 : Heap) (locs1 : List Loc), WD D A H0 H1 locs1 w1 → W p l e R s m args below meth c H1 locs1 cells slots Q (F0 m (pc + 3) ls rest)) : W p l e R s m args below meth c H locs cells slots Q (F0 m pc ls (v :: .ref a :: rest)) :=
  k_putF (k := 7) X inT0 tyX0_ok nmX0 wd_499 rfl (by decide) rfl rfl rfl (by decide +kernel) hnam hw q0 he hn hfit hl hdg w1 h1 kk
theorem fg_500 {a : Nat} (X : CX p m c cc nL s args RX0 D ct) (hw : WD D A H0 H locs ws) (q0 : Nat) {fs : List Value} {v : Value} (he : ws[q0]? = some (a, .inr (0, fs))) (hv : fs[8]? = some v) (hdg : decode cc pc = .ok (.getfield 26, 3)) (kk : W p l e R s m args below meth c H locs cells slots Q (F0 m (pc + 3) ls (v :: rest))) : W p l e R s m args below meth c H locs cells slots Q (F0 m pc ls (.ref a :: rest)) :=
  k_get (k := 8) X inT0 wd_500 rfl (by decide) rfl hw q0 he hv hdg kk
theorem fp_500 {a : Nat} (X : CX p m c cc nL s args RX0 D ct) (hw : WD D A H0 H locs ws) (q0 : Nat) {fs : List Value} {v : Value} (he : ws[q0]? = some (a, .inr (0, fs))) (hn : narrow (.int) v = v) (hfit : fits (.int) v = true) (hl : 8 < fs.length) (hdg : decode cc pc = .ok (.putfield 26, 3)) (w1 : va_W) (h1 : ws.set q0 (a, .inr (0, fs.set 8 v)) = w1) (kk : ∀ (H1 : Heap) (locs1 : List Loc), WD D A H0 H1 locs1 w1 → W p l e R s m args below meth c H1 locs1 cells slots Q (F0 m (pc + 3) ls rest)) : W p l e R s m args below meth c H locs cells slots Q (F0 m pc ls (v :: .ref a :: rest)) :=
  k_put (k := 8) X inT0 tyX0_ok nmX0 wd_500 rfl (by decide) rfl rfl (by decide +kernel) hw q0 he hn hfit hl hdg w1 h1 kk
theorem fg_529 {a : Nat} (X : CX p m c cc nL s args RX1 D ct) (hw : WD D A H0 H locs ws) (q0 : Nat) {fs : List Value} {v : Value} (he : ws[q0]? = some (a, .inr (1, fs))) (hv : fs[0]? = some v) (hdg : decode cc pc = .ok (.getfield 9, 3)) (kk : W p l e R s m args below meth c H locs cells slots Q (F0 m (pc + 3) ls (v :: rest))) : W p l e R s m args below meth c H locs cells slots Q (F0 m pc ls (.ref a :: rest)) :=
  k_get (k := 0) X inT1 wd_529 rfl (by decide) rfl hw q0 he hv hdg kk
theorem fp_529 {a : Nat} (X : CX p m c cc nL s args RX1 D ct) (hw : WD D A H0 H locs ws) (q0 : Nat) {fs : List Value} {v : Value} (he : ws[q0]? = some (a, .inr (1, fs))) (hn : narrow (.int) v = v) (hfit : fits (.int) v = true) (hl : 0 < fs.length) (hdg : decode cc pc = .ok (.putfield 9, 3)) (w1 : va_W) (h1 : ws.set q0 (a, .inr (1, fs.set 0 v)) = w1) (kk : ∀ (H1 : Heap) (locs1 : List Loc), WD D A H0 H1 locs1 w1 → W p l e R s m args below meth c H1 locs1 cells slots Q (F0 m (pc + 3) ls rest)) : W p l e R s m args below meth c H locs cells slots Q (F0 m pc ls (v :: .ref a :: rest)) :=
  k_put (k := 0) X inT1 tyX1_ok nmX1 wd_529 rfl (by decide) rfl rfl (by decide +kernel) hw q0 he hn hfit hl hdg w1 h1 kk
theorem fg_530 {a : Nat} (X : CX p m c cc nL s args RX11 D ct) (hw : WD D A H0 H locs ws) (q0 : Nat) {fs : List Value} {v : Value} (he : ws[q0]? = some (a, .inr (1, fs))) (hv : fs[0]? = some v) (hdg : decode cc pc = .ok (.getfield 230, 3)) (kk : W p l e R s m args below meth c H locs cells slots Q (F0 m (pc + 3) ls (v :: rest))) : W p l e R s m args below meth c H locs cells slots Q (F0 m pc ls (.ref a :: rest)) :=
  k_get (k := 0) X inT1 wd_530 rfl (by decide) rfl hw q0 he hv hdg kk
theorem fp_530 {a : Nat} (X : CX p m c cc nL s args RX11 D ct) (hw : WD D A H0 H locs ws) (q0 : Nat) {fs : List Value} {v : Value} (he : ws[q0]? = some (a, .inr (1, fs))) (hn : narrow (.int) v = v) (hfit : fits (.int) v = true) (hl : 0 < fs.length) (hdg : decode cc pc = .ok (.putfield 230, 3)) (w1 : va_W) (h1 : ws.set q0 (a, .inr (1, fs.set 0 v)) = w1) (kk : ∀ (H1 : Heap) (locs1 : List Loc), WD D A H0 H1 locs1 w1 → W p l e R s m args below meth c H1 locs1 cells slots Q (F0 m (pc + 3) ls rest)) : W p l e R s m args below meth c H locs cells slots Q (F0 m pc ls (v :: .ref a :: rest)) :=
  k_put (k := 0) X inT1 tyX1_ok nmX1 wd_530 rfl (by decide) rfl rfl (by decide +kernel) hw q0 he hn hfit hl hdg w1 h1 kk
theorem fg_531 {a : Nat} (X : CX p m c cc nL s args RX1 D ct) (hw : WD D A H0 H locs ws) (q0 : Nat) {fs : List Value} {v : Value} (he : ws[q0]? = some (a, .inr (1, fs))) (hv : fs[1]? = some v) (hdg : decode cc pc = .ok (.getfield 15, 3)) (kk : W p l e R s m args below meth c H locs cells slots Q (F0 m (pc + 3) ls (v :: rest))) : W p l e R s m args below meth c H locs cells slots Q (F0 m pc ls (.ref a :: rest)) :=
  k_get (k := 1) X inT1 wd_531 rfl (by decide) rfl hw q0 he hv hdg kk
theorem fp_531 {a : Nat} (X : CX p m c cc nL s args RX1 D ct) (hw : WD D A H0 H locs ws) (q0 : Nat) {fs : List Value} {v : Value} (he : ws[q0]? = some (a, .inr (1, fs))) (hn : narrow (.int) v = v) (hfit : fits (.int) v = true) (hl : 1 < fs.length) (hdg : decode cc pc = .ok (.putfield 15, 3)) (w1 : va_W) (h1 : ws.set q0 (a, .inr (1, fs.set 1 v)) = w1) (kk : ∀ (H1 : Heap) (locs1 : List Loc), WD D A H0 H1 locs1 w1 → W p l e R s m args below meth c H1 locs1 cells slots Q (F0 m (pc + 3) ls rest)) : W p l e R s m args below meth c H locs cells slots Q (F0 m pc ls (v :: .ref a :: rest)) :=
  k_put (k := 1) X inT1 tyX1_ok nmX1 wd_531 rfl (by decide) rfl rfl (by decide +kernel) hw q0 he hn hfit hl hdg w1 h1 kk
theorem fg_532 {a : Nat} (X : CX p m c cc nL s args RX1 D ct) (hw : WD D A H0 H locs ws) (q0 : Nat) {fs : List Value} {v : Value} (he : ws[q0]? = some (a, .inr (1, fs))) (hv : fs[2]? = some v) (hdg : decode cc pc = .ok (.getfield 20, 3)) (kk : W p l e R s m args below meth c H locs cells slots Q (F0 m (pc + 3) ls (v :: rest))) : W p l e R s m args below meth c H locs cells slots Q (F0 m pc ls (.ref a :: rest)) :=
  k_get (k := 2) X inT1 wd_532 rfl (by decide) rfl hw q0 he hv hdg kk
theorem fp_532 {a : Nat} (X : CX p m c cc nL s args RX1 D ct) (hnam : meth.name = "<init>") (hw : WD D A H0 H locs ws) (q0 : Nat) {fs : List Value} {v : Value} (he : ws[q0]? = some (a, .inr (1, fs))) (hn : narrow (.array (.object "FloorsByLot$Living")) v = v) (hfit : fits (.array (.object "FloorsByLot$Living")) v = true) (hl : 2 < fs.length) (hdg : decode cc pc = .ok (.putfield 20, 3)) (w1 : va_W) (h1 : ws.set q0 (a, .inr (1, fs.set 2 v)) = w1) (kk : ∀ (H1 : Heap) (locs1 : List Loc), WD D A H0 H1 locs1 w1 → W p l e R s m args below meth c H1 locs1 cells slots Q (F0 m (pc + 3) ls rest)) : W p l e R s m args below meth c H locs cells slots Q (F0 m pc ls (v :: .ref a :: rest)) :=
  k_putF (k := 2) X inT1 tyX1_ok nmX1 wd_532 rfl (by decide) rfl rfl rfl (by decide +kernel) hnam hw q0 he hn hfit hl hdg w1 h1 kk
theorem fg_550 {a : Nat} (X : CX p m c cc nL s args RX10 D ct) (hw : WD D A H0 H locs ws) (q0 : Nat) {fs : List Value} {v : Value} (he : ws[q0]? = some (a, .inr (10, fs))) (hv : fs[0]? = some v) (hdg : decode cc pc = .ok (.getfield 9, 3)) (kk : W p l e R s m args below meth c H locs cells slots Q (F0 m (pc + 3) ls (v :: rest))) : W p l e R s m args below meth c H locs cells slots Q (F0 m pc ls (.ref a :: rest)) :=
  k_get (k := 0) X inT10 wd_550 rfl (by decide) rfl hw q0 he hv hdg kk
theorem fp_550 {a : Nat} (X : CX p m c cc nL s args RX10 D ct) (hw : WD D A H0 H locs ws) (q0 : Nat) {fs : List Value} {v : Value} (he : ws[q0]? = some (a, .inr (10, fs))) (hn : narrow (.int) v = v) (hfit : fits (.int) v = true) (hl : 0 < fs.length) (hdg : decode cc pc = .ok (.putfield 9, 3)) (w1 : va_W) (h1 : ws.set q0 (a, .inr (10, fs.set 0 v)) = w1) (kk : ∀ (H1 : Heap) (locs1 : List Loc), WD D A H0 H1 locs1 w1 → W p l e R s m args below meth c H1 locs1 cells slots Q (F0 m (pc + 3) ls rest)) : W p l e R s m args below meth c H locs cells slots Q (F0 m pc ls (v :: .ref a :: rest)) :=
  k_put (k := 0) X inT10 tyX10_ok nmX10 wd_550 rfl (by decide) rfl rfl (by decide +kernel) hw q0 he hn hfit hl hdg w1 h1 kk
theorem fg_551 {a : Nat} (X : CX p m c cc nL s args RX0 D ct) (hw : WD D A H0 H locs ws) (q0 : Nat) {fs : List Value} {v : Value} (he : ws[q0]? = some (a, .inr (10, fs))) (hv : fs[0]? = some v) (hdg : decode cc pc = .ok (.getfield 118, 3)) (kk : W p l e R s m args below meth c H locs cells slots Q (F0 m (pc + 3) ls (v :: rest))) : W p l e R s m args below meth c H locs cells slots Q (F0 m pc ls (.ref a :: rest)) :=
  k_get (k := 0) X inT10 wd_551 rfl (by decide) rfl hw q0 he hv hdg kk
theorem fp_551 {a : Nat} (X : CX p m c cc nL s args RX0 D ct) (hw : WD D A H0 H locs ws) (q0 : Nat) {fs : List Value} {v : Value} (he : ws[q0]? = some (a, .inr (10, fs))) (hn : narrow (.int) v = v) (hfit : fits (.int) v = true) (hl : 0 < fs.length) (hdg : decode cc pc = .ok (.putfield 118, 3)) (w1 : va_W) (h1 : ws.set q0 (a, .inr (10, fs.set 0 v)) = w1) (kk : ∀ (H1 : Heap) (locs1 : List Loc), WD D A H0 H1 locs1 w1 → W p l e R s m args below meth c H1 locs1 cells slots Q (F0 m (pc + 3) ls rest)) : W p l e R s m args below meth c H locs cells slots Q (F0 m pc ls (v :: .ref a :: rest)) :=
  k_put (k := 0) X inT10 tyX10_ok nmX10 wd_551 rfl (by decide) rfl rfl (by decide +kernel) hw q0 he hn hfit hl hdg w1 h1 kk
theorem fg_552 {a : Nat} (X : CX p m c cc nL s args RX11 D ct) (hw : WD D A H0 H locs ws) (q0 : Nat) {fs : List Value} {v : Value} (he : ws[q0]? = some (a, .inr (10, fs))) (hv : fs[0]? = some v) (hdg : decode cc pc = .ok (.getfield 396, 3)) (kk : W p l e R s m args below meth c H locs cells slots Q (F0 m (pc + 3) ls (v :: rest))) : W p l e R s m args below meth c H locs cells slots Q (F0 m pc ls (.ref a :: rest)) :=
  k_get (k := 0) X inT10 wd_552 rfl (by decide) rfl hw q0 he hv hdg kk
theorem fp_552 {a : Nat} (X : CX p m c cc nL s args RX11 D ct) (hw : WD D A H0 H locs ws) (q0 : Nat) {fs : List Value} {v : Value} (he : ws[q0]? = some (a, .inr (10, fs))) (hn : narrow (.int) v = v) (hfit : fits (.int) v = true) (hl : 0 < fs.length) (hdg : decode cc pc = .ok (.putfield 396, 3)) (w1 : va_W) (h1 : ws.set q0 (a, .inr (10, fs.set 0 v)) = w1) (kk : ∀ (H1 : Heap) (locs1 : List Loc), WD D A H0 H1 locs1 w1 → W p l e R s m args below meth c H1 locs1 cells slots Q (F0 m (pc + 3) ls rest)) : W p l e R s m args below meth c H locs cells slots Q (F0 m pc ls (v :: .ref a :: rest)) :=
  k_put (k := 0) X inT10 tyX10_ok nmX10 wd_552 rfl (by decide) rfl rfl (by decide +kernel) hw q0 he hn hfit hl hdg w1 h1 kk
theorem fg_553 {a : Nat} (X : CX p m c cc nL s args RX10 D ct) (hw : WD D A H0 H locs ws) (q0 : Nat) {fs : List Value} {v : Value} (he : ws[q0]? = some (a, .inr (10, fs))) (hv : fs[1]? = some v) (hdg : decode cc pc = .ok (.getfield 15, 3)) (kk : W p l e R s m args below meth c H locs cells slots Q (F0 m (pc + 3) ls (v :: rest))) : W p l e R s m args below meth c H locs cells slots Q (F0 m pc ls (.ref a :: rest)) :=
  k_get (k := 1) X inT10 wd_553 rfl (by decide) rfl hw q0 he hv hdg kk
theorem fp_553 {a : Nat} (X : CX p m c cc nL s args RX10 D ct) (hnam : meth.name = "<init>") (hw : WD D A H0 H locs ws) (q0 : Nat) {fs : List Value} {v : Value} (he : ws[q0]? = some (a, .inr (10, fs))) (hn : narrow (.array (.long)) v = v) (hfit : fits (.array (.long)) v = true) (hl : 1 < fs.length) (hdg : decode cc pc = .ok (.putfield 15, 3)) (w1 : va_W) (h1 : ws.set q0 (a, .inr (10, fs.set 1 v)) = w1) (kk : ∀ (H1 : Heap) (locs1 : List Loc), WD D A H0 H1 locs1 w1 → W p l e R s m args below meth c H1 locs1 cells slots Q (F0 m (pc + 3) ls rest)) : W p l e R s m args below meth c H locs cells slots Q (F0 m pc ls (v :: .ref a :: rest)) :=
  k_putF (k := 1) X inT10 tyX10_ok nmX10 wd_553 rfl (by decide) rfl rfl rfl (by decide +kernel) hnam hw q0 he hn hfit hl hdg w1 h1 kk
theorem fg_554 {a : Nat} (X : CX p m c cc nL s args RX0 D ct) (hw : WD D A H0 H locs ws) (q0 : Nat) {fs : List Value} {v : Value} (he : ws[q0]? = some (a, .inr (10, fs))) (hv : fs[1]? = some v) (hdg : decode cc pc = .ok (.getfield 123, 3)) (kk : W p l e R s m args below meth c H locs cells slots Q (F0 m (pc + 3) ls (v :: rest))) : W p l e R s m args below meth c H locs cells slots Q (F0 m pc ls (.ref a :: rest)) :=
  k_get (k := 1) X inT10 wd_554 rfl (by decide) rfl hw q0 he hv hdg kk
theorem fg_555 {a : Nat} (X : CX p m c cc nL s args RX11 D ct) (hw : WD D A H0 H locs ws) (q0 : Nat) {fs : List Value} {v : Value} (he : ws[q0]? = some (a, .inr (10, fs))) (hv : fs[1]? = some v) (hdg : decode cc pc = .ok (.getfield 387, 3)) (kk : W p l e R s m args below meth c H locs cells slots Q (F0 m (pc + 3) ls (v :: rest))) : W p l e R s m args below meth c H locs cells slots Q (F0 m pc ls (.ref a :: rest)) :=
  k_get (k := 1) X inT10 wd_555 rfl (by decide) rfl hw q0 he hv hdg kk
theorem fg_556 {a : Nat} (X : CX p m c cc nL s args RX10 D ct) (hw : WD D A H0 H locs ws) (q0 : Nat) {fs : List Value} {v : Value} (he : ws[q0]? = some (a, .inr (10, fs))) (hv : fs[2]? = some v) (hdg : decode cc pc = .ok (.getfield 19, 3)) (kk : W p l e R s m args below meth c H locs cells slots Q (F0 m (pc + 3) ls (v :: rest))) : W p l e R s m args below meth c H locs cells slots Q (F0 m pc ls (.ref a :: rest)) :=
  k_get (k := 2) X inT10 wd_556 rfl (by decide) rfl hw q0 he hv hdg kk
theorem fp_556 {a : Nat} (X : CX p m c cc nL s args RX10 D ct) (hw : WD D A H0 H locs ws) (q0 : Nat) {fs : List Value} {v : Value} (he : ws[q0]? = some (a, .inr (10, fs))) (hn : narrow (.int) v = v) (hfit : fits (.int) v = true) (hl : 2 < fs.length) (hdg : decode cc pc = .ok (.putfield 19, 3)) (w1 : va_W) (h1 : ws.set q0 (a, .inr (10, fs.set 2 v)) = w1) (kk : ∀ (H1 : Heap) (locs1 : List Loc), WD D A H0 H1 locs1 w1 → W p l e R s m args below meth c H1 locs1 cells slots Q (F0 m (pc + 3) ls rest)) : W p l e R s m args below meth c H locs cells slots Q (F0 m pc ls (v :: .ref a :: rest)) :=
  k_put (k := 2) X inT10 tyX10_ok nmX10 wd_556 rfl (by decide) rfl rfl (by decide +kernel) hw q0 he hn hfit hl hdg w1 h1 kk
theorem fg_565 {a : Nat} (X : CX p m c cc nL s args RX11 D ct) (hw : WD D A H0 H locs ws) (q0 : Nat) {fs : List Value} {v : Value} (he : ws[q0]? = some (a, .inr (11, fs))) (hv : fs[0]? = some v) (hdg : decode cc pc = .ok (.getfield 9, 3)) (kk : W p l e R s m args below meth c H locs cells slots Q (F0 m (pc + 3) ls (v :: rest))) : W p l e R s m args below meth c H locs cells slots Q (F0 m pc ls (.ref a :: rest)) :=
  k_get (k := 0) X inT11 wd_565 rfl (by decide) rfl hw q0 he hv hdg kk
theorem fp_565 {a : Nat} (X : CX p m c cc nL s args RX11 D ct) (hnam : meth.name = "<init>") (hw : WD D A H0 H locs ws) (q0 : Nat) {fs : List Value} {v : Value} (he : ws[q0]? = some (a, .inr (11, fs))) (hn : narrow (.array (.byte)) v = v) (hfit : fits (.array (.byte)) v = true) (hl : 0 < fs.length) (hdg : decode cc pc = .ok (.putfield 9, 3)) (w1 : va_W) (h1 : ws.set q0 (a, .inr (11, fs.set 0 v)) = w1) (kk : ∀ (H1 : Heap) (locs1 : List Loc), WD D A H0 H1 locs1 w1 → W p l e R s m args below meth c H1 locs1 cells slots Q (F0 m (pc + 3) ls rest)) : W p l e R s m args below meth c H locs cells slots Q (F0 m pc ls (v :: .ref a :: rest)) :=
  k_putF (k := 0) X inT11 tyX11_ok nmX11 wd_565 rfl (by decide) rfl rfl rfl (by decide +kernel) hnam hw q0 he hn hfit hl hdg w1 h1 kk
theorem fg_566 {a : Nat} (X : CX p m c cc nL s args RX11 D ct) (hw : WD D A H0 H locs ws) (q0 : Nat) {fs : List Value} {v : Value} (he : ws[q0]? = some (a, .inr (11, fs))) (hv : fs[1]? = some v) (hdg : decode cc pc = .ok (.getfield 13, 3)) (kk : W p l e R s m args below meth c H locs cells slots Q (F0 m (pc + 3) ls (v :: rest))) : W p l e R s m args below meth c H locs cells slots Q (F0 m pc ls (.ref a :: rest)) :=
  k_get (k := 1) X inT11 wd_566 rfl (by decide) rfl hw q0 he hv hdg kk
theorem fp_566 {a : Nat} (X : CX p m c cc nL s args RX11 D ct) (hw : WD D A H0 H locs ws) (q0 : Nat) {fs : List Value} {v : Value} (he : ws[q0]? = some (a, .inr (11, fs))) (hn : narrow (.int) v = v) (hfit : fits (.int) v = true) (hl : 1 < fs.length) (hdg : decode cc pc = .ok (.putfield 13, 3)) (w1 : va_W) (h1 : ws.set q0 (a, .inr (11, fs.set 1 v)) = w1) (kk : ∀ (H1 : Heap) (locs1 : List Loc), WD D A H0 H1 locs1 w1 → W p l e R s m args below meth c H1 locs1 cells slots Q (F0 m (pc + 3) ls rest)) : W p l e R s m args below meth c H locs cells slots Q (F0 m pc ls (v :: .ref a :: rest)) :=
  k_put (k := 1) X inT11 tyX11_ok nmX11 wd_566 rfl (by decide) rfl rfl (by decide +kernel) hw q0 he hn hfit hl hdg w1 h1 kk
theorem fg_567 {a : Nat} (X : CX p m c cc nL s args RX11 D ct) (hw : WD D A H0 H locs ws) (q0 : Nat) {fs : List Value} {v : Value} (he : ws[q0]? = some (a, .inr (11, fs))) (hv : fs[2]? = some v) (hdg : decode cc pc = .ok (.getfield 20, 3)) (kk : W p l e R s m args below meth c H locs cells slots Q (F0 m (pc + 3) ls (v :: rest))) : W p l e R s m args below meth c H locs cells slots Q (F0 m pc ls (.ref a :: rest)) :=
  k_get (k := 2) X inT11 wd_567 rfl (by decide) rfl hw q0 he hv hdg kk
theorem fp_567 {a : Nat} (X : CX p m c cc nL s args RX11 D ct) (hnam : meth.name = "<init>") (hw : WD D A H0 H locs ws) (q0 : Nat) {fs : List Value} {v : Value} (he : ws[q0]? = some (a, .inr (11, fs))) (hn : narrow (.object "FloorsByLot$House") v = v) (hfit : fits (.object "FloorsByLot$House") v = true) (hl : 2 < fs.length) (hdg : decode cc pc = .ok (.putfield 20, 3)) (w1 : va_W) (h1 : ws.set q0 (a, .inr (11, fs.set 2 v)) = w1) (kk : ∀ (H1 : Heap) (locs1 : List Loc), WD D A H0 H1 locs1 w1 → W p l e R s m args below meth c H1 locs1 cells slots Q (F0 m (pc + 3) ls rest)) : W p l e R s m args below meth c H locs cells slots Q (F0 m pc ls (v :: .ref a :: rest)) :=
  k_putF (k := 2) X inT11 tyX11_ok nmX11 wd_567 rfl (by decide) rfl rfl rfl (by decide +kernel) hnam hw q0 he hn hfit hl hdg w1 h1 kk
theorem fg_568 {a : Nat} (X : CX p m c cc nL s args RX11 D ct) (hw : WD D A H0 H locs ws) (q0 : Nat) {fs : List Value} {v : Value} (he : ws[q0]? = some (a, .inr (11, fs))) (hv : fs[3]? = some v) (hdg : decode cc pc = .ok (.getfield 27, 3)) (kk : W p l e R s m args below meth c H locs cells slots Q (F0 m (pc + 3) ls (v :: rest))) : W p l e R s m args below meth c H locs cells slots Q (F0 m pc ls (.ref a :: rest)) :=
  k_get (k := 3) X inT11 wd_568 rfl (by decide) rfl hw q0 he hv hdg kk
theorem fp_568 {a : Nat} (X : CX p m c cc nL s args RX11 D ct) (hnam : meth.name = "<init>") (hw : WD D A H0 H locs ws) (q0 : Nat) {fs : List Value} {v : Value} (he : ws[q0]? = some (a, .inr (11, fs))) (hn : narrow (.object "FloorsByLot$Reader") v = v) (hfit : fits (.object "FloorsByLot$Reader") v = true) (hl : 3 < fs.length) (hdg : decode cc pc = .ok (.putfield 27, 3)) (w1 : va_W) (h1 : ws.set q0 (a, .inr (11, fs.set 3 v)) = w1) (kk : ∀ (H1 : Heap) (locs1 : List Loc), WD D A H0 H1 locs1 w1 → W p l e R s m args below meth c H1 locs1 cells slots Q (F0 m (pc + 3) ls rest)) : W p l e R s m args below meth c H locs cells slots Q (F0 m pc ls (v :: .ref a :: rest)) :=
  k_putF (k := 3) X inT11 tyX11_ok nmX11 wd_568 rfl (by decide) rfl rfl rfl (by decide +kernel) hnam hw q0 he hn hfit hl hdg w1 h1 kk
theorem fg_569 {a : Nat} (X : CX p m c cc nL s args RX11 D ct) (hw : WD D A H0 H locs ws) (q0 : Nat) {fs : List Value} {v : Value} (he : ws[q0]? = some (a, .inr (11, fs))) (hv : fs[4]? = some v) (hdg : decode cc pc = .ok (.getfield 36, 3)) (kk : W p l e R s m args below meth c H locs cells slots Q (F0 m (pc + 3) ls (v :: rest))) : W p l e R s m args below meth c H locs cells slots Q (F0 m pc ls (.ref a :: rest)) :=
  k_get (k := 4) X inT11 wd_569 rfl (by decide) rfl hw q0 he hv hdg kk
theorem fp_569 {a : Nat} (X : CX p m c cc nL s args RX11 D ct) (hnam : meth.name = "<init>") (hw : WD D A H0 H locs ws) (q0 : Nat) {fs : List Value} {v : Value} (he : ws[q0]? = some (a, .inr (11, fs))) (hn : narrow (.object "FloorsByLot$Table") v = v) (hfit : fits (.object "FloorsByLot$Table") v = true) (hl : 4 < fs.length) (hdg : decode cc pc = .ok (.putfield 36, 3)) (w1 : va_W) (h1 : ws.set q0 (a, .inr (11, fs.set 4 v)) = w1) (kk : ∀ (H1 : Heap) (locs1 : List Loc), WD D A H0 H1 locs1 w1 → W p l e R s m args below meth c H1 locs1 cells slots Q (F0 m (pc + 3) ls rest)) : W p l e R s m args below meth c H locs cells slots Q (F0 m pc ls (v :: .ref a :: rest)) :=
  k_putF (k := 4) X inT11 tyX11_ok nmX11 wd_569 rfl (by decide) rfl rfl rfl (by decide +kernel) hnam hw q0 he hn hfit hl hdg w1 h1 kk
theorem fg_570 {a : Nat} (X : CX p m c cc nL s args RX11 D ct) (hw : WD D A H0 H locs ws) (q0 : Nat) {fs : List Value} {v : Value} (he : ws[q0]? = some (a, .inr (11, fs))) (hv : fs[5]? = some v) (hdg : decode cc pc = .ok (.getfield 43, 3)) (kk : W p l e R s m args below meth c H locs cells slots Q (F0 m (pc + 3) ls (v :: rest))) : W p l e R s m args below meth c H locs cells slots Q (F0 m pc ls (.ref a :: rest)) :=
  k_get (k := 5) X inT11 wd_570 rfl (by decide) rfl hw q0 he hv hdg kk
theorem fp_570 {a : Nat} (X : CX p m c cc nL s args RX11 D ct) (hnam : meth.name = "<init>") (hw : WD D A H0 H locs ws) (q0 : Nat) {fs : List Value} {v : Value} (he : ws[q0]? = some (a, .inr (11, fs))) (hn : narrow (.object "FloorsByLot$Maps") v = v) (hfit : fits (.object "FloorsByLot$Maps") v = true) (hl : 5 < fs.length) (hdg : decode cc pc = .ok (.putfield 43, 3)) (w1 : va_W) (h1 : ws.set q0 (a, .inr (11, fs.set 5 v)) = w1) (kk : ∀ (H1 : Heap) (locs1 : List Loc), WD D A H0 H1 locs1 w1 → W p l e R s m args below meth c H1 locs1 cells slots Q (F0 m (pc + 3) ls rest)) : W p l e R s m args below meth c H locs cells slots Q (F0 m pc ls (v :: .ref a :: rest)) :=
  k_putF (k := 5) X inT11 tyX11_ok nmX11 wd_570 rfl (by decide) rfl rfl rfl (by decide +kernel) hnam hw q0 he hn hfit hl hdg w1 h1 kk
theorem fg_571 {a : Nat} (X : CX p m c cc nL s args RX11 D ct) (hw : WD D A H0 H locs ws) (q0 : Nat) {fs : List Value} {v : Value} (he : ws[q0]? = some (a, .inr (11, fs))) (hv : fs[6]? = some v) (hdg : decode cc pc = .ok (.getfield 52, 3)) (kk : W p l e R s m args below meth c H locs cells slots Q (F0 m (pc + 3) ls (v :: rest))) : W p l e R s m args below meth c H locs cells slots Q (F0 m pc ls (.ref a :: rest)) :=
  k_get (k := 6) X inT11 wd_571 rfl (by decide) rfl hw q0 he hv hdg kk
theorem fp_571 {a : Nat} (X : CX p m c cc nL s args RX11 D ct) (hnam : meth.name = "<init>") (hw : WD D A H0 H locs ws) (q0 : Nat) {fs : List Value} {v : Value} (he : ws[q0]? = some (a, .inr (11, fs))) (hn : narrow (.object "FloorsByLot$Rings") v = v) (hfit : fits (.object "FloorsByLot$Rings") v = true) (hl : 6 < fs.length) (hdg : decode cc pc = .ok (.putfield 52, 3)) (w1 : va_W) (h1 : ws.set q0 (a, .inr (11, fs.set 6 v)) = w1) (kk : ∀ (H1 : Heap) (locs1 : List Loc), WD D A H0 H1 locs1 w1 → W p l e R s m args below meth c H1 locs1 cells slots Q (F0 m (pc + 3) ls rest)) : W p l e R s m args below meth c H locs cells slots Q (F0 m pc ls (v :: .ref a :: rest)) :=
  k_putF (k := 6) X inT11 tyX11_ok nmX11 wd_571 rfl (by decide) rfl rfl rfl (by decide +kernel) hnam hw q0 he hn hfit hl hdg w1 h1 kk
theorem fg_572 {a : Nat} (X : CX p m c cc nL s args RX11 D ct) (hw : WD D A H0 H locs ws) (q0 : Nat) {fs : List Value} {v : Value} (he : ws[q0]? = some (a, .inr (11, fs))) (hv : fs[7]? = some v) (hdg : decode cc pc = .ok (.getfield 59, 3)) (kk : W p l e R s m args below meth c H locs cells slots Q (F0 m (pc + 3) ls (v :: rest))) : W p l e R s m args below meth c H locs cells slots Q (F0 m pc ls (.ref a :: rest)) :=
  k_get (k := 7) X inT11 wd_572 rfl (by decide) rfl hw q0 he hv hdg kk
theorem fp_572 {a : Nat} (X : CX p m c cc nL s args RX11 D ct) (hnam : meth.name = "<init>") (hw : WD D A H0 H locs ws) (q0 : Nat) {fs : List Value} {v : Value} (he : ws[q0]? = some (a, .inr (11, fs))) (hn : narrow (.object "FloorsByLot$Quiet") v = v) (hfit : fits (.object "FloorsByLot$Quiet") v = true) (hl : 7 < fs.length) (hdg : decode cc pc = .ok (.putfield 59, 3)) (w1 : va_W) (h1 : ws.set q0 (a, .inr (11, fs.set 7 v)) = w1) (kk : ∀ (H1 : Heap) (locs1 : List Loc), WD D A H0 H1 locs1 w1 → W p l e R s m args below meth c H1 locs1 cells slots Q (F0 m (pc + 3) ls rest)) : W p l e R s m args below meth c H locs cells slots Q (F0 m pc ls (v :: .ref a :: rest)) :=
  k_putF (k := 7) X inT11 tyX11_ok nmX11 wd_572 rfl (by decide) rfl rfl rfl (by decide +kernel) hnam hw q0 he hn hfit hl hdg w1 h1 kk
theorem fg_573 {a : Nat} (X : CX p m c cc nL s args RX11 D ct) (hw : WD D A H0 H locs ws) (q0 : Nat) {fs : List Value} {v : Value} (he : ws[q0]? = some (a, .inr (11, fs))) (hv : fs[8]? = some v) (hdg : decode cc pc = .ok (.getfield 66, 3)) (kk : W p l e R s m args below meth c H locs cells slots Q (F0 m (pc + 3) ls (v :: rest))) : W p l e R s m args below meth c H locs cells slots Q (F0 m pc ls (.ref a :: rest)) :=
  k_get (k := 8) X inT11 wd_573 rfl (by decide) rfl hw q0 he hv hdg kk
theorem fp_573 {a : Nat} (X : CX p m c cc nL s args RX11 D ct) (hnam : meth.name = "<init>") (hw : WD D A H0 H locs ws) (q0 : Nat) {fs : List Value} {v : Value} (he : ws[q0]? = some (a, .inr (11, fs))) (hn : narrow (.object "FloorsByLot$Lift") v = v) (hfit : fits (.object "FloorsByLot$Lift") v = true) (hl : 8 < fs.length) (hdg : decode cc pc = .ok (.putfield 66, 3)) (w1 : va_W) (h1 : ws.set q0 (a, .inr (11, fs.set 8 v)) = w1) (kk : ∀ (H1 : Heap) (locs1 : List Loc), WD D A H0 H1 locs1 w1 → W p l e R s m args below meth c H1 locs1 cells slots Q (F0 m (pc + 3) ls rest)) : W p l e R s m args below meth c H locs cells slots Q (F0 m pc ls (v :: .ref a :: rest)) :=
  k_putF (k := 8) X inT11 tyX11_ok nmX11 wd_573 rfl (by decide) rfl rfl rfl (by decide +kernel) hnam hw q0 he hn hfit hl hdg w1 h1 kk
theorem fg_574 {a : Nat} (X : CX p m c cc nL s args RX11 D ct) (hw : WD D A H0 H locs ws) (q0 : Nat) {fs : List Value} {v : Value} (he : ws[q0]? = some (a, .inr (11, fs))) (hv : fs[9]? = some v) (hdg : decode cc pc = .ok (.getfield 75, 3)) (kk : W p l e R s m args below meth c H locs cells slots Q (F0 m (pc + 3) ls (v :: rest))) : W p l e R s m args below meth c H locs cells slots Q (F0 m pc ls (.ref a :: rest)) :=
  k_get (k := 9) X inT11 wd_574 rfl (by decide) rfl hw q0 he hv hdg kk
theorem fp_574 {a : Nat} (X : CX p m c cc nL s args RX11 D ct) (hnam : meth.name = "<init>") (hw : WD D A H0 H locs ws) (q0 : Nat) {fs : List Value} {v : Value} (he : ws[q0]? = some (a, .inr (11, fs))) (hn : narrow (.object "FloorsByLot$Deeds") v = v) (hfit : fits (.object "FloorsByLot$Deeds") v = true) (hl : 9 < fs.length) (hdg : decode cc pc = .ok (.putfield 75, 3)) (w1 : va_W) (h1 : ws.set q0 (a, .inr (11, fs.set 9 v)) = w1) (kk : ∀ (H1 : Heap) (locs1 : List Loc), WD D A H0 H1 locs1 w1 → W p l e R s m args below meth c H1 locs1 cells slots Q (F0 m (pc + 3) ls rest)) : W p l e R s m args below meth c H locs cells slots Q (F0 m pc ls (v :: .ref a :: rest)) :=
  k_putF (k := 9) X inT11 tyX11_ok nmX11 wd_574 rfl (by decide) rfl rfl rfl (by decide +kernel) hnam hw q0 he hn hfit hl hdg w1 h1 kk
theorem fg_575 {a : Nat} (X : CX p m c cc nL s args RX11 D ct) (hw : WD D A H0 H locs ws) (q0 : Nat) {fs : List Value} {v : Value} (he : ws[q0]? = some (a, .inr (11, fs))) (hv : fs[10]? = some v) (hdg : decode cc pc = .ok (.getfield 82, 3)) (kk : W p l e R s m args below meth c H locs cells slots Q (F0 m (pc + 3) ls (v :: rest))) : W p l e R s m args below meth c H locs cells slots Q (F0 m pc ls (.ref a :: rest)) :=
  k_get (k := 10) X inT11 wd_575 rfl (by decide) rfl hw q0 he hv hdg kk
theorem fp_575 {a : Nat} (X : CX p m c cc nL s args RX11 D ct) (hnam : meth.name = "<init>") (hw : WD D A H0 H locs ws) (q0 : Nat) {fs : List Value} {v : Value} (he : ws[q0]? = some (a, .inr (11, fs))) (hn : narrow (.object "FloorsByLot$History") v = v) (hfit : fits (.object "FloorsByLot$History") v = true) (hl : 10 < fs.length) (hdg : decode cc pc = .ok (.putfield 82, 3)) (w1 : va_W) (h1 : ws.set q0 (a, .inr (11, fs.set 10 v)) = w1) (kk : ∀ (H1 : Heap) (locs1 : List Loc), WD D A H0 H1 locs1 w1 → W p l e R s m args below meth c H1 locs1 cells slots Q (F0 m (pc + 3) ls rest)) : W p l e R s m args below meth c H locs cells slots Q (F0 m pc ls (v :: .ref a :: rest)) :=
  k_putF (k := 10) X inT11 tyX11_ok nmX11 wd_575 rfl (by decide) rfl rfl rfl (by decide +kernel) hnam hw q0 he hn hfit hl hdg w1 h1 kk
theorem fg_576 {a : Nat} (X : CX p m c cc nL s args RX11 D ct) (hw : WD D A H0 H locs ws) (q0 : Nat) {fs : List Value} {v : Value} (he : ws[q0]? = some (a, .inr (11, fs))) (hv : fs[11]? = some v) (hdg : decode cc pc = .ok (.getfield 89, 3)) (kk : W p l e R s m args below meth c H locs cells slots Q (F0 m (pc + 3) ls (v :: rest))) : W p l e R s m args below meth c H locs cells slots Q (F0 m pc ls (.ref a :: rest)) :=
  k_get (k := 11) X inT11 wd_576 rfl (by decide) rfl hw q0 he hv hdg kk
theorem fp_576 {a : Nat} (X : CX p m c cc nL s args RX11 D ct) (hnam : meth.name = "<init>") (hw : WD D A H0 H locs ws) (q0 : Nat) {fs : List Value} {v : Value} (he : ws[q0]? = some (a, .inr (11, fs))) (hn : narrow (.object "FloorsByLot$Living") v = v) (hfit : fits (.object "FloorsByLot$Living") v = true) (hl : 11 < fs.length) (hdg : decode cc pc = .ok (.putfield 89, 3)) (w1 : va_W) (h1 : ws.set q0 (a, .inr (11, fs.set 11 v)) = w1) (kk : ∀ (H1 : Heap) (locs1 : List Loc), WD D A H0 H1 locs1 w1 → W p l e R s m args below meth c H1 locs1 cells slots Q (F0 m (pc + 3) ls rest)) : W p l e R s m args below meth c H locs cells slots Q (F0 m pc ls (v :: .ref a :: rest)) :=
  k_putF (k := 11) X inT11 tyX11_ok nmX11 wd_576 rfl (by decide) rfl rfl rfl (by decide +kernel) hnam hw q0 he hn hfit hl hdg w1 h1 kk
theorem fg_577 {a : Nat} (X : CX p m c cc nL s args RX11 D ct) (hw : WD D A H0 H locs ws) (q0 : Nat) {fs : List Value} {v : Value} (he : ws[q0]? = some (a, .inr (11, fs))) (hv : fs[12]? = some v) (hdg : decode cc pc = .ok (.getfield 95, 3)) (kk : W p l e R s m args below meth c H locs cells slots Q (F0 m (pc + 3) ls (v :: rest))) : W p l e R s m args below meth c H locs cells slots Q (F0 m pc ls (.ref a :: rest)) :=
  k_get (k := 12) X inT11 wd_577 rfl (by decide) rfl hw q0 he hv hdg kk
theorem fp_577 {a : Nat} (X : CX p m c cc nL s args RX11 D ct) (hnam : meth.name = "<init>") (hw : WD D A H0 H locs ws) (q0 : Nat) {fs : List Value} {v : Value} (he : ws[q0]? = some (a, .inr (11, fs))) (hn : narrow (.array (.object "FloorsByLot$Tray")) v = v) (hfit : fits (.array (.object "FloorsByLot$Tray")) v = true) (hl : 12 < fs.length) (hdg : decode cc pc = .ok (.putfield 95, 3)) (w1 : va_W) (h1 : ws.set q0 (a, .inr (11, fs.set 12 v)) = w1) (kk : ∀ (H1 : Heap) (locs1 : List Loc), WD D A H0 H1 locs1 w1 → W p l e R s m args below meth c H1 locs1 cells slots Q (F0 m (pc + 3) ls rest)) : W p l e R s m args below meth c H locs cells slots Q (F0 m pc ls (v :: .ref a :: rest)) :=
  k_putF (k := 12) X inT11 tyX11_ok nmX11 wd_577 rfl (by decide) rfl rfl rfl (by decide +kernel) hnam hw q0 he hn hfit hl hdg w1 h1 kk
theorem fg_578 {a : Nat} (X : CX p m c cc nL s args RX11 D ct) (hw : WD D A H0 H locs ws) (q0 : Nat) {fs : List Value} {v : Value} (he : ws[q0]? = some (a, .inr (11, fs))) (hv : fs[13]? = some v) (hdg : decode cc pc = .ok (.getfield 99, 3)) (kk : W p l e R s m args below meth c H locs cells slots Q (F0 m (pc + 3) ls (v :: rest))) : W p l e R s m args below meth c H locs cells slots Q (F0 m pc ls (.ref a :: rest)) :=
  k_get (k := 13) X inT11 wd_578 rfl (by decide) rfl hw q0 he hv hdg kk
theorem fp_578 {a : Nat} (X : CX p m c cc nL s args RX11 D ct) (hnam : meth.name = "<init>") (hw : WD D A H0 H locs ws) (q0 : Nat) {fs : List Value} {v : Value} (he : ws[q0]? = some (a, .inr (11, fs))) (hn : narrow (.array (.object "FloorsByLot$House")) v = v) (hfit : fits (.array (.object "FloorsByLot$House")) v = true) (hl : 13 < fs.length) (hdg : decode cc pc = .ok (.putfield 99, 3)) (w1 : va_W) (h1 : ws.set q0 (a, .inr (11, fs.set 13 v)) = w1) (kk : ∀ (H1 : Heap) (locs1 : List Loc), WD D A H0 H1 locs1 w1 → W p l e R s m args below meth c H1 locs1 cells slots Q (F0 m (pc + 3) ls rest)) : W p l e R s m args below meth c H locs cells slots Q (F0 m pc ls (v :: .ref a :: rest)) :=
  k_putF (k := 13) X inT11 tyX11_ok nmX11 wd_578 rfl (by decide) rfl rfl rfl (by decide +kernel) hnam hw q0 he hn hfit hl hdg w1 h1 kk
theorem fg_579 {a : Nat} (X : CX p m c cc nL s args RX11 D ct) (hw : WD D A H0 H locs ws) (q0 : Nat) {fs : List Value} {v : Value} (he : ws[q0]? = some (a, .inr (11, fs))) (hv : fs[14]? = some v) (hdg : decode cc pc = .ok (.getfield 103, 3)) (kk : W p l e R s m args below meth c H locs cells slots Q (F0 m (pc + 3) ls (v :: rest))) : W p l e R s m args below meth c H locs cells slots Q (F0 m pc ls (.ref a :: rest)) :=
  k_get (k := 14) X inT11 wd_579 rfl (by decide) rfl hw q0 he hv hdg kk
theorem fp_579 {a : Nat} (X : CX p m c cc nL s args RX11 D ct) (hnam : meth.name = "<init>") (hw : WD D A H0 H locs ws) (q0 : Nat) {fs : List Value} {v : Value} (he : ws[q0]? = some (a, .inr (11, fs))) (hn : narrow (.array (.int)) v = v) (hfit : fits (.array (.int)) v = true) (hl : 14 < fs.length) (hdg : decode cc pc = .ok (.putfield 103, 3)) (w1 : va_W) (h1 : ws.set q0 (a, .inr (11, fs.set 14 v)) = w1) (kk : ∀ (H1 : Heap) (locs1 : List Loc), WD D A H0 H1 locs1 w1 → W p l e R s m args below meth c H1 locs1 cells slots Q (F0 m (pc + 3) ls rest)) : W p l e R s m args below meth c H locs cells slots Q (F0 m pc ls (v :: .ref a :: rest)) :=
  k_putF (k := 14) X inT11 tyX11_ok nmX11 wd_579 rfl (by decide) rfl rfl rfl (by decide +kernel) hnam hw q0 he hn hfit hl hdg w1 h1 kk
theorem fg_580 {a : Nat} (X : CX p m c cc nL s args RX11 D ct) (hw : WD D A H0 H locs ws) (q0 : Nat) {fs : List Value} {v : Value} (he : ws[q0]? = some (a, .inr (11, fs))) (hv : fs[15]? = some v) (hdg : decode cc pc = .ok (.getfield 107, 3)) (kk : W p l e R s m args below meth c H locs cells slots Q (F0 m (pc + 3) ls (v :: rest))) : W p l e R s m args below meth c H locs cells slots Q (F0 m pc ls (.ref a :: rest)) :=
  k_get (k := 15) X inT11 wd_580 rfl (by decide) rfl hw q0 he hv hdg kk
theorem fp_580 {a : Nat} (X : CX p m c cc nL s args RX11 D ct) (hnam : meth.name = "<init>") (hw : WD D A H0 H locs ws) (q0 : Nat) {fs : List Value} {v : Value} (he : ws[q0]? = some (a, .inr (11, fs))) (hn : narrow (.array (.int)) v = v) (hfit : fits (.array (.int)) v = true) (hl : 15 < fs.length) (hdg : decode cc pc = .ok (.putfield 107, 3)) (w1 : va_W) (h1 : ws.set q0 (a, .inr (11, fs.set 15 v)) = w1) (kk : ∀ (H1 : Heap) (locs1 : List Loc), WD D A H0 H1 locs1 w1 → W p l e R s m args below meth c H1 locs1 cells slots Q (F0 m (pc + 3) ls rest)) : W p l e R s m args below meth c H locs cells slots Q (F0 m pc ls (v :: .ref a :: rest)) :=
  k_putF (k := 15) X inT11 tyX11_ok nmX11 wd_580 rfl (by decide) rfl rfl rfl (by decide +kernel) hnam hw q0 he hn hfit hl hdg w1 h1 kk
theorem fg_581 {a : Nat} (X : CX p m c cc nL s args RX11 D ct) (hw : WD D A H0 H locs ws) (q0 : Nat) {fs : List Value} {v : Value} (he : ws[q0]? = some (a, .inr (11, fs))) (hv : fs[16]? = some v) (hdg : decode cc pc = .ok (.getfield 110, 3)) (kk : W p l e R s m args below meth c H locs cells slots Q (F0 m (pc + 3) ls (v :: rest))) : W p l e R s m args below meth c H locs cells slots Q (F0 m pc ls (.ref a :: rest)) :=
  k_get (k := 16) X inT11 wd_581 rfl (by decide) rfl hw q0 he hv hdg kk
theorem fp_581 {a : Nat} (X : CX p m c cc nL s args RX11 D ct) (hw : WD D A H0 H locs ws) (q0 : Nat) {fs : List Value} {v : Value} (he : ws[q0]? = some (a, .inr (11, fs))) (hn : narrow (.int) v = v) (hfit : fits (.int) v = true) (hl : 16 < fs.length) (hdg : decode cc pc = .ok (.putfield 110, 3)) (w1 : va_W) (h1 : ws.set q0 (a, .inr (11, fs.set 16 v)) = w1) (kk : ∀ (H1 : Heap) (locs1 : List Loc), WD D A H0 H1 locs1 w1 → W p l e R s m args below meth c H1 locs1 cells slots Q (F0 m (pc + 3) ls rest)) : W p l e R s m args below meth c H locs cells slots Q (F0 m pc ls (v :: .ref a :: rest)) :=
  k_put (k := 16) X inT11 tyX11_ok nmX11 wd_581 rfl (by decide) rfl rfl (by decide +kernel) hw q0 he hn hfit hl hdg w1 h1 kk
theorem fg_582 {a : Nat} (X : CX p m c cc nL s args RX11 D ct) (hw : WD D A H0 H locs ws) (q0 : Nat) {fs : List Value} {v : Value} (he : ws[q0]? = some (a, .inr (11, fs))) (hv : fs[17]? = some v) (hdg : decode cc pc = .ok (.getfield 113, 3)) (kk : W p l e R s m args below meth c H locs cells slots Q (F0 m (pc + 3) ls (v :: rest))) : W p l e R s m args below meth c H locs cells slots Q (F0 m pc ls (.ref a :: rest)) :=
  k_get (k := 17) X inT11 wd_582 rfl (by decide) rfl hw q0 he hv hdg kk
theorem fp_582 {a : Nat} (X : CX p m c cc nL s args RX11 D ct) (hw : WD D A H0 H locs ws) (q0 : Nat) {fs : List Value} {v : Value} (he : ws[q0]? = some (a, .inr (11, fs))) (hn : narrow (.int) v = v) (hfit : fits (.int) v = true) (hl : 17 < fs.length) (hdg : decode cc pc = .ok (.putfield 113, 3)) (w1 : va_W) (h1 : ws.set q0 (a, .inr (11, fs.set 17 v)) = w1) (kk : ∀ (H1 : Heap) (locs1 : List Loc), WD D A H0 H1 locs1 w1 → W p l e R s m args below meth c H1 locs1 cells slots Q (F0 m (pc + 3) ls rest)) : W p l e R s m args below meth c H locs cells slots Q (F0 m pc ls (v :: .ref a :: rest)) :=
  k_put (k := 17) X inT11 tyX11_ok nmX11 wd_582 rfl (by decide) rfl rfl (by decide +kernel) hw q0 he hn hfit hl hdg w1 h1 kk
theorem fg_1442 {a : Nat} (X : CX p m c cc nL s args RX12 D ct) (hw : WD D A H0 H locs ws) (q0 : Nat) {fs : List Value} {v : Value} (he : ws[q0]? = some (a, .inr (12, fs))) (hv : fs[0]? = some v) (hdg : decode cc pc = .ok (.getfield 1, 3)) (kk : W p l e R s m args below meth c H locs cells slots Q (F0 m (pc + 3) ls (v :: rest))) : W p l e R s m args below meth c H locs cells slots Q (F0 m pc ls (.ref a :: rest)) :=
  k_get (k := 0) X inT12 wd_1442 rfl (by decide) rfl hw q0 he hv hdg kk
theorem fp_1442 {a : Nat} (X : CX p m c cc nL s args RX12 D ct) (hw : WD D A H0 H locs ws) (q0 : Nat) {fs : List Value} {v : Value} (he : ws[q0]? = some (a, .inr (12, fs))) (hn : narrow (.int) v = v) (hfit : fits (.int) v = true) (hl : 0 < fs.length) (hdg : decode cc pc = .ok (.putfield 1, 3)) (w1 : va_W) (h1 : ws.set q0 (a, .inr (12, fs.set 0 v)) = w1) (kk : ∀ (H1 : Heap) (locs1 : List Loc), WD D A H0 H1 locs1 w1 → W p l e R s m args below meth c H1 locs1 cells slots Q (F0 m (pc + 3) ls rest)) : W p l e R s m args below meth c H locs cells slots Q (F0 m pc ls (v :: .ref a :: rest)) :=
  k_put (k := 0) X inT12 tyX12_ok nmX12 wd_1442 rfl (by decide) rfl rfl (by decide +kernel) hw q0 he hn hfit hl hdg w1 h1 kk
theorem fg_1443 {a : Nat} (X : CX p m c cc nL s args RX12 D ct) (hw : WD D A H0 H locs ws) (q0 : Nat) {fs : List Value} {v : Value} (he : ws[q0]? = some (a, .inr (12, fs))) (hv : fs[1]? = some v) (hdg : decode cc pc = .ok (.getfield 13, 3)) (kk : W p l e R s m args below meth c H locs cells slots Q (F0 m (pc + 3) ls (v :: rest))) : W p l e R s m args below meth c H locs cells slots Q (F0 m pc ls (.ref a :: rest)) :=
  k_get (k := 1) X inT12 wd_1443 rfl (by decide) rfl hw q0 he hv hdg kk
theorem fp_1443 {a : Nat} (X : CX p m c cc nL s args RX12 D ct) (hnam : meth.name = "<init>") (hw : WD D A H0 H locs ws) (q0 : Nat) {fs : List Value} {v : Value} (he : ws[q0]? = some (a, .inr (12, fs))) (hn : narrow (.array (.int)) v = v) (hfit : fits (.array (.int)) v = true) (hl : 1 < fs.length) (hdg : decode cc pc = .ok (.putfield 13, 3)) (w1 : va_W) (h1 : ws.set q0 (a, .inr (12, fs.set 1 v)) = w1) (kk : ∀ (H1 : Heap) (locs1 : List Loc), WD D A H0 H1 locs1 w1 → W p l e R s m args below meth c H1 locs1 cells slots Q (F0 m (pc + 3) ls rest)) : W p l e R s m args below meth c H locs cells slots Q (F0 m pc ls (v :: .ref a :: rest)) :=
  k_putF (k := 1) X inT12 tyX12_ok nmX12 wd_1443 rfl (by decide) rfl rfl rfl (by decide +kernel) hnam hw q0 he hn hfit hl hdg w1 h1 kk
theorem fg_1444 {a : Nat} (X : CX p m c cc nL s args RX12 D ct) (hw : WD D A H0 H locs ws) (q0 : Nat) {fs : List Value} {v : Value} (he : ws[q0]? = some (a, .inr (12, fs))) (hv : fs[2]? = some v) (hdg : decode cc pc = .ok (.getfield 17, 3)) (kk : W p l e R s m args below meth c H locs cells slots Q (F0 m (pc + 3) ls (v :: rest))) : W p l e R s m args below meth c H locs cells slots Q (F0 m pc ls (.ref a :: rest)) :=
  k_get (k := 2) X inT12 wd_1444 rfl (by decide) rfl hw q0 he hv hdg kk
theorem fp_1444 {a : Nat} (X : CX p m c cc nL s args RX12 D ct) (hnam : meth.name = "<init>") (hw : WD D A H0 H locs ws) (q0 : Nat) {fs : List Value} {v : Value} (he : ws[q0]? = some (a, .inr (12, fs))) (hn : narrow (.array (.boolean)) v = v) (hfit : fits (.array (.boolean)) v = true) (hl : 2 < fs.length) (hdg : decode cc pc = .ok (.putfield 17, 3)) (w1 : va_W) (h1 : ws.set q0 (a, .inr (12, fs.set 2 v)) = w1) (kk : ∀ (H1 : Heap) (locs1 : List Loc), WD D A H0 H1 locs1 w1 → W p l e R s m args below meth c H1 locs1 cells slots Q (F0 m (pc + 3) ls rest)) : W p l e R s m args below meth c H locs cells slots Q (F0 m pc ls (v :: .ref a :: rest)) :=
  k_putF (k := 2) X inT12 tyX12_ok nmX12 wd_1444 rfl (by decide) rfl rfl rfl (by decide +kernel) hnam hw q0 he hn hfit hl hdg w1 h1 kk
theorem fg_1445 {a : Nat} (X : CX p m c cc nL s args RX12 D ct) (hw : WD D A H0 H locs ws) (q0 : Nat) {fs : List Value} {v : Value} (he : ws[q0]? = some (a, .inr (12, fs))) (hv : fs[3]? = some v) (hdg : decode cc pc = .ok (.getfield 21, 3)) (kk : W p l e R s m args below meth c H locs cells slots Q (F0 m (pc + 3) ls (v :: rest))) : W p l e R s m args below meth c H locs cells slots Q (F0 m pc ls (.ref a :: rest)) :=
  k_get (k := 3) X inT12 wd_1445 rfl (by decide) rfl hw q0 he hv hdg kk
theorem fp_1445 {a : Nat} (X : CX p m c cc nL s args RX12 D ct) (hnam : meth.name = "<init>") (hw : WD D A H0 H locs ws) (q0 : Nat) {fs : List Value} {v : Value} (he : ws[q0]? = some (a, .inr (12, fs))) (hn : narrow (.array (.int)) v = v) (hfit : fits (.array (.int)) v = true) (hl : 3 < fs.length) (hdg : decode cc pc = .ok (.putfield 21, 3)) (w1 : va_W) (h1 : ws.set q0 (a, .inr (12, fs.set 3 v)) = w1) (kk : ∀ (H1 : Heap) (locs1 : List Loc), WD D A H0 H1 locs1 w1 → W p l e R s m args below meth c H1 locs1 cells slots Q (F0 m (pc + 3) ls rest)) : W p l e R s m args below meth c H locs cells slots Q (F0 m pc ls (v :: .ref a :: rest)) :=
  k_putF (k := 3) X inT12 tyX12_ok nmX12 wd_1445 rfl (by decide) rfl rfl rfl (by decide +kernel) hnam hw q0 he hn hfit hl hdg w1 h1 kk
theorem fg_1446 {a : Nat} (X : CX p m c cc nL s args RX12 D ct) (hw : WD D A H0 H locs ws) (q0 : Nat) {fs : List Value} {v : Value} (he : ws[q0]? = some (a, .inr (12, fs))) (hv : fs[4]? = some v) (hdg : decode cc pc = .ok (.getfield 24, 3)) (kk : W p l e R s m args below meth c H locs cells slots Q (F0 m (pc + 3) ls (v :: rest))) : W p l e R s m args below meth c H locs cells slots Q (F0 m pc ls (.ref a :: rest)) :=
  k_get (k := 4) X inT12 wd_1446 rfl (by decide) rfl hw q0 he hv hdg kk
theorem fp_1446 {a : Nat} (X : CX p m c cc nL s args RX12 D ct) (hnam : meth.name = "<init>") (hw : WD D A H0 H locs ws) (q0 : Nat) {fs : List Value} {v : Value} (he : ws[q0]? = some (a, .inr (12, fs))) (hn : narrow (.array (.int)) v = v) (hfit : fits (.array (.int)) v = true) (hl : 4 < fs.length) (hdg : decode cc pc = .ok (.putfield 24, 3)) (w1 : va_W) (h1 : ws.set q0 (a, .inr (12, fs.set 4 v)) = w1) (kk : ∀ (H1 : Heap) (locs1 : List Loc), WD D A H0 H1 locs1 w1 → W p l e R s m args below meth c H1 locs1 cells slots Q (F0 m (pc + 3) ls rest)) : W p l e R s m args below meth c H locs cells slots Q (F0 m pc ls (v :: .ref a :: rest)) :=
  k_putF (k := 4) X inT12 tyX12_ok nmX12 wd_1446 rfl (by decide) rfl rfl rfl (by decide +kernel) hnam hw q0 he hn hfit hl hdg w1 h1 kk
theorem fg_1447 {a : Nat} (X : CX p m c cc nL s args RX12 D ct) (hw : WD D A H0 H locs ws) (q0 : Nat) {fs : List Value} {v : Value} (he : ws[q0]? = some (a, .inr (12, fs))) (hv : fs[5]? = some v) (hdg : decode cc pc = .ok (.getfield 72, 3)) (kk : W p l e R s m args below meth c H locs cells slots Q (F0 m (pc + 3) ls (v :: rest))) : W p l e R s m args below meth c H locs cells slots Q (F0 m pc ls (.ref a :: rest)) :=
  k_get (k := 5) X inT12 wd_1447 rfl (by decide) rfl hw q0 he hv hdg kk
theorem fp_1447 {a : Nat} (X : CX p m c cc nL s args RX12 D ct) (hw : WD D A H0 H locs ws) (q0 : Nat) {fs : List Value} {v : Value} (he : ws[q0]? = some (a, .inr (12, fs))) (hn : narrow (.int) v = v) (hfit : fits (.int) v = true) (hl : 5 < fs.length) (hdg : decode cc pc = .ok (.putfield 72, 3)) (w1 : va_W) (h1 : ws.set q0 (a, .inr (12, fs.set 5 v)) = w1) (kk : ∀ (H1 : Heap) (locs1 : List Loc), WD D A H0 H1 locs1 w1 → W p l e R s m args below meth c H1 locs1 cells slots Q (F0 m (pc + 3) ls rest)) : W p l e R s m args below meth c H locs cells slots Q (F0 m pc ls (v :: .ref a :: rest)) :=
  k_put (k := 5) X inT12 tyX12_ok nmX12 wd_1447 rfl (by decide) rfl rfl (by decide +kernel) hw q0 he hn hfit hl hdg w1 h1 kk
theorem fg_1448 {a : Nat} (X : CX p m c cc nL s args RX12 D ct) (hw : WD D A H0 H locs ws) (q0 : Nat) {fs : List Value} {v : Value} (he : ws[q0]? = some (a, .inr (12, fs))) (hv : fs[6]? = some v) (hdg : decode cc pc = .ok (.getfield 90, 3)) (kk : W p l e R s m args below meth c H locs cells slots Q (F0 m (pc + 3) ls (v :: rest))) : W p l e R s m args below meth c H locs cells slots Q (F0 m pc ls (.ref a :: rest)) :=
  k_get (k := 6) X inT12 wd_1448 rfl (by decide) rfl hw q0 he hv hdg kk
theorem fp_1448 {a : Nat} (X : CX p m c cc nL s args RX12 D ct) (hw : WD D A H0 H locs ws) (q0 : Nat) {fs : List Value} {v : Value} (he : ws[q0]? = some (a, .inr (12, fs))) (hn : narrow (.int) v = v) (hfit : fits (.int) v = true) (hl : 6 < fs.length) (hdg : decode cc pc = .ok (.putfield 90, 3)) (w1 : va_W) (h1 : ws.set q0 (a, .inr (12, fs.set 6 v)) = w1) (kk : ∀ (H1 : Heap) (locs1 : List Loc), WD D A H0 H1 locs1 w1 → W p l e R s m args below meth c H1 locs1 cells slots Q (F0 m (pc + 3) ls rest)) : W p l e R s m args below meth c H locs cells slots Q (F0 m pc ls (v :: .ref a :: rest)) :=
  k_put (k := 6) X inT12 tyX12_ok nmX12 wd_1448 rfl (by decide) rfl rfl (by decide +kernel) hw q0 he hn hfit hl hdg w1 h1 kk
theorem fg_1449 {a : Nat} (X : CX p m c cc nL s args RX12 D ct) (hw : WD D A H0 H locs ws) (q0 : Nat) {fs : List Value} {v : Value} (he : ws[q0]? = some (a, .inr (12, fs))) (hv : fs[7]? = some v) (hdg : decode cc pc = .ok (.getfield 93, 3)) (kk : W p l e R s m args below meth c H locs cells slots Q (F0 m (pc + 3) ls (v :: rest))) : W p l e R s m args below meth c H locs cells slots Q (F0 m pc ls (.ref a :: rest)) :=
  k_get (k := 7) X inT12 wd_1449 rfl (by decide) rfl hw q0 he hv hdg kk
theorem fp_1449 {a : Nat} (X : CX p m c cc nL s args RX12 D ct) (hw : WD D A H0 H locs ws) (q0 : Nat) {fs : List Value} {v : Value} (he : ws[q0]? = some (a, .inr (12, fs))) (hn : narrow (.int) v = v) (hfit : fits (.int) v = true) (hl : 7 < fs.length) (hdg : decode cc pc = .ok (.putfield 93, 3)) (w1 : va_W) (h1 : ws.set q0 (a, .inr (12, fs.set 7 v)) = w1) (kk : ∀ (H1 : Heap) (locs1 : List Loc), WD D A H0 H1 locs1 w1 → W p l e R s m args below meth c H1 locs1 cells slots Q (F0 m (pc + 3) ls rest)) : W p l e R s m args below meth c H locs cells slots Q (F0 m pc ls (v :: .ref a :: rest)) :=
  k_put (k := 7) X inT12 tyX12_ok nmX12 wd_1449 rfl (by decide) rfl rfl (by decide +kernel) hw q0 he hn hfit hl hdg w1 h1 kk
theorem fg_1450 {a : Nat} (X : CX p m c cc nL s args RX12 D ct) (hw : WD D A H0 H locs ws) (q0 : Nat) {fs : List Value} {v : Value} (he : ws[q0]? = some (a, .inr (12, fs))) (hv : fs[8]? = some v) (hdg : decode cc pc = .ok (.getfield 75, 3)) (kk : W p l e R s m args below meth c H locs cells slots Q (F0 m (pc + 3) ls (v :: rest))) : W p l e R s m args below meth c H locs cells slots Q (F0 m pc ls (.ref a :: rest)) :=
  k_get (k := 8) X inT12 wd_1450 rfl (by decide) rfl hw q0 he hv hdg kk
theorem fp_1450 {a : Nat} (X : CX p m c cc nL s args RX12 D ct) (hw : WD D A H0 H locs ws) (q0 : Nat) {fs : List Value} {v : Value} (he : ws[q0]? = some (a, .inr (12, fs))) (hn : narrow (.int) v = v) (hfit : fits (.int) v = true) (hl : 8 < fs.length) (hdg : decode cc pc = .ok (.putfield 75, 3)) (w1 : va_W) (h1 : ws.set q0 (a, .inr (12, fs.set 8 v)) = w1) (kk : ∀ (H1 : Heap) (locs1 : List Loc), WD D A H0 H1 locs1 w1 → W p l e R s m args below meth c H1 locs1 cells slots Q (F0 m (pc + 3) ls rest)) : W p l e R s m args below meth c H locs cells slots Q (F0 m pc ls (v :: .ref a :: rest)) :=
  k_put (k := 8) X inT12 tyX12_ok nmX12 wd_1450 rfl (by decide) rfl rfl (by decide +kernel) hw q0 he hn hfit hl hdg w1 h1 kk
theorem fg_1451 {a : Nat} (X : CX p m c cc nL s args RX12 D ct) (hw : WD D A H0 H locs ws) (q0 : Nat) {fs : List Value} {v : Value} (he : ws[q0]? = some (a, .inr (12, fs))) (hv : fs[9]? = some v) (hdg : decode cc pc = .ok (.getfield 100, 3)) (kk : W p l e R s m args below meth c H locs cells slots Q (F0 m (pc + 3) ls (v :: rest))) : W p l e R s m args below meth c H locs cells slots Q (F0 m pc ls (.ref a :: rest)) :=
  k_get (k := 9) X inT12 wd_1451 rfl (by decide) rfl hw q0 he hv hdg kk
theorem fp_1451 {a : Nat} (X : CX p m c cc nL s args RX12 D ct) (hw : WD D A H0 H locs ws) (q0 : Nat) {fs : List Value} {v : Value} (he : ws[q0]? = some (a, .inr (12, fs))) (hn : narrow (.int) v = v) (hfit : fits (.int) v = true) (hl : 9 < fs.length) (hdg : decode cc pc = .ok (.putfield 100, 3)) (w1 : va_W) (h1 : ws.set q0 (a, .inr (12, fs.set 9 v)) = w1) (kk : ∀ (H1 : Heap) (locs1 : List Loc), WD D A H0 H1 locs1 w1 → W p l e R s m args below meth c H1 locs1 cells slots Q (F0 m (pc + 3) ls rest)) : W p l e R s m args below meth c H locs cells slots Q (F0 m pc ls (v :: .ref a :: rest)) :=
  k_put (k := 9) X inT12 tyX12_ok nmX12 wd_1451 rfl (by decide) rfl rfl (by decide +kernel) hw q0 he hn hfit hl hdg w1 h1 kk
theorem fg_1452 {a : Nat} (X : CX p m c cc nL s args RX12 D ct) (hw : WD D A H0 H locs ws) (q0 : Nat) {fs : List Value} {v : Value} (he : ws[q0]? = some (a, .inr (12, fs))) (hv : fs[10]? = some v) (hdg : decode cc pc = .ok (.getfield 113, 3)) (kk : W p l e R s m args below meth c H locs cells slots Q (F0 m (pc + 3) ls (v :: rest))) : W p l e R s m args below meth c H locs cells slots Q (F0 m pc ls (.ref a :: rest)) :=
  k_get (k := 10) X inT12 wd_1452 rfl (by decide) rfl hw q0 he hv hdg kk
theorem fp_1452 {a : Nat} (X : CX p m c cc nL s args RX12 D ct) (hw : WD D A H0 H locs ws) (q0 : Nat) {fs : List Value} {v : Value} (he : ws[q0]? = some (a, .inr (12, fs))) (hn : narrow (.int) v = v) (hfit : fits (.int) v = true) (hl : 10 < fs.length) (hdg : decode cc pc = .ok (.putfield 113, 3)) (w1 : va_W) (h1 : ws.set q0 (a, .inr (12, fs.set 10 v)) = w1) (kk : ∀ (H1 : Heap) (locs1 : List Loc), WD D A H0 H1 locs1 w1 → W p l e R s m args below meth c H1 locs1 cells slots Q (F0 m (pc + 3) ls rest)) : W p l e R s m args below meth c H locs cells slots Q (F0 m pc ls (v :: .ref a :: rest)) :=
  k_put (k := 10) X inT12 tyX12_ok nmX12 wd_1452 rfl (by decide) rfl rfl (by decide +kernel) hw q0 he hn hfit hl hdg w1 h1 kk
theorem fg_1453 {a : Nat} (X : CX p m c cc nL s args RX12 D ct) (hw : WD D A H0 H locs ws) (q0 : Nat) {fs : List Value} {v : Value} (he : ws[q0]? = some (a, .inr (12, fs))) (hv : fs[11]? = some v) (hdg : decode cc pc = .ok (.getfield 118, 3)) (kk : W p l e R s m args below meth c H locs cells slots Q (F0 m (pc + 3) ls (v :: rest))) : W p l e R s m args below meth c H locs cells slots Q (F0 m pc ls (.ref a :: rest)) :=
  k_get (k := 11) X inT12 wd_1453 rfl (by decide) rfl hw q0 he hv hdg kk
theorem fp_1453 {a : Nat} (X : CX p m c cc nL s args RX12 D ct) (hw : WD D A H0 H locs ws) (q0 : Nat) {fs : List Value} {v : Value} (he : ws[q0]? = some (a, .inr (12, fs))) (hn : narrow (.int) v = v) (hfit : fits (.int) v = true) (hl : 11 < fs.length) (hdg : decode cc pc = .ok (.putfield 118, 3)) (w1 : va_W) (h1 : ws.set q0 (a, .inr (12, fs.set 11 v)) = w1) (kk : ∀ (H1 : Heap) (locs1 : List Loc), WD D A H0 H1 locs1 w1 → W p l e R s m args below meth c H1 locs1 cells slots Q (F0 m (pc + 3) ls rest)) : W p l e R s m args below meth c H locs cells slots Q (F0 m pc ls (v :: .ref a :: rest)) :=
  k_put (k := 11) X inT12 tyX12_ok nmX12 wd_1453 rfl (by decide) rfl rfl (by decide +kernel) hw q0 he hn hfit hl hdg w1 h1 kk
theorem fg_1454 {a : Nat} (X : CX p m c cc nL s args RX12 D ct) (hw : WD D A H0 H locs ws) (q0 : Nat) {fs : List Value} {v : Value} (he : ws[q0]? = some (a, .inr (12, fs))) (hv : fs[12]? = some v) (hdg : decode cc pc = .ok (.getfield 121, 3)) (kk : W p l e R s m args below meth c H locs cells slots Q (F0 m (pc + 3) ls (v :: rest))) : W p l e R s m args below meth c H locs cells slots Q (F0 m pc ls (.ref a :: rest)) :=
  k_get (k := 12) X inT12 wd_1454 rfl (by decide) rfl hw q0 he hv hdg kk
theorem fp_1454 {a : Nat} (X : CX p m c cc nL s args RX12 D ct) (hw : WD D A H0 H locs ws) (q0 : Nat) {fs : List Value} {v : Value} (he : ws[q0]? = some (a, .inr (12, fs))) (hn : narrow (.int) v = v) (hfit : fits (.int) v = true) (hl : 12 < fs.length) (hdg : decode cc pc = .ok (.putfield 121, 3)) (w1 : va_W) (h1 : ws.set q0 (a, .inr (12, fs.set 12 v)) = w1) (kk : ∀ (H1 : Heap) (locs1 : List Loc), WD D A H0 H1 locs1 w1 → W p l e R s m args below meth c H1 locs1 cells slots Q (F0 m (pc + 3) ls rest)) : W p l e R s m args below meth c H locs cells slots Q (F0 m pc ls (v :: .ref a :: rest)) :=
  k_put (k := 12) X inT12 tyX12_ok nmX12 wd_1454 rfl (by decide) rfl rfl (by decide +kernel) hw q0 he hn hfit hl hdg w1 h1 kk
theorem fg_1455 {a : Nat} (X : CX p m c cc nL s args RX12 D ct) (hw : WD D A H0 H locs ws) (q0 : Nat) {fs : List Value} {v : Value} (he : ws[q0]? = some (a, .inr (12, fs))) (hv : fs[13]? = some v) (hdg : decode cc pc = .ok (.getfield 195, 3)) (kk : W p l e R s m args below meth c H locs cells slots Q (F0 m (pc + 3) ls (v :: rest))) : W p l e R s m args below meth c H locs cells slots Q (F0 m pc ls (.ref a :: rest)) :=
  k_get (k := 13) X inT12 wd_1455 rfl (by decide) rfl hw q0 he hv hdg kk
theorem fp_1455 {a : Nat} (X : CX p m c cc nL s args RX12 D ct) (hw : WD D A H0 H locs ws) (q0 : Nat) {fs : List Value} {v : Value} (he : ws[q0]? = some (a, .inr (12, fs))) (hn : narrow (.int) v = v) (hfit : fits (.int) v = true) (hl : 13 < fs.length) (hdg : decode cc pc = .ok (.putfield 195, 3)) (w1 : va_W) (h1 : ws.set q0 (a, .inr (12, fs.set 13 v)) = w1) (kk : ∀ (H1 : Heap) (locs1 : List Loc), WD D A H0 H1 locs1 w1 → W p l e R s m args below meth c H1 locs1 cells slots Q (F0 m (pc + 3) ls rest)) : W p l e R s m args below meth c H locs cells slots Q (F0 m pc ls (v :: .ref a :: rest)) :=
  k_put (k := 13) X inT12 tyX12_ok nmX12 wd_1455 rfl (by decide) rfl rfl (by decide +kernel) hw q0 he hn hfit hl hdg w1 h1 kk
theorem fg_1456 {a : Nat} (X : CX p m c cc nL s args RX12 D ct) (hw : WD D A H0 H locs ws) (q0 : Nat) {fs : List Value} {v : Value} (he : ws[q0]? = some (a, .inr (12, fs))) (hv : fs[14]? = some v) (hdg : decode cc pc = .ok (.getfield 27, 3)) (kk : W p l e R s m args below meth c H locs cells slots Q (F0 m (pc + 3) ls (v :: rest))) : W p l e R s m args below meth c H locs cells slots Q (F0 m pc ls (.ref a :: rest)) :=
  k_get (k := 14) X inT12 wd_1456 rfl (by decide) rfl hw q0 he hv hdg kk
theorem fp_1456 {a : Nat} (X : CX p m c cc nL s args RX12 D ct) (hw : WD D A H0 H locs ws) (q0 : Nat) {fs : List Value} {v : Value} (he : ws[q0]? = some (a, .inr (12, fs))) (hn : narrow (.int) v = v) (hfit : fits (.int) v = true) (hl : 14 < fs.length) (hdg : decode cc pc = .ok (.putfield 27, 3)) (w1 : va_W) (h1 : ws.set q0 (a, .inr (12, fs.set 14 v)) = w1) (kk : ∀ (H1 : Heap) (locs1 : List Loc), WD D A H0 H1 locs1 w1 → W p l e R s m args below meth c H1 locs1 cells slots Q (F0 m (pc + 3) ls rest)) : W p l e R s m args below meth c H locs cells slots Q (F0 m pc ls (v :: .ref a :: rest)) :=
  k_put (k := 14) X inT12 tyX12_ok nmX12 wd_1456 rfl (by decide) rfl rfl (by decide +kernel) hw q0 he hn hfit hl hdg w1 h1 kk
theorem fg_1457 {a : Nat} (X : CX p m c cc nL s args RX12 D ct) (hw : WD D A H0 H locs ws) (q0 : Nat) {fs : List Value} {v : Value} (he : ws[q0]? = some (a, .inr (12, fs))) (hv : fs[15]? = some v) (hdg : decode cc pc = .ok (.getfield 30, 3)) (kk : W p l e R s m args below meth c H locs cells slots Q (F0 m (pc + 3) ls (v :: rest))) : W p l e R s m args below meth c H locs cells slots Q (F0 m pc ls (.ref a :: rest)) :=
  k_get (k := 15) X inT12 wd_1457 rfl (by decide) rfl hw q0 he hv hdg kk
theorem fp_1457 {a : Nat} (X : CX p m c cc nL s args RX12 D ct) (hnam : meth.name = "<init>") (hw : WD D A H0 H locs ws) (q0 : Nat) {fs : List Value} {v : Value} (he : ws[q0]? = some (a, .inr (12, fs))) (hn : narrow (.array (.int)) v = v) (hfit : fits (.array (.int)) v = true) (hl : 15 < fs.length) (hdg : decode cc pc = .ok (.putfield 30, 3)) (w1 : va_W) (h1 : ws.set q0 (a, .inr (12, fs.set 15 v)) = w1) (kk : ∀ (H1 : Heap) (locs1 : List Loc), WD D A H0 H1 locs1 w1 → W p l e R s m args below meth c H1 locs1 cells slots Q (F0 m (pc + 3) ls rest)) : W p l e R s m args below meth c H locs cells slots Q (F0 m pc ls (v :: .ref a :: rest)) :=
  k_putF (k := 15) X inT12 tyX12_ok nmX12 wd_1457 rfl (by decide) rfl rfl rfl (by decide +kernel) hnam hw q0 he hn hfit hl hdg w1 h1 kk
theorem fg_1458 {a : Nat} (X : CX p m c cc nL s args RX12 D ct) (hw : WD D A H0 H locs ws) (q0 : Nat) {fs : List Value} {v : Value} (he : ws[q0]? = some (a, .inr (12, fs))) (hv : fs[16]? = some v) (hdg : decode cc pc = .ok (.getfield 33, 3)) (kk : W p l e R s m args below meth c H locs cells slots Q (F0 m (pc + 3) ls (v :: rest))) : W p l e R s m args below meth c H locs cells slots Q (F0 m pc ls (.ref a :: rest)) :=
  k_get (k := 16) X inT12 wd_1458 rfl (by decide) rfl hw q0 he hv hdg kk
theorem fp_1458 {a : Nat} (X : CX p m c cc nL s args RX12 D ct) (hnam : meth.name = "<init>") (hw : WD D A H0 H locs ws) (q0 : Nat) {fs : List Value} {v : Value} (he : ws[q0]? = some (a, .inr (12, fs))) (hn : narrow (.array (.int)) v = v) (hfit : fits (.array (.int)) v = true) (hl : 16 < fs.length) (hdg : decode cc pc = .ok (.putfield 33, 3)) (w1 : va_W) (h1 : ws.set q0 (a, .inr (12, fs.set 16 v)) = w1) (kk : ∀ (H1 : Heap) (locs1 : List Loc), WD D A H0 H1 locs1 w1 → W p l e R s m args below meth c H1 locs1 cells slots Q (F0 m (pc + 3) ls rest)) : W p l e R s m args below meth c H locs cells slots Q (F0 m pc ls (v :: .ref a :: rest)) :=
  k_putF (k := 16) X inT12 tyX12_ok nmX12 wd_1458 rfl (by decide) rfl rfl rfl (by decide +kernel) hnam hw q0 he hn hfit hl hdg w1 h1 kk
theorem fg_1459 {a : Nat} (X : CX p m c cc nL s args RX12 D ct) (hw : WD D A H0 H locs ws) (q0 : Nat) {fs : List Value} {v : Value} (he : ws[q0]? = some (a, .inr (12, fs))) (hv : fs[17]? = some v) (hdg : decode cc pc = .ok (.getfield 36, 3)) (kk : W p l e R s m args below meth c H locs cells slots Q (F0 m (pc + 3) ls (v :: rest))) : W p l e R s m args below meth c H locs cells slots Q (F0 m pc ls (.ref a :: rest)) :=
  k_get (k := 17) X inT12 wd_1459 rfl (by decide) rfl hw q0 he hv hdg kk
theorem fp_1459 {a : Nat} (X : CX p m c cc nL s args RX12 D ct) (hnam : meth.name = "<init>") (hw : WD D A H0 H locs ws) (q0 : Nat) {fs : List Value} {v : Value} (he : ws[q0]? = some (a, .inr (12, fs))) (hn : narrow (.array (.int)) v = v) (hfit : fits (.array (.int)) v = true) (hl : 17 < fs.length) (hdg : decode cc pc = .ok (.putfield 36, 3)) (w1 : va_W) (h1 : ws.set q0 (a, .inr (12, fs.set 17 v)) = w1) (kk : ∀ (H1 : Heap) (locs1 : List Loc), WD D A H0 H1 locs1 w1 → W p l e R s m args below meth c H1 locs1 cells slots Q (F0 m (pc + 3) ls rest)) : W p l e R s m args below meth c H locs cells slots Q (F0 m pc ls (v :: .ref a :: rest)) :=
  k_putF (k := 17) X inT12 tyX12_ok nmX12 wd_1459 rfl (by decide) rfl rfl rfl (by decide +kernel) hnam hw q0 he hn hfit hl hdg w1 h1 kk
theorem fg_1460 {a : Nat} (X : CX p m c cc nL s args RX12 D ct) (hw : WD D A H0 H locs ws) (q0 : Nat) {fs : List Value} {v : Value} (he : ws[q0]? = some (a, .inr (12, fs))) (hv : fs[18]? = some v) (hdg : decode cc pc = .ok (.getfield 40, 3)) (kk : W p l e R s m args below meth c H locs cells slots Q (F0 m (pc + 3) ls (v :: rest))) : W p l e R s m args below meth c H locs cells slots Q (F0 m pc ls (.ref a :: rest)) :=
  k_get (k := 18) X inT12 wd_1460 rfl (by decide) rfl hw q0 he hv hdg kk
theorem fp_1460 {a : Nat} (X : CX p m c cc nL s args RX12 D ct) (hnam : meth.name = "<init>") (hw : WD D A H0 H locs ws) (q0 : Nat) {fs : List Value} {v : Value} (he : ws[q0]? = some (a, .inr (12, fs))) (hn : narrow (.array (.int)) v = v) (hfit : fits (.array (.int)) v = true) (hl : 18 < fs.length) (hdg : decode cc pc = .ok (.putfield 40, 3)) (w1 : va_W) (h1 : ws.set q0 (a, .inr (12, fs.set 18 v)) = w1) (kk : ∀ (H1 : Heap) (locs1 : List Loc), WD D A H0 H1 locs1 w1 → W p l e R s m args below meth c H1 locs1 cells slots Q (F0 m (pc + 3) ls rest)) : W p l e R s m args below meth c H locs cells slots Q (F0 m pc ls (v :: .ref a :: rest)) :=
  k_putF (k := 18) X inT12 tyX12_ok nmX12 wd_1460 rfl (by decide) rfl rfl rfl (by decide +kernel) hnam hw q0 he hn hfit hl hdg w1 h1 kk
theorem fg_1461 {a : Nat} (X : CX p m c cc nL s args RX12 D ct) (hw : WD D A H0 H locs ws) (q0 : Nat) {fs : List Value} {v : Value} (he : ws[q0]? = some (a, .inr (12, fs))) (hv : fs[19]? = some v) (hdg : decode cc pc = .ok (.getfield 244, 3)) (kk : W p l e R s m args below meth c H locs cells slots Q (F0 m (pc + 3) ls (v :: rest))) : W p l e R s m args below meth c H locs cells slots Q (F0 m pc ls (.ref a :: rest)) :=
  k_get (k := 19) X inT12 wd_1461 rfl (by decide) rfl hw q0 he hv hdg kk
theorem fp_1461 {a : Nat} (X : CX p m c cc nL s args RX12 D ct) (hw : WD D A H0 H locs ws) (q0 : Nat) {fs : List Value} {v : Value} (he : ws[q0]? = some (a, .inr (12, fs))) (hn : narrow (.int) v = v) (hfit : fits (.int) v = true) (hl : 19 < fs.length) (hdg : decode cc pc = .ok (.putfield 244, 3)) (w1 : va_W) (h1 : ws.set q0 (a, .inr (12, fs.set 19 v)) = w1) (kk : ∀ (H1 : Heap) (locs1 : List Loc), WD D A H0 H1 locs1 w1 → W p l e R s m args below meth c H1 locs1 cells slots Q (F0 m (pc + 3) ls rest)) : W p l e R s m args below meth c H locs cells slots Q (F0 m pc ls (v :: .ref a :: rest)) :=
  k_put (k := 19) X inT12 tyX12_ok nmX12 wd_1461 rfl (by decide) rfl rfl (by decide +kernel) hw q0 he hn hfit hl hdg w1 h1 kk
theorem fg_1462 {a : Nat} (X : CX p m c cc nL s args RX12 D ct) (hw : WD D A H0 H locs ws) (q0 : Nat) {fs : List Value} {v : Value} (he : ws[q0]? = some (a, .inr (12, fs))) (hv : fs[20]? = some v) (hdg : decode cc pc = .ok (.getfield 43, 3)) (kk : W p l e R s m args below meth c H locs cells slots Q (F0 m (pc + 3) ls (v :: rest))) : W p l e R s m args below meth c H locs cells slots Q (F0 m pc ls (.ref a :: rest)) :=
  k_get (k := 20) X inT12 wd_1462 rfl (by decide) rfl hw q0 he hv hdg kk
theorem fp_1462 {a : Nat} (X : CX p m c cc nL s args RX12 D ct) (hnam : meth.name = "<init>") (hw : WD D A H0 H locs ws) (q0 : Nat) {fs : List Value} {v : Value} (he : ws[q0]? = some (a, .inr (12, fs))) (hn : narrow (.array (.int)) v = v) (hfit : fits (.array (.int)) v = true) (hl : 20 < fs.length) (hdg : decode cc pc = .ok (.putfield 43, 3)) (w1 : va_W) (h1 : ws.set q0 (a, .inr (12, fs.set 20 v)) = w1) (kk : ∀ (H1 : Heap) (locs1 : List Loc), WD D A H0 H1 locs1 w1 → W p l e R s m args below meth c H1 locs1 cells slots Q (F0 m (pc + 3) ls rest)) : W p l e R s m args below meth c H locs cells slots Q (F0 m pc ls (v :: .ref a :: rest)) :=
  k_putF (k := 20) X inT12 tyX12_ok nmX12 wd_1462 rfl (by decide) rfl rfl rfl (by decide +kernel) hnam hw q0 he hn hfit hl hdg w1 h1 kk
theorem fg_1463 {a : Nat} (X : CX p m c cc nL s args RX12 D ct) (hw : WD D A H0 H locs ws) (q0 : Nat) {fs : List Value} {v : Value} (he : ws[q0]? = some (a, .inr (12, fs))) (hv : fs[21]? = some v) (hdg : decode cc pc = .ok (.getfield 46, 3)) (kk : W p l e R s m args below meth c H locs cells slots Q (F0 m (pc + 3) ls (v :: rest))) : W p l e R s m args below meth c H locs cells slots Q (F0 m pc ls (.ref a :: rest)) :=
  k_get (k := 21) X inT12 wd_1463 rfl (by decide) rfl hw q0 he hv hdg kk
theorem fp_1463 {a : Nat} (X : CX p m c cc nL s args RX12 D ct) (hnam : meth.name = "<init>") (hw : WD D A H0 H locs ws) (q0 : Nat) {fs : List Value} {v : Value} (he : ws[q0]? = some (a, .inr (12, fs))) (hn : narrow (.array (.int)) v = v) (hfit : fits (.array (.int)) v = true) (hl : 21 < fs.length) (hdg : decode cc pc = .ok (.putfield 46, 3)) (w1 : va_W) (h1 : ws.set q0 (a, .inr (12, fs.set 21 v)) = w1) (kk : ∀ (H1 : Heap) (locs1 : List Loc), WD D A H0 H1 locs1 w1 → W p l e R s m args below meth c H1 locs1 cells slots Q (F0 m (pc + 3) ls rest)) : W p l e R s m args below meth c H locs cells slots Q (F0 m pc ls (v :: .ref a :: rest)) :=
  k_putF (k := 21) X inT12 tyX12_ok nmX12 wd_1463 rfl (by decide) rfl rfl rfl (by decide +kernel) hnam hw q0 he hn hfit hl hdg w1 h1 kk
theorem fg_1464 {a : Nat} (X : CX p m c cc nL s args RX12 D ct) (hw : WD D A H0 H locs ws) (q0 : Nat) {fs : List Value} {v : Value} (he : ws[q0]? = some (a, .inr (12, fs))) (hv : fs[22]? = some v) (hdg : decode cc pc = .ok (.getfield 271, 3)) (kk : W p l e R s m args below meth c H locs cells slots Q (F0 m (pc + 3) ls (v :: rest))) : W p l e R s m args below meth c H locs cells slots Q (F0 m pc ls (.ref a :: rest)) :=
  k_get (k := 22) X inT12 wd_1464 rfl (by decide) rfl hw q0 he hv hdg kk
theorem fp_1464 {a : Nat} (X : CX p m c cc nL s args RX12 D ct) (hw : WD D A H0 H locs ws) (q0 : Nat) {fs : List Value} {v : Value} (he : ws[q0]? = some (a, .inr (12, fs))) (hn : narrow (.int) v = v) (hfit : fits (.int) v = true) (hl : 22 < fs.length) (hdg : decode cc pc = .ok (.putfield 271, 3)) (w1 : va_W) (h1 : ws.set q0 (a, .inr (12, fs.set 22 v)) = w1) (kk : ∀ (H1 : Heap) (locs1 : List Loc), WD D A H0 H1 locs1 w1 → W p l e R s m args below meth c H1 locs1 cells slots Q (F0 m (pc + 3) ls rest)) : W p l e R s m args below meth c H locs cells slots Q (F0 m pc ls (v :: .ref a :: rest)) :=
  k_put (k := 22) X inT12 tyX12_ok nmX12 wd_1464 rfl (by decide) rfl rfl (by decide +kernel) hw q0 he hn hfit hl hdg w1 h1 kk
theorem fg_1465 {a : Nat} (X : CX p m c cc nL s args RX12 D ct) (hw : WD D A H0 H locs ws) (q0 : Nat) {fs : List Value} {v : Value} (he : ws[q0]? = some (a, .inr (12, fs))) (hv : fs[23]? = some v) (hdg : decode cc pc = .ok (.getfield 322, 3)) (kk : W p l e R s m args below meth c H locs cells slots Q (F0 m (pc + 3) ls (v :: rest))) : W p l e R s m args below meth c H locs cells slots Q (F0 m pc ls (.ref a :: rest)) :=
  k_get (k := 23) X inT12 wd_1465 rfl (by decide) rfl hw q0 he hv hdg kk
theorem fp_1465 {a : Nat} (X : CX p m c cc nL s args RX12 D ct) (hw : WD D A H0 H locs ws) (q0 : Nat) {fs : List Value} {v : Value} (he : ws[q0]? = some (a, .inr (12, fs))) (hn : narrow (.int) v = v) (hfit : fits (.int) v = true) (hl : 23 < fs.length) (hdg : decode cc pc = .ok (.putfield 322, 3)) (w1 : va_W) (h1 : ws.set q0 (a, .inr (12, fs.set 23 v)) = w1) (kk : ∀ (H1 : Heap) (locs1 : List Loc), WD D A H0 H1 locs1 w1 → W p l e R s m args below meth c H1 locs1 cells slots Q (F0 m (pc + 3) ls rest)) : W p l e R s m args below meth c H locs cells slots Q (F0 m pc ls (v :: .ref a :: rest)) :=
  k_put (k := 23) X inT12 tyX12_ok nmX12 wd_1465 rfl (by decide) rfl rfl (by decide +kernel) hw q0 he hn hfit hl hdg w1 h1 kk
theorem fg_1466 {a : Nat} (X : CX p m c cc nL s args RX12 D ct) (hw : WD D A H0 H locs ws) (q0 : Nat) {fs : List Value} {v : Value} (he : ws[q0]? = some (a, .inr (12, fs))) (hv : fs[24]? = some v) (hdg : decode cc pc = .ok (.getfield 345, 3)) (kk : W p l e R s m args below meth c H locs cells slots Q (F0 m (pc + 3) ls (v :: rest))) : W p l e R s m args below meth c H locs cells slots Q (F0 m pc ls (.ref a :: rest)) :=
  k_get (k := 24) X inT12 wd_1466 rfl (by decide) rfl hw q0 he hv hdg kk
theorem fp_1466 {a : Nat} (X : CX p m c cc nL s args RX12 D ct) (hw : WD D A H0 H locs ws) (q0 : Nat) {fs : List Value} {v : Value} (he : ws[q0]? = some (a, .inr (12, fs))) (hn : narrow (.int) v = v) (hfit : fits (.int) v = true) (hl : 24 < fs.length) (hdg : decode cc pc = .ok (.putfield 345, 3)) (w1 : va_W) (h1 : ws.set q0 (a, .inr (12, fs.set 24 v)) = w1) (kk : ∀ (H1 : Heap) (locs1 : List Loc), WD D A H0 H1 locs1 w1 → W p l e R s m args below meth c H1 locs1 cells slots Q (F0 m (pc + 3) ls rest)) : W p l e R s m args below meth c H locs cells slots Q (F0 m pc ls (v :: .ref a :: rest)) :=
  k_put (k := 24) X inT12 tyX12_ok nmX12 wd_1466 rfl (by decide) rfl rfl (by decide +kernel) hw q0 he hn hfit hl hdg w1 h1 kk
theorem fg_1467 {a : Nat} (X : CX p m c cc nL s args RX12 D ct) (hw : WD D A H0 H locs ws) (q0 : Nat) {fs : List Value} {v : Value} (he : ws[q0]? = some (a, .inr (12, fs))) (hv : fs[25]? = some v) (hdg : decode cc pc = .ok (.getfield 49, 3)) (kk : W p l e R s m args below meth c H locs cells slots Q (F0 m (pc + 3) ls (v :: rest))) : W p l e R s m args below meth c H locs cells slots Q (F0 m pc ls (.ref a :: rest)) :=
  k_get (k := 25) X inT12 wd_1467 rfl (by decide) rfl hw q0 he hv hdg kk
theorem fp_1467 {a : Nat} (X : CX p m c cc nL s args RX12 D ct) (hnam : meth.name = "<init>") (hw : WD D A H0 H locs ws) (q0 : Nat) {fs : List Value} {v : Value} (he : ws[q0]? = some (a, .inr (12, fs))) (hn : narrow (.array (.int)) v = v) (hfit : fits (.array (.int)) v = true) (hl : 25 < fs.length) (hdg : decode cc pc = .ok (.putfield 49, 3)) (w1 : va_W) (h1 : ws.set q0 (a, .inr (12, fs.set 25 v)) = w1) (kk : ∀ (H1 : Heap) (locs1 : List Loc), WD D A H0 H1 locs1 w1 → W p l e R s m args below meth c H1 locs1 cells slots Q (F0 m (pc + 3) ls rest)) : W p l e R s m args below meth c H locs cells slots Q (F0 m pc ls (v :: .ref a :: rest)) :=
  k_putF (k := 25) X inT12 tyX12_ok nmX12 wd_1467 rfl (by decide) rfl rfl rfl (by decide +kernel) hnam hw q0 he hn hfit hl hdg w1 h1 kk
theorem fg_1468 {a : Nat} (X : CX p m c cc nL s args RX12 D ct) (hw : WD D A H0 H locs ws) (q0 : Nat) {fs : List Value} {v : Value} (he : ws[q0]? = some (a, .inr (12, fs))) (hv : fs[26]? = some v) (hdg : decode cc pc = .ok (.getfield 52, 3)) (kk : W p l e R s m args below meth c H locs cells slots Q (F0 m (pc + 3) ls (v :: rest))) : W p l e R s m args below meth c H locs cells slots Q (F0 m pc ls (.ref a :: rest)) :=
  k_get (k := 26) X inT12 wd_1468 rfl (by decide) rfl hw q0 he hv hdg kk
theorem fp_1468 {a : Nat} (X : CX p m c cc nL s args RX12 D ct) (hnam : meth.name = "<init>") (hw : WD D A H0 H locs ws) (q0 : Nat) {fs : List Value} {v : Value} (he : ws[q0]? = some (a, .inr (12, fs))) (hn : narrow (.array (.int)) v = v) (hfit : fits (.array (.int)) v = true) (hl : 26 < fs.length) (hdg : decode cc pc = .ok (.putfield 52, 3)) (w1 : va_W) (h1 : ws.set q0 (a, .inr (12, fs.set 26 v)) = w1) (kk : ∀ (H1 : Heap) (locs1 : List Loc), WD D A H0 H1 locs1 w1 → W p l e R s m args below meth c H1 locs1 cells slots Q (F0 m (pc + 3) ls rest)) : W p l e R s m args below meth c H locs cells slots Q (F0 m pc ls (v :: .ref a :: rest)) :=
  k_putF (k := 26) X inT12 tyX12_ok nmX12 wd_1468 rfl (by decide) rfl rfl rfl (by decide +kernel) hnam hw q0 he hn hfit hl hdg w1 h1 kk
theorem fg_1469 {a : Nat} (X : CX p m c cc nL s args RX12 D ct) (hw : WD D A H0 H locs ws) (q0 : Nat) {fs : List Value} {v : Value} (he : ws[q0]? = some (a, .inr (12, fs))) (hv : fs[27]? = some v) (hdg : decode cc pc = .ok (.getfield 55, 3)) (kk : W p l e R s m args below meth c H locs cells slots Q (F0 m (pc + 3) ls (v :: rest))) : W p l e R s m args below meth c H locs cells slots Q (F0 m pc ls (.ref a :: rest)) :=
  k_get (k := 27) X inT12 wd_1469 rfl (by decide) rfl hw q0 he hv hdg kk
theorem fp_1469 {a : Nat} (X : CX p m c cc nL s args RX12 D ct) (hnam : meth.name = "<init>") (hw : WD D A H0 H locs ws) (q0 : Nat) {fs : List Value} {v : Value} (he : ws[q0]? = some (a, .inr (12, fs))) (hn : narrow (.array (.int)) v = v) (hfit : fits (.array (.int)) v = true) (hl : 27 < fs.length) (hdg : decode cc pc = .ok (.putfield 55, 3)) (w1 : va_W) (h1 : ws.set q0 (a, .inr (12, fs.set 27 v)) = w1) (kk : ∀ (H1 : Heap) (locs1 : List Loc), WD D A H0 H1 locs1 w1 → W p l e R s m args below meth c H1 locs1 cells slots Q (F0 m (pc + 3) ls rest)) : W p l e R s m args below meth c H locs cells slots Q (F0 m pc ls (v :: .ref a :: rest)) :=
  k_putF (k := 27) X inT12 tyX12_ok nmX12 wd_1469 rfl (by decide) rfl rfl rfl (by decide +kernel) hnam hw q0 he hn hfit hl hdg w1 h1 kk
theorem fg_1470 {a : Nat} (X : CX p m c cc nL s args RX12 D ct) (hw : WD D A H0 H locs ws) (q0 : Nat) {fs : List Value} {v : Value} (he : ws[q0]? = some (a, .inr (12, fs))) (hv : fs[28]? = some v) (hdg : decode cc pc = .ok (.getfield 58, 3)) (kk : W p l e R s m args below meth c H locs cells slots Q (F0 m (pc + 3) ls (v :: rest))) : W p l e R s m args below meth c H locs cells slots Q (F0 m pc ls (.ref a :: rest)) :=
  k_get (k := 28) X inT12 wd_1470 rfl (by decide) rfl hw q0 he hv hdg kk
theorem fp_1470 {a : Nat} (X : CX p m c cc nL s args RX12 D ct) (hnam : meth.name = "<init>") (hw : WD D A H0 H locs ws) (q0 : Nat) {fs : List Value} {v : Value} (he : ws[q0]? = some (a, .inr (12, fs))) (hn : narrow (.array (.int)) v = v) (hfit : fits (.array (.int)) v = true) (hl : 28 < fs.length) (hdg : decode cc pc = .ok (.putfield 58, 3)) (w1 : va_W) (h1 : ws.set q0 (a, .inr (12, fs.set 28 v)) = w1) (kk : ∀ (H1 : Heap) (locs1 : List Loc), WD D A H0 H1 locs1 w1 → W p l e R s m args below meth c H1 locs1 cells slots Q (F0 m (pc + 3) ls rest)) : W p l e R s m args below meth c H locs cells slots Q (F0 m pc ls (v :: .ref a :: rest)) :=
  k_putF (k := 28) X inT12 tyX12_ok nmX12 wd_1470 rfl (by decide) rfl rfl rfl (by decide +kernel) hnam hw q0 he hn hfit hl hdg w1 h1 kk
theorem fg_1471 {a : Nat} (X : CX p m c cc nL s args RX12 D ct) (hw : WD D A H0 H locs ws) (q0 : Nat) {fs : List Value} {v : Value} (he : ws[q0]? = some (a, .inr (12, fs))) (hv : fs[29]? = some v) (hdg : decode cc pc = .ok (.getfield 61, 3)) (kk : W p l e R s m args below meth c H locs cells slots Q (F0 m (pc + 3) ls (v :: rest))) : W p l e R s m args below meth c H locs cells slots Q (F0 m pc ls (.ref a :: rest)) :=
  k_get (k := 29) X inT12 wd_1471 rfl (by decide) rfl hw q0 he hv hdg kk
theorem fp_1471 {a : Nat} (X : CX p m c cc nL s args RX12 D ct) (hnam : meth.name = "<init>") (hw : WD D A H0 H locs ws) (q0 : Nat) {fs : List Value} {v : Value} (he : ws[q0]? = some (a, .inr (12, fs))) (hn : narrow (.array (.int)) v = v) (hfit : fits (.array (.int)) v = true) (hl : 29 < fs.length) (hdg : decode cc pc = .ok (.putfield 61, 3)) (w1 : va_W) (h1 : ws.set q0 (a, .inr (12, fs.set 29 v)) = w1) (kk : ∀ (H1 : Heap) (locs1 : List Loc), WD D A H0 H1 locs1 w1 → W p l e R s m args below meth c H1 locs1 cells slots Q (F0 m (pc + 3) ls rest)) : W p l e R s m args below meth c H locs cells slots Q (F0 m pc ls (v :: .ref a :: rest)) :=
  k_putF (k := 29) X inT12 tyX12_ok nmX12 wd_1471 rfl (by decide) rfl rfl rfl (by decide +kernel) hnam hw q0 he hn hfit hl hdg w1 h1 kk
theorem fg_1472 {a : Nat} (X : CX p m c cc nL s args RX12 D ct) (hw : WD D A H0 H locs ws) (q0 : Nat) {fs : List Value} {v : Value} (he : ws[q0]? = some (a, .inr (12, fs))) (hv : fs[30]? = some v) (hdg : decode cc pc = .ok (.getfield 64, 3)) (kk : W p l e R s m args below meth c H locs cells slots Q (F0 m (pc + 3) ls (v :: rest))) : W p l e R s m args below meth c H locs cells slots Q (F0 m pc ls (.ref a :: rest)) :=
  k_get (k := 30) X inT12 wd_1472 rfl (by decide) rfl hw q0 he hv hdg kk
theorem fp_1472 {a : Nat} (X : CX p m c cc nL s args RX12 D ct) (hnam : meth.name = "<init>") (hw : WD D A H0 H locs ws) (q0 : Nat) {fs : List Value} {v : Value} (he : ws[q0]? = some (a, .inr (12, fs))) (hn : narrow (.array (.long)) v = v) (hfit : fits (.array (.long)) v = true) (hl : 30 < fs.length) (hdg : decode cc pc = .ok (.putfield 64, 3)) (w1 : va_W) (h1 : ws.set q0 (a, .inr (12, fs.set 30 v)) = w1) (kk : ∀ (H1 : Heap) (locs1 : List Loc), WD D A H0 H1 locs1 w1 → W p l e R s m args below meth c H1 locs1 cells slots Q (F0 m (pc + 3) ls rest)) : W p l e R s m args below meth c H locs cells slots Q (F0 m pc ls (v :: .ref a :: rest)) :=
  k_putF (k := 30) X inT12 tyX12_ok nmX12 wd_1472 rfl (by decide) rfl rfl rfl (by decide +kernel) hnam hw q0 he hn hfit hl hdg w1 h1 kk
end KR
theorem kd_yX11_init : yX11_init.cls ≠ "java/lang/invoke/MethodHandle" ∧ yX11_init.cls ≠ "java/lang/invoke/VarHandle" ∧ (parseMethodDescriptor yX11_init.desc).map (fun d => d.parameters.length) = some 0 := by decide +kernel
theorem kd_yX4_init : yX4_init.cls ≠ "java/lang/invoke/MethodHandle" ∧ yX4_init.cls ≠ "java/lang/invoke/VarHandle" ∧ (parseMethodDescriptor yX4_init.desc).map (fun d => d.parameters.length) = some 0 := by decide +kernel
theorem kw_171 : GoodIn tb (va_wsS RX4 25 yJ7_fill_53178 (Cond.code yJ7_fill_53178 cJ7_fill_53178 4 none :: tb)) := gd_S wd_171 wd_172 wd_132 wd_173
theorem kd_yJ7_fill_53178 : yJ7_fill_53178.cls ≠ "java/lang/invoke/MethodHandle" ∧ yJ7_fill_53178.cls ≠ "java/lang/invoke/VarHandle" ∧ (parseMethodDescriptor yJ7_fill_53178.desc).map (fun d => d.parameters.length) = some 2 := by decide +kernel
theorem kd_yX9_init : yX9_init.cls ≠ "java/lang/invoke/MethodHandle" ∧ yX9_init.cls ≠ "java/lang/invoke/VarHandle" ∧ (parseMethodDescriptor yX9_init.desc).map (fun d => d.parameters.length) = some 1 := by decide +kernel
theorem kd_yX8_init : yX8_init.cls ≠ "java/lang/invoke/MethodHandle" ∧ yX8_init.cls ≠ "java/lang/invoke/VarHandle" ∧ (parseMethodDescriptor yX8_init.desc).map (fun d => d.parameters.length) = some 2 := by decide +kernel
theorem kd_yX6_init : yX6_init.cls ≠ "java/lang/invoke/MethodHandle" ∧ yX6_init.cls ≠ "java/lang/invoke/VarHandle" ∧ (parseMethodDescriptor yX6_init.desc).map (fun d => d.parameters.length) = some 1 := by decide +kernel
theorem kd_yX3_init : yX3_init.cls ≠ "java/lang/invoke/MethodHandle" ∧ yX3_init.cls ≠ "java/lang/invoke/VarHandle" ∧ (parseMethodDescriptor yX3_init.desc).map (fun d => d.parameters.length) = some 1 := by decide +kernel
theorem kd_yX0_init : yX0_init.cls ≠ "java/lang/invoke/MethodHandle" ∧ yX0_init.cls ≠ "java/lang/invoke/VarHandle" ∧ (parseMethodDescriptor yX0_init.desc).map (fun d => d.parameters.length) = some 4 := by decide +kernel
theorem kd_yX1_init : yX1_init.cls ≠ "java/lang/invoke/MethodHandle" ∧ yX1_init.cls ≠ "java/lang/invoke/VarHandle" ∧ (parseMethodDescriptor yX1_init.desc).map (fun d => d.parameters.length) = some 0 := by decide +kernel
theorem kw_620 : GoodIn tb (wsV RL 13 RX11 yX11_feed (Cond.code yX11_feed cX11_feed 6 (some .int) :: tb)) := gd_V wd_620 wd_621 wd_622 wd_129 wd_623
theorem kd_yX11_feed : yX11_feed.cls = RX11 ∧ yX11_feed.cls ≠ "java/lang/invoke/MethodHandle" ∧ yX11_feed.cls ≠ "java/lang/invoke/VarHandle" ∧ (parseMethodDescriptor yX11_feed.desc).map (fun d => d.parameters.length) = some 5 := by decide +kernel
theorem kw_624 : GoodIn tb (wsV RX11 117 RX11 yX11_feedInt (Cond.code yX11_feedInt cX11_feedInt 3 none :: tb)) := gd_V wd_624 wd_626 wd_0 wd_129 wd_627
theorem kd_yX11_feedInt : yX11_feedInt.cls = RX11 ∧ yX11_feedInt.cls ≠ "java/lang/invoke/MethodHandle" ∧ yX11_feedInt.cls ≠ "java/lang/invoke/VarHandle" ∧ (parseMethodDescriptor yX11_feedInt.desc).map (fun d => d.parameters.length) = some 1 := by decide +kernel
theorem kw_628 : GoodIn tb (wsV RL 18 RX11 yX11_tower (Cond.code yX11_tower cX11_tower 2 (some .int) :: tb)) := gd_V wd_628 wd_629 wd_630 wd_129 wd_631
theorem kd_yX11_tower : yX11_tower.cls = RX11 ∧ yX11_tower.cls ≠ "java/lang/invoke/MethodHandle" ∧ yX11_tower.cls ≠ "java/lang/invoke/VarHandle" ∧ (parseMethodDescriptor yX11_tower.desc).map (fun d => d.parameters.length) = some 1 := by decide +kernel
theorem kw_632 : GoodIn tb (wsV RX11 121 RX7 yX7_readAll (Cond.code yX7_readAll cX7_readAll 5 (some .boolean) :: tb)) := gd_V wd_632 wd_633 wd_634 wd_133 wd_635
theorem kd_yX7_readAll : yX7_readAll.cls = RX7 ∧ yX7_readAll.cls ≠ "java/lang/invoke/MethodHandle" ∧ yX7_readAll.cls ≠ "java/lang/invoke/VarHandle" ∧ (parseMethodDescriptor yX7_readAll.desc).map (fun d => d.parameters.length) = some 2 := by decide +kernel
theorem kw_639 : GoodIn tb (wsV RX7 50 RX2 yX2_clear (Cond.code yX2_clear cX2_clear 1 none :: tb)) := gd_V wd_639 wd_640 wd_641 wd_130 wd_642
theorem kd_yX2_clear : yX2_clear.cls = RX2 ∧ yX2_clear.cls ≠ "java/lang/invoke/MethodHandle" ∧ yX2_clear.cls ≠ "java/lang/invoke/VarHandle" ∧ (parseMethodDescriptor yX2_clear.desc).map (fun d => d.parameters.length) = some 0 := by decide +kernel
theorem kw_643 : GoodIn tb (va_wsS RX2 56 yJ7_fill_53178 (Cond.code yJ7_fill_53178 cJ7_fill_53178 4 none :: tb)) := gd_S wd_643 wd_172 wd_132 wd_173
theorem kw_644 : GoodIn tb (wsV RX2 62 RX4 yX4_clear (Cond.code yX4_clear cX4_clear 1 none :: tb)) := gd_V wd_644 wd_645 wd_646 wd_131 wd_647
theorem kd_yX4_clear : yX4_clear.cls = RX4 ∧ yX4_clear.cls ≠ "java/lang/invoke/MethodHandle" ∧ yX4_clear.cls ≠ "java/lang/invoke/VarHandle" ∧ (parseMethodDescriptor yX4_clear.desc).map (fun d => d.parameters.length) = some 0 := by decide +kernel
theorem kw_648 : GoodIn tb (wsV RX7 53 RX7 yX7_next (Cond.code yX7_next cX7_next 1 none :: tb)) := gd_V wd_648 wd_650 wd_1 wd_133 wd_651
theorem kd_yX7_next : yX7_next.cls = RX7 ∧ yX7_next.cls ≠ "java/lang/invoke/MethodHandle" ∧ yX7_next.cls ≠ "java/lang/invoke/VarHandle" ∧ (parseMethodDescriptor yX7_next.desc).map (fun d => d.parameters.length) = some 0 := by decide +kernel
theorem kw_652 : GoodIn tb (va_wsS RX7 173 yX7_isLetter (Cond.code yX7_isLetter cX7_isLetter 1 (some .boolean) :: tb)) := gd_S wd_652 wd_653 wd_133 wd_654
theorem kd_yX7_isLetter : yX7_isLetter.cls ≠ "java/lang/invoke/MethodHandle" ∧ yX7_isLetter.cls ≠ "java/lang/invoke/VarHandle" ∧ (parseMethodDescriptor yX7_isLetter.desc).map (fun d => d.parameters.length) = some 1 := by decide +kernel
theorem kw_655 : GoodIn tb (wsV RX7 176 RX7 yX7_wordToken (Cond.code yX7_wordToken cX7_wordToken 8 (some .int) :: tb)) := gd_V wd_655 wd_657 wd_2 wd_133 wd_658
theorem kd_yX7_wordToken : yX7_wordToken.cls = RX7 ∧ yX7_wordToken.cls ≠ "java/lang/invoke/MethodHandle" ∧ yX7_wordToken.cls ≠ "java/lang/invoke/VarHandle" ∧ (parseMethodDescriptor yX7_wordToken.desc).map (fun d => d.parameters.length) = some 2 := by decide +kernel
theorem kw_708 : GoodIn tb (va_wsS RX7 179 yX7_isDigit (Cond.code yX7_isDigit cX7_isDigit 1 (some .boolean) :: tb)) := gd_S wd_708 wd_709 wd_133 wd_710
theorem kd_yX7_isDigit : yX7_isDigit.cls ≠ "java/lang/invoke/MethodHandle" ∧ yX7_isDigit.cls ≠ "java/lang/invoke/VarHandle" ∧ (parseMethodDescriptor yX7_isDigit.desc).map (fun d => d.parameters.length) = some 1 := by decide +kernel
theorem kw_769 : GoodIn tb (wsV RX7 56 RX7 yX7_readFlat (Cond.code yX7_readFlat cX7_readFlat 4 (some .boolean) :: tb)) := gd_V wd_769 wd_771 wd_3 wd_133 wd_772
theorem kd_yX7_readFlat : yX7_readFlat.cls = RX7 ∧ yX7_readFlat.cls ≠ "java/lang/invoke/MethodHandle" ∧ yX7_readFlat.cls ≠ "java/lang/invoke/VarHandle" ∧ (parseMethodDescriptor yX7_readFlat.desc).map (fun d => d.parameters.length) = some 0 := by decide +kernel
theorem kw_773 : GoodIn tb (wsV RX7 88 RX7 yX7_refuse (Cond.code yX7_refuse cX7_refuse 2 (some .boolean) :: tb)) := gd_V wd_773 wd_775 wd_4 wd_133 wd_776
theorem kd_yX7_refuse : yX7_refuse.cls = RX7 ∧ yX7_refuse.cls ≠ "java/lang/invoke/MethodHandle" ∧ yX7_refuse.cls ≠ "java/lang/invoke/VarHandle" ∧ (parseMethodDescriptor yX7_refuse.desc).map (fun d => d.parameters.length) = some 1 := by decide +kernel
theorem kw_777 : GoodIn tb (wsV RX7 91 RX7 yX7_isNumber (Cond.code yX7_isNumber cX7_isNumber 3 (some .boolean) :: tb)) := gd_V wd_777 wd_779 wd_5 wd_133 wd_780
theorem kd_yX7_isNumber : yX7_isNumber.cls = RX7 ∧ yX7_isNumber.cls ≠ "java/lang/invoke/MethodHandle" ∧ yX7_isNumber.cls ≠ "java/lang/invoke/VarHandle" ∧ (parseMethodDescriptor yX7_isNumber.desc).map (fun d => d.parameters.length) = some 2 := by decide +kernel
theorem kw_781 : GoodIn tb (wsV RX7 75 RX7 yX7_cannotStand (Cond.code yX7_cannotStand cX7_cannotStand 1 (some .boolean) :: tb)) := gd_V wd_781 wd_783 wd_6 wd_133 wd_784
theorem kd_yX7_cannotStand : yX7_cannotStand.cls = RX7 ∧ yX7_cannotStand.cls ≠ "java/lang/invoke/MethodHandle" ∧ yX7_cannotStand.cls ≠ "java/lang/invoke/VarHandle" ∧ (parseMethodDescriptor yX7_cannotStand.desc).map (fun d => d.parameters.length) = some 0 := by decide +kernel
theorem kw_785 : GoodIn tb (wsV RX7 95 RX7 yX7_takeValue (Cond.code yX7_takeValue cX7_takeValue 2 (some .int) :: tb)) := gd_V wd_785 wd_787 wd_7 wd_133 wd_788
theorem kd_yX7_takeValue : yX7_takeValue.cls = RX7 ∧ yX7_takeValue.cls ≠ "java/lang/invoke/MethodHandle" ∧ yX7_takeValue.cls ≠ "java/lang/invoke/VarHandle" ∧ (parseMethodDescriptor yX7_takeValue.desc).map (fun d => d.parameters.length) = some 0 := by decide +kernel
theorem kw_789 : GoodIn tb (wsV RX7 99 RX2 yX2_flatAt (Cond.code yX2_flatAt cX2_flatAt 4 (some .int) :: tb)) := gd_V wd_789 wd_790 wd_791 wd_130 wd_792
theorem kd_yX2_flatAt : yX2_flatAt.cls = RX2 ∧ yX2_flatAt.cls ≠ "java/lang/invoke/MethodHandle" ∧ yX2_flatAt.cls ≠ "java/lang/invoke/VarHandle" ∧ (parseMethodDescriptor yX2_flatAt.desc).map (fun d => d.parameters.length) = some 2 := by decide +kernel
theorem kw_793 : GoodIn tb (wsV RX2 81 RX2 yX2_feature (Cond.code yX2_feature cX2_feature 3 (some .int) :: tb)) := gd_V wd_793 wd_794 wd_795 wd_130 wd_796
theorem kd_yX2_feature : yX2_feature.cls = RX2 ∧ yX2_feature.cls ≠ "java/lang/invoke/MethodHandle" ∧ yX2_feature.cls ≠ "java/lang/invoke/VarHandle" ∧ (parseMethodDescriptor yX2_feature.desc).map (fun d => d.parameters.length) = some 2 := by decide +kernel
theorem kw_797 : GoodIn tb (wsV RX7 78 RX7 yX7_take (Cond.code yX7_take cX7_take 2 (some .boolean) :: tb)) := gd_V wd_797 wd_799 wd_8 wd_133 wd_800
theorem kd_yX7_take : yX7_take.cls = RX7 ∧ yX7_take.cls ≠ "java/lang/invoke/MethodHandle" ∧ yX7_take.cls ≠ "java/lang/invoke/VarHandle" ∧ (parseMethodDescriptor yX7_take.desc).map (fun d => d.parameters.length) = some 1 := by decide +kernel
theorem kw_801 : GoodIn tb (wsV RX7 106 RX7 yX7_readFlatFlags (Cond.code yX7_readFlatFlags cX7_readFlatFlags 4 (some .boolean) :: tb)) := gd_V wd_801 wd_803 wd_9 wd_133 wd_804
theorem kd_yX7_readFlatFlags : yX7_readFlatFlags.cls = RX7 ∧ yX7_readFlatFlags.cls ≠ "java/lang/invoke/MethodHandle" ∧ yX7_readFlatFlags.cls ≠ "java/lang/invoke/VarHandle" ∧ (parseMethodDescriptor yX7_readFlatFlags.desc).map (fun d => d.parameters.length) = some 1 := by decide +kernel
theorem kw_805 : GoodIn tb (wsV RX7 60 RX7 yX7_readHousehold (Cond.code yX7_readHousehold cX7_readHousehold 4 (some .boolean) :: tb)) := gd_V wd_805 wd_807 wd_10 wd_133 wd_808
theorem kd_yX7_readHousehold : yX7_readHousehold.cls = RX7 ∧ yX7_readHousehold.cls ≠ "java/lang/invoke/MethodHandle" ∧ yX7_readHousehold.cls ≠ "java/lang/invoke/VarHandle" ∧ (parseMethodDescriptor yX7_readHousehold.desc).map (fun d => d.parameters.length) = some 0 := by decide +kernel
theorem kw_809 : GoodIn tb (wsV RX7 63 RX7 yX7_readLives (Cond.code yX7_readLives cX7_readLives 2 (some .boolean) :: tb)) := gd_V wd_809 wd_811 wd_11 wd_133 wd_812
theorem kd_yX7_readLives : yX7_readLives.cls = RX7 ∧ yX7_readLives.cls ≠ "java/lang/invoke/MethodHandle" ∧ yX7_readLives.cls ≠ "java/lang/invoke/VarHandle" ∧ (parseMethodDescriptor yX7_readLives.desc).map (fun d => d.parameters.length) = some 0 := by decide +kernel
theorem kw_813 : GoodIn tb (wsV RX7 127 RX2 yX2_dwellerOf (Cond.code yX2_dwellerOf cX2_dwellerOf 3 (some .int) :: tb)) := gd_V wd_813 wd_814 wd_815 wd_130 wd_816
theorem kd_yX2_dwellerOf : yX2_dwellerOf.cls = RX2 ∧ yX2_dwellerOf.cls ≠ "java/lang/invoke/MethodHandle" ∧ yX2_dwellerOf.cls ≠ "java/lang/invoke/VarHandle" ∧ (parseMethodDescriptor yX2_dwellerOf.desc).map (fun d => d.parameters.length) = some 1 := by decide +kernel
theorem kw_817 : GoodIn tb (wsV RX7 66 RX7 yX7_readMay (Cond.code yX7_readMay cX7_readMay 2 (some .boolean) :: tb)) := gd_V wd_817 wd_819 wd_12 wd_133 wd_820
theorem kd_yX7_readMay : yX7_readMay.cls = RX7 ∧ yX7_readMay.cls ≠ "java/lang/invoke/MethodHandle" ∧ yX7_readMay.cls ≠ "java/lang/invoke/VarHandle" ∧ (parseMethodDescriptor yX7_readMay.desc).map (fun d => d.parameters.length) = some 0 := by decide +kernel
theorem kw_821 : GoodIn tb (wsV RX7 134 RX7 yX7_readTruth (Cond.code yX7_readTruth cX7_readTruth 4 (some .boolean) :: tb)) := gd_V wd_821 wd_823 wd_13 wd_133 wd_824
theorem kd_yX7_readTruth : yX7_readTruth.cls = RX7 ∧ yX7_readTruth.cls ≠ "java/lang/invoke/MethodHandle" ∧ yX7_readTruth.cls ≠ "java/lang/invoke/VarHandle" ∧ (parseMethodDescriptor yX7_readTruth.desc).map (fun d => d.parameters.length) = some 1 := by decide +kernel
theorem kw_825 : GoodIn tb (wsV RX7 155 RX7 yX7_readBoth (Cond.code yX7_readBoth cX7_readBoth 4 (some .boolean) :: tb)) := gd_V wd_825 wd_827 wd_14 wd_133 wd_828
theorem kd_yX7_readBoth : yX7_readBoth.cls = RX7 ∧ yX7_readBoth.cls ≠ "java/lang/invoke/MethodHandle" ∧ yX7_readBoth.cls ≠ "java/lang/invoke/VarHandle" ∧ (parseMethodDescriptor yX7_readBoth.desc).map (fun d => d.parameters.length) = some 1 := by decide +kernel
theorem kw_829 : GoodIn tb (wsV RX7 161 RX7 yX7_readUnit (Cond.code yX7_readUnit cX7_readUnit 3 (some .boolean) :: tb)) := gd_V wd_829 wd_831 wd_15 wd_133 wd_832
theorem kd_yX7_readUnit : yX7_readUnit.cls = RX7 ∧ yX7_readUnit.cls ≠ "java/lang/invoke/MethodHandle" ∧ yX7_readUnit.cls ≠ "java/lang/invoke/VarHandle" ∧ (parseMethodDescriptor yX7_readUnit.desc).map (fun d => d.parameters.length) = some 1 := by decide +kernel
theorem kw_833 : GoodIn tb (wsV RX7 158 RX7 yX7_emit (Cond.code yX7_emit cX7_emit 2 (some .boolean) :: tb)) := gd_V wd_833 wd_835 wd_16 wd_133 wd_836
theorem kd_yX7_emit : yX7_emit.cls = RX7 ∧ yX7_emit.cls ≠ "java/lang/invoke/MethodHandle" ∧ yX7_emit.cls ≠ "java/lang/invoke/VarHandle" ∧ (parseMethodDescriptor yX7_emit.desc).map (fun d => d.parameters.length) = some 1 := by decide +kernel
theorem kw_837 : GoodIn tb (wsV RX7 143 RX7 yX7_readSum (Cond.code yX7_readSum cX7_readSum 5 (some .boolean) :: tb)) := gd_V wd_837 wd_839 wd_17 wd_133 wd_840
theorem kd_yX7_readSum : yX7_readSum.cls = RX7 ∧ yX7_readSum.cls ≠ "java/lang/invoke/MethodHandle" ∧ yX7_readSum.cls ≠ "java/lang/invoke/VarHandle" ∧ (parseMethodDescriptor yX7_readSum.desc).map (fun d => d.parameters.length) = some 1 := by decide +kernel
theorem kw_841 : GoodIn tb (wsV RX7 164 RX7 yX7_readTerm (Cond.code yX7_readTerm cX7_readTerm 4 (some .boolean) :: tb)) := gd_V wd_841 wd_843 wd_18 wd_133 wd_844
theorem kd_yX7_readTerm : yX7_readTerm.cls = RX7 ∧ yX7_readTerm.cls ≠ "java/lang/invoke/MethodHandle" ∧ yX7_readTerm.cls ≠ "java/lang/invoke/VarHandle" ∧ (parseMethodDescriptor yX7_readTerm.desc).map (fun d => d.parameters.length) = some 1 := by decide +kernel
theorem kw_845 : GoodIn tb (wsV RX7 167 RX7 yX7_readAtom (Cond.code yX7_readAtom cX7_readAtom 3 (some .boolean) :: tb)) := gd_V wd_845 wd_847 wd_19 wd_133 wd_848
theorem kd_yX7_readAtom : yX7_readAtom.cls = RX7 ∧ yX7_readAtom.cls ≠ "java/lang/invoke/MethodHandle" ∧ yX7_readAtom.cls ≠ "java/lang/invoke/VarHandle" ∧ (parseMethodDescriptor yX7_readAtom.desc).map (fun d => d.parameters.length) = some 1 := by decide +kernel
theorem kw_849 : GoodIn tb (wsV RX7 69 RX7 yX7_readWorth (Cond.code yX7_readWorth cX7_readWorth 2 (some .boolean) :: tb)) := gd_V wd_849 wd_851 wd_20 wd_133 wd_852
theorem kd_yX7_readWorth : yX7_readWorth.cls = RX7 ∧ yX7_readWorth.cls ≠ "java/lang/invoke/MethodHandle" ∧ yX7_readWorth.cls ≠ "java/lang/invoke/VarHandle" ∧ (parseMethodDescriptor yX7_readWorth.desc).map (fun d => d.parameters.length) = some 0 := by decide +kernel
theorem kw_853 : GoodIn tb (wsV RX7 72 RX7 yX7_readQuarter (Cond.code yX7_readQuarter cX7_readQuarter 1 (some .boolean) :: tb)) := gd_V wd_853 wd_855 wd_21 wd_133 wd_856
theorem kd_yX7_readQuarter : yX7_readQuarter.cls = RX7 ∧ yX7_readQuarter.cls ≠ "java/lang/invoke/MethodHandle" ∧ yX7_readQuarter.cls ≠ "java/lang/invoke/VarHandle" ∧ (parseMethodDescriptor yX7_readQuarter.desc).map (fun d => d.parameters.length) = some 0 := by decide +kernel
theorem kw_857 : GoodIn tb (wsV RX11 131 RX2 yX2_copyFrom (Cond.code yX2_copyFrom cX2_copyFrom 2 none :: tb)) := gd_V wd_857 wd_858 wd_859 wd_130 wd_860
theorem kd_yX2_copyFrom : yX2_copyFrom.cls = RX2 ∧ yX2_copyFrom.cls ≠ "java/lang/invoke/MethodHandle" ∧ yX2_copyFrom.cls ≠ "java/lang/invoke/VarHandle" ∧ (parseMethodDescriptor yX2_copyFrom.desc).map (fun d => d.parameters.length) = some 1 := by decide +kernel
theorem kw_864 : GoodIn tb (wsV RX2 71 RX4 yX4_copyFrom (Cond.code yX4_copyFrom cX4_copyFrom 2 none :: tb)) := gd_V wd_864 wd_865 wd_866 wd_131 wd_867
theorem kd_yX4_copyFrom : yX4_copyFrom.cls = RX4 ∧ yX4_copyFrom.cls ≠ "java/lang/invoke/MethodHandle" ∧ yX4_copyFrom.cls ≠ "java/lang/invoke/VarHandle" ∧ (parseMethodDescriptor yX4_copyFrom.desc).map (fun d => d.parameters.length) = some 1 := by decide +kernel
theorem kw_869 : GoodIn tb (wsV RX11 134 RX1 yX1_forget (Cond.code yX1_forget cX1_forget 1 none :: tb)) := gd_V wd_869 wd_870 wd_871 wd_140 wd_872
theorem kd_yX1_forget : yX1_forget.cls = RX1 ∧ yX1_forget.cls ≠ "java/lang/invoke/MethodHandle" ∧ yX1_forget.cls ≠ "java/lang/invoke/VarHandle" ∧ (parseMethodDescriptor yX1_forget.desc).map (fun d => d.parameters.length) = some 0 := by decide +kernel
theorem kw_873 : GoodIn tb (wsV RL 23 RX11 yX11_fault (Cond.code yX11_fault cX11_fault 2 (some .int) :: tb)) := gd_V wd_873 wd_874 wd_875 wd_129 wd_876
theorem kd_yX11_fault : yX11_fault.cls = RX11 ∧ yX11_fault.cls ≠ "java/lang/invoke/MethodHandle" ∧ yX11_fault.cls ≠ "java/lang/invoke/VarHandle" ∧ (parseMethodDescriptor yX11_fault.desc).map (fun d => d.parameters.length) = some 1 := by decide +kernel
theorem kw_877 : GoodIn tb (wsV RL 27 RX11 yX11_flat (Cond.code yX11_flat cX11_flat 3 (some .int) :: tb)) := gd_V wd_877 wd_878 wd_879 wd_129 wd_880
theorem kd_yX11_flat : yX11_flat.cls = RX11 ∧ yX11_flat.cls ≠ "java/lang/invoke/MethodHandle" ∧ yX11_flat.cls ≠ "java/lang/invoke/VarHandle" ∧ (parseMethodDescriptor yX11_flat.desc).map (fun d => d.parameters.length) = some 2 := by decide +kernel
theorem kw_881 : GoodIn tb (wsV RX11 143 RX11 yX11_isFlat (Cond.code yX11_isFlat cX11_isFlat 2 (some .boolean) :: tb)) := gd_V wd_881 wd_883 wd_22 wd_129 wd_884
theorem kd_yX11_isFlat : yX11_isFlat.cls = RX11 ∧ yX11_isFlat.cls ≠ "java/lang/invoke/MethodHandle" ∧ yX11_isFlat.cls ≠ "java/lang/invoke/VarHandle" ∧ (parseMethodDescriptor yX11_isFlat.desc).map (fun d => d.parameters.length) = some 1 := by decide +kernel
theorem kw_885 : GoodIn tb (wsV RX11 147 RX2 yX2_feature (Cond.code yX2_feature cX2_feature 3 (some .int) :: tb)) := gd_V wd_885 wd_794 wd_795 wd_130 wd_796
theorem kw_886 : GoodIn tb (wsV RX11 157 RX2 yX2_dwellerOf (Cond.code yX2_dwellerOf cX2_dwellerOf 3 (some .int) :: tb)) := gd_V wd_886 wd_814 wd_815 wd_130 wd_816
theorem kw_887 : GoodIn tb (wsV RL 32 RX11 yX11_household (Cond.code yX11_household cX11_household 3 (some .int) :: tb)) := gd_V wd_887 wd_888 wd_889 wd_129 wd_890
theorem kd_yX11_household : yX11_household.cls = RX11 ∧ yX11_household.cls ≠ "java/lang/invoke/MethodHandle" ∧ yX11_household.cls ≠ "java/lang/invoke/VarHandle" ∧ (parseMethodDescriptor yX11_household.desc).map (fun d => d.parameters.length) = some 2 := by decide +kernel
theorem kw_891 : GoodIn tb (wsV RX11 161 RX11 yX11_isHousehold (Cond.code yX11_isHousehold cX11_isHousehold 2 (some .boolean) :: tb)) := gd_V wd_891 wd_893 wd_23 wd_129 wd_894
theorem kd_yX11_isHousehold : yX11_isHousehold.cls = RX11 ∧ yX11_isHousehold.cls ≠ "java/lang/invoke/MethodHandle" ∧ yX11_isHousehold.cls ≠ "java/lang/invoke/VarHandle" ∧ (parseMethodDescriptor yX11_isHousehold.desc).map (fun d => d.parameters.length) = some 1 := by decide +kernel
theorem kw_895 : GoodIn tb (wsV RX11 164 RX2 yX2_trait (Cond.code yX2_trait cX2_trait 3 (some .int) :: tb)) := gd_V wd_895 wd_896 wd_897 wd_130 wd_898
theorem kd_yX2_trait : yX2_trait.cls = RX2 ∧ yX2_trait.cls ≠ "java/lang/invoke/MethodHandle" ∧ yX2_trait.cls ≠ "java/lang/invoke/VarHandle" ∧ (parseMethodDescriptor yX2_trait.desc).map (fun d => d.parameters.length) = some 2 := by decide +kernel
theorem kw_899 : GoodIn tb (wsV RL 36 RX11 yX11_times (Cond.code yX11_times cX11_times 3 (some .int) :: tb)) := gd_V wd_899 wd_900 wd_901 wd_129 wd_902
theorem kd_yX11_times : yX11_times.cls = RX11 ∧ yX11_times.cls ≠ "java/lang/invoke/MethodHandle" ∧ yX11_times.cls ≠ "java/lang/invoke/VarHandle" ∧ (parseMethodDescriptor yX11_times.desc).map (fun d => d.parameters.length) = some 2 := by decide +kernel
theorem kw_903 : GoodIn tb (wsV RX11 170 RX11 yX11_isPair (Cond.code yX11_isPair cX11_isPair 3 (some .boolean) :: tb)) := gd_V wd_903 wd_905 wd_24 wd_129 wd_906
theorem kd_yX11_isPair : yX11_isPair.cls = RX11 ∧ yX11_isPair.cls ≠ "java/lang/invoke/MethodHandle" ∧ yX11_isPair.cls ≠ "java/lang/invoke/VarHandle" ∧ (parseMethodDescriptor yX11_isPair.desc).map (fun d => d.parameters.length) = some 2 := by decide +kernel
theorem kw_907 : GoodIn tb (wsV RL 40 RX11 yX11_may (Cond.code yX11_may cX11_may 3 (some .int) :: tb)) := gd_V wd_907 wd_908 wd_909 wd_129 wd_910
theorem kd_yX11_may : yX11_may.cls = RX11 ∧ yX11_may.cls ≠ "java/lang/invoke/MethodHandle" ∧ yX11_may.cls ≠ "java/lang/invoke/VarHandle" ∧ (parseMethodDescriptor yX11_may.desc).map (fun d => d.parameters.length) = some 2 := by decide +kernel
theorem kw_911 : GoodIn tb (wsV RX11 177 RX9 yX9_refresh (Cond.code yX9_refresh cX9_refresh 4 none :: tb)) := gd_V wd_911 wd_912 wd_913 wd_134 wd_914
theorem kd_yX9_refresh : yX9_refresh.cls = RX9 ∧ yX9_refresh.cls ≠ "java/lang/invoke/MethodHandle" ∧ yX9_refresh.cls ≠ "java/lang/invoke/VarHandle" ∧ (parseMethodDescriptor yX9_refresh.desc).map (fun d => d.parameters.length) = some 0 := by decide +kernel
theorem kw_915 : GoodIn tb (wsV RX9 45 RX9 yX9_learn (Cond.code yX9_learn cX9_learn 4 none :: tb)) := gd_V wd_915 wd_917 wd_25 wd_134 wd_918
theorem kd_yX9_learn : yX9_learn.cls = RX9 ∧ yX9_learn.cls ≠ "java/lang/invoke/MethodHandle" ∧ yX9_learn.cls ≠ "java/lang/invoke/VarHandle" ∧ (parseMethodDescriptor yX9_learn.desc).map (fun d => d.parameters.length) = some 2 := by decide +kernel
theorem kw_919 : GoodIn tb (wsV RX9 78 RX2 yX2_feature (Cond.code yX2_feature cX2_feature 3 (some .int) :: tb)) := gd_V wd_919 wd_794 wd_795 wd_130 wd_796
theorem kw_920 : GoodIn tb (wsV RX9 84 RX2 yX2_trait (Cond.code yX2_trait cX2_trait 3 (some .int) :: tb)) := gd_V wd_920 wd_896 wd_897 wd_130 wd_898
theorem kw_921 : GoodIn tb (wsV RX9 55 RX9 yX9_run (Cond.code yX9_run cX9_run 6 (some .int) :: tb)) := gd_V wd_921 wd_923 wd_26 wd_134 wd_924
theorem kd_yX9_run : yX9_run.cls = RX9 ∧ yX9_run.cls ≠ "java/lang/invoke/MethodHandle" ∧ yX9_run.cls ≠ "java/lang/invoke/VarHandle" ∧ (parseMethodDescriptor yX9_run.desc).map (fun d => d.parameters.length) = some 2 := by decide +kernel
theorem kw_925 : GoodIn tb (va_wsS RX9 96 yX9_joined (Cond.code yX9_joined cX9_joined 7 (some .int) :: tb)) := gd_S wd_925 wd_926 wd_134 wd_927
theorem kd_yX9_joined : yX9_joined.cls ≠ "java/lang/invoke/MethodHandle" ∧ yX9_joined.cls ≠ "java/lang/invoke/VarHandle" ∧ (parseMethodDescriptor yX9_joined.desc).map (fun d => d.parameters.length) = some 3 := by decide +kernel
theorem kw_936 : GoodIn tb (wsV RX11 180 RX9 yX9_permits (Cond.code yX9_permits cX9_permits 3 (some .boolean) :: tb)) := gd_V wd_936 wd_937 wd_938 wd_134 wd_939
theorem kd_yX9_permits : yX9_permits.cls = RX9 ∧ yX9_permits.cls ≠ "java/lang/invoke/MethodHandle" ∧ yX9_permits.cls ≠ "java/lang/invoke/VarHandle" ∧ (parseMethodDescriptor yX9_permits.desc).map (fun d => d.parameters.length) = some 2 := by decide +kernel
theorem kw_940 : GoodIn tb (wsV RL 44 RX11 yX11_worth (Cond.code yX11_worth cX11_worth 3 (some .int) :: tb)) := gd_V wd_940 wd_941 wd_942 wd_129 wd_943
theorem kd_yX11_worth : yX11_worth.cls = RX11 ∧ yX11_worth.cls ≠ "java/lang/invoke/MethodHandle" ∧ yX11_worth.cls ≠ "java/lang/invoke/VarHandle" ∧ (parseMethodDescriptor yX11_worth.desc).map (fun d => d.parameters.length) = some 2 := by decide +kernel
theorem kw_945 : GoodIn tb (wsV RL 48 RX11 yX11_draws (Cond.code yX11_draws cX11_draws 2 (some .int) :: tb)) := gd_V wd_945 wd_946 wd_947 wd_129 wd_948
theorem kd_yX11_draws : yX11_draws.cls = RX11 ∧ yX11_draws.cls ≠ "java/lang/invoke/MethodHandle" ∧ yX11_draws.cls ≠ "java/lang/invoke/VarHandle" ∧ (parseMethodDescriptor yX11_draws.desc).map (fun d => d.parameters.length) = some 1 := by decide +kernel
theorem kw_949 : GoodIn tb (wsV RX11 193 RX4 yX4_copyFrom (Cond.code yX4_copyFrom cX4_copyFrom 2 none :: tb)) := gd_V wd_949 wd_865 wd_866 wd_131 wd_867
theorem kw_950 : GoodIn tb (wsV RX11 196 RX0 yX0_draw (Cond.code yX0_draw cX0_draw 5 (some .int) :: tb)) := gd_V wd_950 wd_951 wd_952 wd_139 wd_953
theorem kd_yX0_draw : yX0_draw.cls = RX0 ∧ yX0_draw.cls ≠ "java/lang/invoke/MethodHandle" ∧ yX0_draw.cls ≠ "java/lang/invoke/VarHandle" ∧ (parseMethodDescriptor yX0_draw.desc).map (fun d => d.parameters.length) = some 1 := by decide +kernel
theorem kw_954 : GoodIn tb (wsV RX0 57 RX9 yX9_refresh (Cond.code yX9_refresh cX9_refresh 4 none :: tb)) := gd_V wd_954 wd_912 wd_913 wd_134 wd_914
theorem kw_955 : GoodIn tb (wsV RX0 88 RX5 yX5_tally (Cond.code yX5_tally cX5_tally 5 (some .int) :: tb)) := gd_V wd_955 wd_956 wd_957 wd_135 wd_958
theorem kd_yX5_tally : yX5_tally.cls = RX5 ∧ yX5_tally.cls ≠ "java/lang/invoke/MethodHandle" ∧ yX5_tally.cls ≠ "java/lang/invoke/VarHandle" ∧ (parseMethodDescriptor yX5_tally.desc).map (fun d => d.parameters.length) = some 3 := by decide +kernel
theorem kw_962 : GoodIn tb (wsV RX5 49 RX5 yX5_waysFrom (Cond.code yX5_waysFrom cX5_waysFrom 6 (some .int) :: tb)) := gd_V wd_962 wd_964 wd_27 wd_135 wd_965
theorem kd_yX5_waysFrom : yX5_waysFrom.cls = RX5 ∧ yX5_waysFrom.cls ≠ "java/lang/invoke/MethodHandle" ∧ yX5_waysFrom.cls ≠ "java/lang/invoke/VarHandle" ∧ (parseMethodDescriptor yX5_waysFrom.desc).map (fun d => d.parameters.length) = some 1 := by decide +kernel
theorem kw_966 : GoodIn tb (va_wsS RX5 53 yJ6_bitCount_0f7a4 (Cond.code yJ6_bitCount_0f7a4 cJ6_bitCount_0f7a4 1 (some .int) :: tb)) := gd_S wd_966 wd_967 wd_150 wd_968
theorem kd_yJ6_bitCount_0f7a4 : yJ6_bitCount_0f7a4.cls ≠ "java/lang/invoke/MethodHandle" ∧ yJ6_bitCount_0f7a4.cls ≠ "java/lang/invoke/VarHandle" ∧ (parseMethodDescriptor yJ6_bitCount_0f7a4.desc).map (fun d => d.parameters.length) = some 1 := by decide +kernel
theorem kw_972 : GoodIn tb (wsV RX0 94 RX5 yX5_find (Cond.code yX5_find cX5_find 7 none :: tb)) := gd_V wd_972 wd_973 wd_974 wd_135 wd_975
theorem kd_yX5_find : yX5_find.cls = RX5 ∧ yX5_find.cls ≠ "java/lang/invoke/MethodHandle" ∧ yX5_find.cls ≠ "java/lang/invoke/VarHandle" ∧ (parseMethodDescriptor yX5_find.desc).map (fun d => d.parameters.length) = some 2 := by decide +kernel
theorem kw_976 : GoodIn tb (wsV RX5 68 RX5 yX5_goesOn (Cond.code yX5_goesOn cX5_goesOn 4 (some .boolean) :: tb)) := gd_V wd_976 wd_977 wd_978 wd_135 wd_979
theorem kd_yX5_goesOn : yX5_goesOn.cls = RX5 ∧ yX5_goesOn.cls ≠ "java/lang/invoke/MethodHandle" ∧ yX5_goesOn.cls ≠ "java/lang/invoke/VarHandle" ∧ (parseMethodDescriptor yX5_goesOn.desc).map (fun d => d.parameters.length) = some 3 := by decide +kernel
theorem kw_980 : GoodIn tb (wsV RX0 66 RX2 yX2_setHome (Cond.code yX2_setHome cX2_setHome 3 none :: tb)) := gd_V wd_980 wd_981 wd_982 wd_130 wd_983
theorem kd_yX2_setHome : yX2_setHome.cls = RX2 ∧ yX2_setHome.cls ≠ "java/lang/invoke/MethodHandle" ∧ yX2_setHome.cls ≠ "java/lang/invoke/VarHandle" ∧ (parseMethodDescriptor yX2_setHome.desc).map (fun d => d.parameters.length) = some 2 := by decide +kernel
theorem kw_984 : GoodIn tb (wsV RX11 200 RX1 yX1_keep (Cond.code yX1_keep cX1_keep 2 none :: tb)) := gd_V wd_984 wd_985 wd_986 wd_140 wd_987
theorem kd_yX1_keep : yX1_keep.cls = RX1 ∧ yX1_keep.cls ≠ "java/lang/invoke/MethodHandle" ∧ yX1_keep.cls ≠ "java/lang/invoke/VarHandle" ∧ (parseMethodDescriptor yX1_keep.desc).map (fun d => d.parameters.length) = some 1 := by decide +kernel
theorem kw_988 : GoodIn tb (wsV RX1 25 RX4 yX4_copyFrom (Cond.code yX4_copyFrom cX4_copyFrom 2 none :: tb)) := gd_V wd_988 wd_865 wd_866 wd_131 wd_867
theorem kw_989 : GoodIn tb (wsV RL 52 RX11 yX11_rings (Cond.code yX11_rings cX11_rings 1 (some .int) :: tb)) := gd_V wd_989 wd_990 wd_991 wd_129 wd_992
theorem kd_yX11_rings : yX11_rings.cls = RX11 ∧ yX11_rings.cls ≠ "java/lang/invoke/MethodHandle" ∧ yX11_rings.cls ≠ "java/lang/invoke/VarHandle" ∧ (parseMethodDescriptor yX11_rings.desc).map (fun d => d.parameters.length) = some 0 := by decide +kernel
theorem kw_993 : GoodIn tb (wsV RX11 206 RX0 yX0_swapByRings (Cond.code yX0_swapByRings cX0_swapByRings 2 (some .int) :: tb)) := gd_V wd_993 wd_994 wd_995 wd_139 wd_996
theorem kd_yX0_swapByRings : yX0_swapByRings.cls = RX0 ∧ yX0_swapByRings.cls ≠ "java/lang/invoke/MethodHandle" ∧ yX0_swapByRings.cls ≠ "java/lang/invoke/VarHandle" ∧ (parseMethodDescriptor yX0_swapByRings.desc).map (fun d => d.parameters.length) = some 0 := by decide +kernel
theorem kw_997 : GoodIn tb (wsV RX0 107 RX8 yX8_turn (Cond.code yX8_turn cX8_turn 4 none :: tb)) := gd_V wd_997 wd_998 wd_999 wd_136 wd_1000
theorem kd_yX8_turn : yX8_turn.cls = RX8 ∧ yX8_turn.cls ≠ "java/lang/invoke/MethodHandle" ∧ yX8_turn.cls ≠ "java/lang/invoke/VarHandle" ∧ (parseMethodDescriptor yX8_turn.desc).map (fun d => d.parameters.length) = some 0 := by decide +kernel
theorem kw_1001 : GoodIn tb (wsV RX8 47 RX8 yX8_ownerWanted (Cond.code yX8_ownerWanted cX8_ownerWanted 9 (some .int) :: tb)) := gd_V wd_1001 wd_1003 wd_28 wd_136 wd_1004
theorem kd_yX8_ownerWanted : yX8_ownerWanted.cls = RX8 ∧ yX8_ownerWanted.cls ≠ "java/lang/invoke/MethodHandle" ∧ yX8_ownerWanted.cls ≠ "java/lang/invoke/VarHandle" ∧ (parseMethodDescriptor yX8_ownerWanted.desc).map (fun d => d.parameters.length) = some 2 := by decide +kernel
theorem kw_1006 : GoodIn tb (wsV RX8 59 RX2 yX2_dwellerOf (Cond.code yX2_dwellerOf cX2_dwellerOf 3 (some .int) :: tb)) := gd_V wd_1006 wd_814 wd_815 wd_130 wd_816
theorem kw_1007 : GoodIn tb (wsV RX8 62 RX9 yX9_permits (Cond.code yX9_permits cX9_permits 3 (some .boolean) :: tb)) := gd_V wd_1007 wd_937 wd_938 wd_134 wd_939
theorem kw_1008 : GoodIn tb (wsV RX8 51 RX8 yX8_closeOne (Cond.code yX8_closeOne cX8_closeOne 5 (some .int) :: tb)) := gd_V wd_1008 wd_1010 wd_29 wd_136 wd_1011
theorem kd_yX8_closeOne : yX8_closeOne.cls = RX8 ∧ yX8_closeOne.cls ≠ "java/lang/invoke/MethodHandle" ∧ yX8_closeOne.cls ≠ "java/lang/invoke/VarHandle" ∧ (parseMethodDescriptor yX8_closeOne.desc).map (fun d => d.parameters.length) = some 1 := by decide +kernel
theorem kw_1012 : GoodIn tb (va_wsS RX8 71 yJ6_bitCount_0f7a4 (Cond.code yJ6_bitCount_0f7a4 cJ6_bitCount_0f7a4 1 (some .int) :: tb)) := gd_S wd_1012 wd_967 wd_150 wd_968
theorem kw_1013 : GoodIn tb (wsV RL 57 RX11 yX11_moves (Cond.code yX11_moves cX11_moves 6 (some .int) :: tb)) := gd_V wd_1013 wd_1014 wd_1015 wd_129 wd_1016
theorem kd_yX11_moves : yX11_moves.cls = RX11 ∧ yX11_moves.cls ≠ "java/lang/invoke/MethodHandle" ∧ yX11_moves.cls ≠ "java/lang/invoke/VarHandle" ∧ (parseMethodDescriptor yX11_moves.desc).map (fun d => d.parameters.length) = some 2 := by decide +kernel
theorem kw_1017 : GoodIn tb (wsV RX11 213 RX0 yX0_settle (Cond.code yX0_settle cX0_settle 3 (some .int) :: tb)) := gd_V wd_1017 wd_1018 wd_1019 wd_139 wd_1020
theorem kd_yX0_settle : yX0_settle.cls = RX0 ∧ yX0_settle.cls ≠ "java/lang/invoke/MethodHandle" ∧ yX0_settle.cls ≠ "java/lang/invoke/VarHandle" ∧ (parseMethodDescriptor yX0_settle.desc).map (fun d => d.parameters.length) = some 2 := by decide +kernel
theorem kw_1021 : GoodIn tb (wsV RX0 53 RX2 yX2_dwellerOf (Cond.code yX2_dwellerOf cX2_dwellerOf 3 (some .int) :: tb)) := gd_V wd_1021 wd_814 wd_815 wd_130 wd_816
theorem kw_1022 : GoodIn tb (wsV RX0 62 RX9 yX9_permits (Cond.code yX9_permits cX9_permits 3 (some .boolean) :: tb)) := gd_V wd_1022 wd_937 wd_938 wd_134 wd_939
theorem kw_1026 : GoodIn tb (wsV RL 61 RX11 yX11_leaves (Cond.code yX11_leaves cX11_leaves 3 (some .int) :: tb)) := gd_V wd_1026 wd_1027 wd_1028 wd_129 wd_1029
theorem kd_yX11_leaves : yX11_leaves.cls = RX11 ∧ yX11_leaves.cls ≠ "java/lang/invoke/MethodHandle" ∧ yX11_leaves.cls ≠ "java/lang/invoke/VarHandle" ∧ (parseMethodDescriptor yX11_leaves.desc).map (fun d => d.parameters.length) = some 1 := by decide +kernel
theorem kw_1030 : GoodIn tb (wsV RX11 221 RX0 yX0_depart (Cond.code yX0_depart cX0_depart 2 (some .int) :: tb)) := gd_V wd_1030 wd_1031 wd_1032 wd_139 wd_1033
theorem kd_yX0_depart : yX0_depart.cls = RX0 ∧ yX0_depart.cls ≠ "java/lang/invoke/MethodHandle" ∧ yX0_depart.cls ≠ "java/lang/invoke/VarHandle" ∧ (parseMethodDescriptor yX0_depart.desc).map (fun d => d.parameters.length) = some 1 := by decide +kernel
theorem kw_1034 : GoodIn tb (wsV RL 65 RX11 yX11_spoils (Cond.code yX11_spoils cX11_spoils 3 (some .int) :: tb)) := gd_V wd_1034 wd_1035 wd_1036 wd_129 wd_1037
theorem kd_yX11_spoils : yX11_spoils.cls = RX11 ∧ yX11_spoils.cls ≠ "java/lang/invoke/MethodHandle" ∧ yX11_spoils.cls ≠ "java/lang/invoke/VarHandle" ∧ (parseMethodDescriptor yX11_spoils.desc).map (fun d => d.parameters.length) = some 1 := by decide +kernel
theorem kw_1038 : GoodIn tb (wsV RX11 224 RX0 yX0_spoil (Cond.code yX0_spoil cX0_spoil 2 (some .int) :: tb)) := gd_V wd_1038 wd_1039 wd_1040 wd_139 wd_1041
theorem kd_yX0_spoil : yX0_spoil.cls = RX0 ∧ yX0_spoil.cls ≠ "java/lang/invoke/MethodHandle" ∧ yX0_spoil.cls ≠ "java/lang/invoke/VarHandle" ∧ (parseMethodDescriptor yX0_spoil.desc).map (fun d => d.parameters.length) = some 1 := by decide +kernel
theorem kw_1042 : GoodIn tb (wsV RX0 82 RX2 yX2_setFaults (Cond.code yX2_setFaults cX2_setFaults 3 none :: tb)) := gd_V wd_1042 wd_1043 wd_1044 wd_130 wd_1045
theorem kd_yX2_setFaults : yX2_setFaults.cls = RX2 ∧ yX2_setFaults.cls ≠ "java/lang/invoke/MethodHandle" ∧ yX2_setFaults.cls ≠ "java/lang/invoke/VarHandle" ∧ (parseMethodDescriptor yX2_setFaults.desc).map (fun d => d.parameters.length) = some 2 := by decide +kernel
theorem kw_1046 : GoodIn tb (wsV RL 69 RX11 yX11_mends (Cond.code yX11_mends cX11_mends 3 (some .int) :: tb)) := gd_V wd_1046 wd_1047 wd_1048 wd_129 wd_1049
theorem kd_yX11_mends : yX11_mends.cls = RX11 ∧ yX11_mends.cls ≠ "java/lang/invoke/MethodHandle" ∧ yX11_mends.cls ≠ "java/lang/invoke/VarHandle" ∧ (parseMethodDescriptor yX11_mends.desc).map (fun d => d.parameters.length) = some 1 := by decide +kernel
theorem kw_1050 : GoodIn tb (wsV RX11 227 RX0 yX0_mend (Cond.code yX0_mend cX0_mend 2 (some .int) :: tb)) := gd_V wd_1050 wd_1051 wd_1052 wd_139 wd_1053
theorem kd_yX0_mend : yX0_mend.cls = RX0 ∧ yX0_mend.cls ≠ "java/lang/invoke/MethodHandle" ∧ yX0_mend.cls ≠ "java/lang/invoke/VarHandle" ∧ (parseMethodDescriptor yX0_mend.desc).map (fun d => d.parameters.length) = some 1 := by decide +kernel
theorem kw_1054 : GoodIn tb (wsV RL 73 RX11 yX11_undo (Cond.code yX11_undo cX11_undo 2 (some .int) :: tb)) := gd_V wd_1054 wd_1055 wd_1056 wd_129 wd_1057
theorem kd_yX11_undo : yX11_undo.cls = RX11 ∧ yX11_undo.cls ≠ "java/lang/invoke/MethodHandle" ∧ yX11_undo.cls ≠ "java/lang/invoke/VarHandle" ∧ (parseMethodDescriptor yX11_undo.desc).map (fun d => d.parameters.length) = some 1 := by decide +kernel
theorem kw_1058 : GoodIn tb (wsV RX11 233 RX1 yX1_takeBack (Cond.code yX1_takeBack cX1_takeBack 2 (some (.object "FloorsByLot$Living")) :: tb)) := gd_V wd_1058 wd_1059 wd_1060 wd_140 wd_1061
theorem kd_yX1_takeBack : yX1_takeBack.cls = RX1 ∧ yX1_takeBack.cls ≠ "java/lang/invoke/MethodHandle" ∧ yX1_takeBack.cls ≠ "java/lang/invoke/VarHandle" ∧ (parseMethodDescriptor yX1_takeBack.desc).map (fun d => d.parameters.length) = some 1 := by decide +kernel
theorem kw_1063 : GoodIn tb (wsV RX11 237 RX2 yX2_liveAs (Cond.code yX2_liveAs cX2_liveAs 2 none :: tb)) := gd_V wd_1063 wd_1064 wd_1065 wd_130 wd_1066
theorem kd_yX2_liveAs : yX2_liveAs.cls = RX2 ∧ yX2_liveAs.cls ≠ "java/lang/invoke/MethodHandle" ∧ yX2_liveAs.cls ≠ "java/lang/invoke/VarHandle" ∧ (parseMethodDescriptor yX2_liveAs.desc).map (fun d => d.parameters.length) = some 1 := by decide +kernel
theorem kw_1067 : GoodIn tb (wsV RL 77 RX11 yX11_judge (Cond.code yX11_judge cX11_judge 5 (some .int) :: tb)) := gd_V wd_1067 wd_1068 wd_1069 wd_129 wd_1070
theorem kd_yX11_judge : yX11_judge.cls = RX11 ∧ yX11_judge.cls ≠ "java/lang/invoke/MethodHandle" ∧ yX11_judge.cls ≠ "java/lang/invoke/VarHandle" ∧ (parseMethodDescriptor yX11_judge.desc).map (fun d => d.parameters.length) = some 2 := by decide +kernel
theorem kw_1071 : GoodIn tb (va_wsS RX11 240 yX11_isTray (Cond.code yX11_isTray cX11_isTray 1 (some .boolean) :: tb)) := gd_S wd_1071 wd_1072 wd_129 wd_1073
theorem kd_yX11_isTray : yX11_isTray.cls ≠ "java/lang/invoke/MethodHandle" ∧ yX11_isTray.cls ≠ "java/lang/invoke/VarHandle" ∧ (parseMethodDescriptor yX11_isTray.desc).map (fun d => d.parameters.length) = some 1 := by decide +kernel
theorem kw_1074 : GoodIn tb (wsV RX11 243 RX10 yX10_isMissing (Cond.code yX10_isMissing cX10_isMissing 1 (some .boolean) :: tb)) := gd_V wd_1074 wd_1075 wd_1076 wd_141 wd_1077
theorem kd_yX10_isMissing : yX10_isMissing.cls = RX10 ∧ yX10_isMissing.cls ≠ "java/lang/invoke/MethodHandle" ∧ yX10_isMissing.cls ≠ "java/lang/invoke/VarHandle" ∧ (parseMethodDescriptor yX10_isMissing.desc).map (fun d => d.parameters.length) = some 0 := by decide +kernel
theorem kw_1078 : GoodIn tb (wsV RX11 247 RX0 yX0_doAll (Cond.code yX0_doAll cX0_doAll 3 (some .int) :: tb)) := gd_V wd_1078 wd_1079 wd_1080 wd_139 wd_1081
theorem kd_yX0_doAll : yX0_doAll.cls = RX0 ∧ yX0_doAll.cls ≠ "java/lang/invoke/MethodHandle" ∧ yX0_doAll.cls ≠ "java/lang/invoke/VarHandle" ∧ (parseMethodDescriptor yX0_doAll.desc).map (fun d => d.parameters.length) = some 1 := by decide +kernel
theorem kw_1082 : GoodIn tb (wsV RX0 127 RX0 yX0_doOne (Cond.code yX0_doOne cX0_doOne 4 (some .int) :: tb)) := gd_V wd_1082 wd_1084 wd_30 wd_139 wd_1085
theorem kd_yX0_doOne : yX0_doOne.cls = RX0 ∧ yX0_doOne.cls ≠ "java/lang/invoke/MethodHandle" ∧ yX0_doOne.cls ≠ "java/lang/invoke/VarHandle" ∧ (parseMethodDescriptor yX0_doOne.desc).map (fun d => d.parameters.length) = some 1 := by decide +kernel
theorem kw_1087 : GoodIn tb (wsV RX0 139 RX0 yX0_draw (Cond.code yX0_draw cX0_draw 5 (some .int) :: tb)) := gd_V wd_1087 wd_951 wd_952 wd_139 wd_953
theorem kw_1088 : GoodIn tb (wsV RX0 142 RX0 yX0_noted (Cond.code yX0_noted cX0_noted 2 (some .int) :: tb)) := gd_V wd_1088 wd_1090 wd_31 wd_139 wd_1091
theorem kd_yX0_noted : yX0_noted.cls = RX0 ∧ yX0_noted.cls ≠ "java/lang/invoke/MethodHandle" ∧ yX0_noted.cls ≠ "java/lang/invoke/VarHandle" ∧ (parseMethodDescriptor yX0_noted.desc).map (fun d => d.parameters.length) = some 1 := by decide +kernel
theorem kw_1093 : GoodIn tb (wsV RX0 147 RX0 yX0_swapByRings (Cond.code yX0_swapByRings cX0_swapByRings 2 (some .int) :: tb)) := gd_V wd_1093 wd_994 wd_995 wd_139 wd_996
theorem kw_1094 : GoodIn tb (wsV RX0 151 RX0 yX0_mend (Cond.code yX0_mend cX0_mend 2 (some .int) :: tb)) := gd_V wd_1094 wd_1051 wd_1052 wd_139 wd_1053
theorem kw_1095 : GoodIn tb (wsV RX0 154 RX0 yX0_spoil (Cond.code yX0_spoil cX0_spoil 2 (some .int) :: tb)) := gd_V wd_1095 wd_1039 wd_1040 wd_139 wd_1041
theorem kw_1096 : GoodIn tb (wsV RX0 157 RX0 yX0_depart (Cond.code yX0_depart cX0_depart 2 (some .int) :: tb)) := gd_V wd_1096 wd_1031 wd_1032 wd_139 wd_1033
theorem kw_1097 : GoodIn tb (wsV RX0 160 RX0 yX0_settle (Cond.code yX0_settle cX0_settle 3 (some .int) :: tb)) := gd_V wd_1097 wd_1018 wd_1019 wd_139 wd_1020
theorem kw_1099 : GoodIn tb (wsV RX11 251 RX11 yX11_judged (Cond.code yX11_judged cX11_judged 3 (some .int) :: tb)) := gd_V wd_1099 wd_1101 wd_32 wd_129 wd_1102
theorem kd_yX11_judged : yX11_judged.cls = RX11 ∧ yX11_judged.cls ≠ "java/lang/invoke/MethodHandle" ∧ yX11_judged.cls ≠ "java/lang/invoke/VarHandle" ∧ (parseMethodDescriptor yX11_judged.desc).map (fun d => d.parameters.length) = some 2 := by decide +kernel
theorem kw_1103 : GoodIn tb (wsV RX11 260 RX2 yX2_awayMany (Cond.code yX2_awayMany cX2_awayMany 3 (some .int) :: tb)) := gd_V wd_1103 wd_1104 wd_1105 wd_130 wd_1106
theorem kd_yX2_awayMany : yX2_awayMany.cls = RX2 ∧ yX2_awayMany.cls ≠ "java/lang/invoke/MethodHandle" ∧ yX2_awayMany.cls ≠ "java/lang/invoke/VarHandle" ∧ (parseMethodDescriptor yX2_awayMany.desc).map (fun d => d.parameters.length) = some 0 := by decide +kernel
theorem kw_1107 : GoodIn tb (wsV RL 81 RX11 yX11_perform (Cond.code yX11_perform cX11_perform 4 (some .int) :: tb)) := gd_V wd_1107 wd_1108 wd_1109 wd_129 wd_1110
theorem kd_yX11_perform : yX11_perform.cls = RX11 ∧ yX11_perform.cls ≠ "java/lang/invoke/MethodHandle" ∧ yX11_perform.cls ≠ "java/lang/invoke/VarHandle" ∧ (parseMethodDescriptor yX11_perform.desc).map (fun d => d.parameters.length) = some 1 := by decide +kernel
theorem kw_1111 : GoodIn tb (wsV RX11 263 RX11 yX11_trayCode (Cond.code yX11_trayCode cX11_trayCode 2 (some .int) :: tb)) := gd_V wd_1111 wd_1113 wd_33 wd_129 wd_1114
theorem kd_yX11_trayCode : yX11_trayCode.cls = RX11 ∧ yX11_trayCode.cls ≠ "java/lang/invoke/MethodHandle" ∧ yX11_trayCode.cls ≠ "java/lang/invoke/VarHandle" ∧ (parseMethodDescriptor yX11_trayCode.desc).map (fun d => d.parameters.length) = some 1 := by decide +kernel
theorem kw_1115 : GoodIn tb (wsV RX11 266 RX11 yX11_keepIfSome (Cond.code yX11_keepIfSome cX11_keepIfSome 1 none :: tb)) := gd_V wd_1115 wd_1117 wd_34 wd_129 wd_1118
theorem kd_yX11_keepIfSome : yX11_keepIfSome.cls = RX11 ∧ yX11_keepIfSome.cls ≠ "java/lang/invoke/MethodHandle" ∧ yX11_keepIfSome.cls ≠ "java/lang/invoke/VarHandle" ∧ (parseMethodDescriptor yX11_keepIfSome.desc).map (fun d => d.parameters.length) = some 0 := by decide +kernel
theorem kw_1119 : GoodIn tb (wsV RL 85 RX11 yX11_year (Cond.code yX11_year cX11_year 4 (some .int) :: tb)) := gd_V wd_1119 wd_1120 wd_1121 wd_129 wd_1122
theorem kd_yX11_year : yX11_year.cls = RX11 ∧ yX11_year.cls ≠ "java/lang/invoke/MethodHandle" ∧ yX11_year.cls ≠ "java/lang/invoke/VarHandle" ∧ (parseMethodDescriptor yX11_year.desc).map (fun d => d.parameters.length) = some 2 := by decide +kernel
theorem kw_1123 : GoodIn tb (wsV RX11 269 RX0 yX0_doYear (Cond.code yX0_doYear cX0_doYear 5 (some .int) :: tb)) := gd_V wd_1123 wd_1124 wd_1125 wd_139 wd_1126
theorem kd_yX0_doYear : yX0_doYear.cls = RX0 ∧ yX0_doYear.cls ≠ "java/lang/invoke/MethodHandle" ∧ yX0_doYear.cls ≠ "java/lang/invoke/VarHandle" ∧ (parseMethodDescriptor yX0_doYear.desc).map (fun d => d.parameters.length) = some 2 := by decide +kernel
theorem kw_1127 : GoodIn tb (wsV RX0 163 RX0 yX0_doByLot (Cond.code yX0_doByLot cX0_doByLot 3 (some .int) :: tb)) := gd_V wd_1127 wd_1129 wd_35 wd_139 wd_1130
theorem kd_yX0_doByLot : yX0_doByLot.cls = RX0 ∧ yX0_doByLot.cls ≠ "java/lang/invoke/MethodHandle" ∧ yX0_doByLot.cls ≠ "java/lang/invoke/VarHandle" ∧ (parseMethodDescriptor yX0_doByLot.desc).map (fun d => d.parameters.length) = some 0 := by decide +kernel
theorem kw_1131 : GoodIn tb (wsV RX0 166 RX0 yX0_nextLot (Cond.code yX0_nextLot cX0_nextLot 1 (some .int) :: tb)) := gd_V wd_1131 wd_1133 wd_36 wd_139 wd_1134
theorem kd_yX0_nextLot : yX0_nextLot.cls = RX0 ∧ yX0_nextLot.cls ≠ "java/lang/invoke/MethodHandle" ∧ yX0_nextLot.cls ≠ "java/lang/invoke/VarHandle" ∧ (parseMethodDescriptor yX0_nextLot.desc).map (fun d => d.parameters.length) = some 0 := by decide +kernel
theorem kw_1136 : GoodIn tb (wsV RL 89 RX11 yX11_maps (Cond.code yX11_maps cX11_maps 1 (some .int) :: tb)) := gd_V wd_1136 wd_1137 wd_1138 wd_129 wd_1139
theorem kd_yX11_maps : yX11_maps.cls = RX11 ∧ yX11_maps.cls ≠ "java/lang/invoke/MethodHandle" ∧ yX11_maps.cls ≠ "java/lang/invoke/VarHandle" ∧ (parseMethodDescriptor yX11_maps.desc).map (fun d => d.parameters.length) = some 0 := by decide +kernel
theorem kw_1140 : GoodIn tb (wsV RX11 276 RX11 yX11_tallyAll (Cond.code yX11_tallyAll cX11_tallyAll 1 (some .int) :: tb)) := gd_V wd_1140 wd_1142 wd_37 wd_129 wd_1143
theorem kd_yX11_tallyAll : yX11_tallyAll.cls = RX11 ∧ yX11_tallyAll.cls ≠ "java/lang/invoke/MethodHandle" ∧ yX11_tallyAll.cls ≠ "java/lang/invoke/VarHandle" ∧ (parseMethodDescriptor yX11_tallyAll.desc).map (fun d => d.parameters.length) = some 0 := by decide +kernel
theorem kw_1144 : GoodIn tb (wsV RX11 302 RX5 yX5_tally (Cond.code yX5_tally cX5_tally 5 (some .int) :: tb)) := gd_V wd_1144 wd_956 wd_957 wd_135 wd_958
theorem kw_1145 : GoodIn tb (wsV RL 93 RX11 yX11_inMap (Cond.code yX11_inMap cX11_inMap 3 (some .int) :: tb)) := gd_V wd_1145 wd_1146 wd_1147 wd_129 wd_1148
theorem kd_yX11_inMap : yX11_inMap.cls = RX11 ∧ yX11_inMap.cls ≠ "java/lang/invoke/MethodHandle" ∧ yX11_inMap.cls ≠ "java/lang/invoke/VarHandle" ∧ (parseMethodDescriptor yX11_inMap.desc).map (fun d => d.parameters.length) = some 2 := by decide +kernel
theorem kw_1149 : GoodIn tb (wsV RX11 279 RX5 yX5_find (Cond.code yX5_find cX5_find 7 none :: tb)) := gd_V wd_1149 wd_973 wd_974 wd_135 wd_975
theorem kw_1150 : GoodIn tb (wsV RL 97 RX11 yX11_with (Cond.code yX11_with cX11_with 3 (some .int) :: tb)) := gd_V wd_1150 wd_1151 wd_1152 wd_129 wd_1153
theorem kd_yX11_with : yX11_with.cls = RX11 ∧ yX11_with.cls ≠ "java/lang/invoke/MethodHandle" ∧ yX11_with.cls ≠ "java/lang/invoke/VarHandle" ∧ (parseMethodDescriptor yX11_with.desc).map (fun d => d.parameters.length) = some 2 := by decide +kernel
theorem kw_1154 : GoodIn tb (wsV RX11 283 RX11 yX11_copyRows (Cond.code yX11_copyRows cX11_copyRows 1 none :: tb)) := gd_V wd_1154 wd_1156 wd_38 wd_129 wd_1157
theorem kd_yX11_copyRows : yX11_copyRows.cls = RX11 ∧ yX11_copyRows.cls ≠ "java/lang/invoke/MethodHandle" ∧ yX11_copyRows.cls ≠ "java/lang/invoke/VarHandle" ∧ (parseMethodDescriptor yX11_copyRows.desc).map (fun d => d.parameters.length) = some 0 := by decide +kernel
theorem kw_1159 : GoodIn tb (wsV RX11 286 RX11 yX11_tallyRows (Cond.code yX11_tallyRows cX11_tallyRows 1 (some .int) :: tb)) := gd_V wd_1159 wd_1161 wd_39 wd_129 wd_1162
theorem kd_yX11_tallyRows : yX11_tallyRows.cls = RX11 ∧ yX11_tallyRows.cls ≠ "java/lang/invoke/MethodHandle" ∧ yX11_tallyRows.cls ≠ "java/lang/invoke/VarHandle" ∧ (parseMethodDescriptor yX11_tallyRows.desc).map (fun d => d.parameters.length) = some 0 := by decide +kernel
theorem kw_1163 : GoodIn tb (wsV RL 101 RX11 yX11_near (Cond.code yX11_near cX11_near 6 (some .int) :: tb)) := gd_V wd_1163 wd_1164 wd_1165 wd_129 wd_1166
theorem kd_yX11_near : yX11_near.cls = RX11 ∧ yX11_near.cls ≠ "java/lang/invoke/MethodHandle" ∧ yX11_near.cls ≠ "java/lang/invoke/VarHandle" ∧ (parseMethodDescriptor yX11_near.desc).map (fun d => d.parameters.length) = some 2 := by decide +kernel
theorem kw_1167 : GoodIn tb (wsV RX11 289 RX2 yX2_flatBelow (Cond.code yX2_flatBelow cX2_flatBelow 2 (some .int) :: tb)) := gd_V wd_1167 wd_1168 wd_1169 wd_130 wd_1170
theorem kd_yX2_flatBelow : yX2_flatBelow.cls = RX2 ∧ yX2_flatBelow.cls ≠ "java/lang/invoke/MethodHandle" ∧ yX2_flatBelow.cls ≠ "java/lang/invoke/VarHandle" ∧ (parseMethodDescriptor yX2_flatBelow.desc).map (fun d => d.parameters.length) = some 1 := by decide +kernel
theorem kw_1171 : GoodIn tb (wsV RX2 85 RX2 yX2_flatAt (Cond.code yX2_flatAt cX2_flatAt 4 (some .int) :: tb)) := gd_V wd_1171 wd_790 wd_791 wd_130 wd_792
theorem kw_1172 : GoodIn tb (wsV RX11 292 RX11 yX11_mapsWithBoth (Cond.code yX11_mapsWithBoth cX11_mapsWithBoth 5 (some .int) :: tb)) := gd_V wd_1172 wd_1174 wd_40 wd_129 wd_1175
theorem kd_yX11_mapsWithBoth : yX11_mapsWithBoth.cls = RX11 ∧ yX11_mapsWithBoth.cls ≠ "java/lang/invoke/MethodHandle" ∧ yX11_mapsWithBoth.cls ≠ "java/lang/invoke/VarHandle" ∧ (parseMethodDescriptor yX11_mapsWithBoth.desc).map (fun d => d.parameters.length) = some 4 := by decide +kernel
theorem kw_1176 : GoodIn tb (wsV RL 105 RX11 yX11_allElse (Cond.code yX11_allElse cX11_allElse 3 (some .int) :: tb)) := gd_V wd_1176 wd_1177 wd_1178 wd_129 wd_1179
theorem kd_yX11_allElse : yX11_allElse.cls = RX11 ∧ yX11_allElse.cls ≠ "java/lang/invoke/MethodHandle" ∧ yX11_allElse.cls ≠ "java/lang/invoke/VarHandle" ∧ (parseMethodDescriptor yX11_allElse.desc).map (fun d => d.parameters.length) = some 0 := by decide +kernel
theorem kw_1180 : GoodIn tb (wsV RL 109 RX11 yX11_likeliest (Cond.code yX11_likeliest cX11_likeliest 6 (some .int) :: tb)) := gd_V wd_1180 wd_1181 wd_1182 wd_129 wd_1183
theorem kd_yX11_likeliest : yX11_likeliest.cls = RX11 ∧ yX11_likeliest.cls ≠ "java/lang/invoke/MethodHandle" ∧ yX11_likeliest.cls ≠ "java/lang/invoke/VarHandle" ∧ (parseMethodDescriptor yX11_likeliest.desc).map (fun d => d.parameters.length) = some 1 := by decide +kernel
theorem kw_1184 : GoodIn tb (wsV RX11 296 RX5 yX5_tallyEach (Cond.code yX5_tallyEach cX5_tallyEach 3 none :: tb)) := gd_V wd_1184 wd_1185 wd_1186 wd_135 wd_1187
theorem kd_yX5_tallyEach : yX5_tallyEach.cls = RX5 ∧ yX5_tallyEach.cls ≠ "java/lang/invoke/MethodHandle" ∧ yX5_tallyEach.cls ≠ "java/lang/invoke/VarHandle" ∧ (parseMethodDescriptor yX5_tallyEach.desc).map (fun d => d.parameters.length) = some 0 := by decide +kernel
theorem kw_1188 : GoodIn tb (va_wsS RX5 58 yJ7_fill_53178 (Cond.code yJ7_fill_53178 cJ7_fill_53178 4 none :: tb)) := gd_S wd_1188 wd_172 wd_132 wd_173
theorem kw_1189 : GoodIn tb (wsV RX5 64 RX5 yX5_passOn (Cond.code yX5_passOn cX5_passOn 5 none :: tb)) := gd_V wd_1189 wd_1191 wd_41 wd_135 wd_1192
theorem kd_yX5_passOn : yX5_passOn.cls = RX5 ∧ yX5_passOn.cls ≠ "java/lang/invoke/MethodHandle" ∧ yX5_passOn.cls ≠ "java/lang/invoke/VarHandle" ∧ (parseMethodDescriptor yX5_passOn.desc).map (fun d => d.parameters.length) = some 2 := by decide +kernel
theorem kw_1193 : GoodIn tb (wsV RL 113 RX11 yX11_sure (Cond.code yX11_sure cX11_sure 8 (some .int) :: tb)) := gd_V wd_1193 wd_1194 wd_1195 wd_129 wd_1196
theorem kd_yX11_sure : yX11_sure.cls = RX11 ∧ yX11_sure.cls ≠ "java/lang/invoke/MethodHandle" ∧ yX11_sure.cls ≠ "java/lang/invoke/VarHandle" ∧ (parseMethodDescriptor yX11_sure.desc).map (fun d => d.parameters.length) = some 2 := by decide +kernel
theorem kw_1197 : GoodIn tb (wsV RL 117 RX11 yX11_tooMany (Cond.code yX11_tooMany cX11_tooMany 4 (some .int) :: tb)) := gd_V wd_1197 wd_1198 wd_1199 wd_129 wd_1200
theorem kd_yX11_tooMany : yX11_tooMany.cls = RX11 ∧ yX11_tooMany.cls ≠ "java/lang/invoke/MethodHandle" ∧ yX11_tooMany.cls ≠ "java/lang/invoke/VarHandle" ∧ (parseMethodDescriptor yX11_tooMany.desc).map (fun d => d.parameters.length) = some 0 := by decide +kernel
theorem kw_1201 : GoodIn tb (wsV RL 121 RX11 yX11_best (Cond.code yX11_best cX11_best 3 (some .int) :: tb)) := gd_V wd_1201 wd_1202 wd_1203 wd_129 wd_1204
theorem kd_yX11_best : yX11_best.cls = RX11 ∧ yX11_best.cls ≠ "java/lang/invoke/MethodHandle" ∧ yX11_best.cls ≠ "java/lang/invoke/VarHandle" ∧ (parseMethodDescriptor yX11_best.desc).map (fun d => d.parameters.length) = some 1 := by decide +kernel
theorem kw_1205 : GoodIn tb (va_wsS RX11 315 yX11_asksOfMap (Cond.code yX11_asksOfMap cX11_asksOfMap 1 (some .boolean) :: tb)) := gd_S wd_1205 wd_1206 wd_129 wd_1207
theorem kd_yX11_asksOfMap : yX11_asksOfMap.cls ≠ "java/lang/invoke/MethodHandle" ∧ yX11_asksOfMap.cls ≠ "java/lang/invoke/VarHandle" ∧ (parseMethodDescriptor yX11_asksOfMap.desc).map (fun d => d.parameters.length) = some 1 := by decide +kernel
theorem kw_1208 : GoodIn tb (wsV RX11 318 RX5 yX5_mostInSum (Cond.code yX5_mostInSum cX5_mostInSum 5 (some .int) :: tb)) := gd_V wd_1208 wd_1209 wd_1210 wd_135 wd_1211
theorem kd_yX5_mostInSum : yX5_mostInSum.cls = RX5 ∧ yX5_mostInSum.cls ≠ "java/lang/invoke/MethodHandle" ∧ yX5_mostInSum.cls ≠ "java/lang/invoke/VarHandle" ∧ (parseMethodDescriptor yX5_mostInSum.desc).map (fun d => d.parameters.length) = some 1 := by decide +kernel
theorem kw_1213 : GoodIn tb (wsV RX11 322 RX5 yX5_pickMostInSum (Cond.code yX5_pickMostInSum cX5_pickMostInSum 6 none :: tb)) := gd_V wd_1213 wd_1214 wd_1215 wd_135 wd_1216
theorem kd_yX5_pickMostInSum : yX5_pickMostInSum.cls = RX5 ∧ yX5_pickMostInSum.cls ≠ "java/lang/invoke/MethodHandle" ∧ yX5_pickMostInSum.cls ≠ "java/lang/invoke/VarHandle" ∧ (parseMethodDescriptor yX5_pickMostInSum.desc).map (fun d => d.parameters.length) = some 2 := by decide +kernel
theorem kw_1217 : GoodIn tb (wsV RX5 73 RX5 yX5_isOfMost (Cond.code yX5_isOfMost cX5_isOfMost 5 (some .boolean) :: tb)) := gd_V wd_1217 wd_1219 wd_42 wd_135 wd_1220
theorem kd_yX5_isOfMost : yX5_isOfMost.cls = RX5 ∧ yX5_isOfMost.cls ≠ "java/lang/invoke/MethodHandle" ∧ yX5_isOfMost.cls ≠ "java/lang/invoke/VarHandle" ∧ (parseMethodDescriptor yX5_isOfMost.desc).map (fun d => d.parameters.length) = some 4 := by decide +kernel
theorem kw_1221 : GoodIn tb (wsV RX11 326 RX11 yX11_pickedFlat (Cond.code yX11_pickedFlat cX11_pickedFlat 3 (some .int) :: tb)) := gd_V wd_1221 wd_1223 wd_43 wd_129 wd_1224
theorem kd_yX11_pickedFlat : yX11_pickedFlat.cls = RX11 ∧ yX11_pickedFlat.cls ≠ "java/lang/invoke/MethodHandle" ∧ yX11_pickedFlat.cls ≠ "java/lang/invoke/VarHandle" ∧ (parseMethodDescriptor yX11_pickedFlat.desc).map (fun d => d.parameters.length) = some 1 := by decide +kernel
theorem kw_1225 : GoodIn tb (wsV RL 125 RX11 yX11_fairest (Cond.code yX11_fairest cX11_fairest 3 (some .int) :: tb)) := gd_V wd_1225 wd_1226 wd_1227 wd_129 wd_1228
theorem kd_yX11_fairest : yX11_fairest.cls = RX11 ∧ yX11_fairest.cls ≠ "java/lang/invoke/MethodHandle" ∧ yX11_fairest.cls ≠ "java/lang/invoke/VarHandle" ∧ (parseMethodDescriptor yX11_fairest.desc).map (fun d => d.parameters.length) = some 1 := by decide +kernel
theorem kw_1229 : GoodIn tb (wsV RX11 329 RX5 yX5_greatestLeast (Cond.code yX5_greatestLeast cX5_greatestLeast 6 (some .int) :: tb)) := gd_V wd_1229 wd_1230 wd_1231 wd_135 wd_1232
theorem kd_yX5_greatestLeast : yX5_greatestLeast.cls = RX5 ∧ yX5_greatestLeast.cls ≠ "java/lang/invoke/MethodHandle" ∧ yX5_greatestLeast.cls ≠ "java/lang/invoke/VarHandle" ∧ (parseMethodDescriptor yX5_greatestLeast.desc).map (fun d => d.parameters.length) = some 1 := by decide +kernel
theorem kw_1234 : GoodIn tb (wsV RX11 332 RX11 yX11_keepRowsOfWorth (Cond.code yX11_keepRowsOfWorth cX11_keepRowsOfWorth 4 none :: tb)) := gd_V wd_1234 wd_1236 wd_44 wd_129 wd_1237
theorem kd_yX11_keepRowsOfWorth : yX11_keepRowsOfWorth.cls = RX11 ∧ yX11_keepRowsOfWorth.cls ≠ "java/lang/invoke/MethodHandle" ∧ yX11_keepRowsOfWorth.cls ≠ "java/lang/invoke/VarHandle" ∧ (parseMethodDescriptor yX11_keepRowsOfWorth.desc).map (fun d => d.parameters.length) = some 1 := by decide +kernel
theorem kw_1238 : GoodIn tb (wsV RL 129 RX11 yX11_stillest (Cond.code yX11_stillest cX11_stillest 2 (some .int) :: tb)) := gd_V wd_1238 wd_1239 wd_1240 wd_129 wd_1241
theorem kd_yX11_stillest : yX11_stillest.cls = RX11 ∧ yX11_stillest.cls ≠ "java/lang/invoke/MethodHandle" ∧ yX11_stillest.cls ≠ "java/lang/invoke/VarHandle" ∧ (parseMethodDescriptor yX11_stillest.desc).map (fun d => d.parameters.length) = some 1 := by decide +kernel
theorem kw_1242 : GoodIn tb (wsV RX11 335 RX6 yX6_search (Cond.code yX6_search cX6_search 3 none :: tb)) := gd_V wd_1242 wd_1243 wd_1244 wd_137 wd_1245
theorem kd_yX6_search : yX6_search.cls = RX6 ∧ yX6_search.cls ≠ "java/lang/invoke/MethodHandle" ∧ yX6_search.cls ≠ "java/lang/invoke/VarHandle" ∧ (parseMethodDescriptor yX6_search.desc).map (fun d => d.parameters.length) = some 1 := by decide +kernel
theorem kw_1246 : GoodIn tb (va_wsS RX6 60 yJ7_fill_53178 (Cond.code yJ7_fill_53178 cJ7_fill_53178 4 none :: tb)) := gd_S wd_1246 wd_172 wd_132 wd_173
theorem kw_1247 : GoodIn tb (wsV RX6 43 RX2 yX2_flatBelow (Cond.code yX2_flatBelow cX2_flatBelow 2 (some .int) :: tb)) := gd_V wd_1247 wd_1168 wd_1169 wd_130 wd_1170
theorem kw_1249 : GoodIn tb (wsV RX6 67 RX6 yX6_seek (Cond.code yX6_seek cX6_seek 6 none :: tb)) := gd_V wd_1249 wd_1251 wd_45 wd_137 wd_1252
theorem kd_yX6_seek : yX6_seek.cls = RX6 ∧ yX6_seek.cls ≠ "java/lang/invoke/MethodHandle" ∧ yX6_seek.cls ≠ "java/lang/invoke/VarHandle" ∧ (parseMethodDescriptor yX6_seek.desc).map (fun d => d.parameters.length) = some 4 := by decide +kernel
theorem kw_1254 : GoodIn tb (wsV RX6 80 RX5 yX5_goesOn (Cond.code yX5_goesOn cX5_goesOn 4 (some .boolean) :: tb)) := gd_V wd_1254 wd_977 wd_978 wd_135 wd_979
theorem kw_1255 : GoodIn tb (wsV RX6 86 RX6 yX6_harmAround (Cond.code yX6_harmAround cX6_harmAround 4 (some .int) :: tb)) := gd_V wd_1255 wd_1257 wd_46 wd_137 wd_1258
theorem kd_yX6_harmAround : yX6_harmAround.cls = RX6 ∧ yX6_harmAround.cls ≠ "java/lang/invoke/MethodHandle" ∧ yX6_harmAround.cls ≠ "java/lang/invoke/VarHandle" ∧ (parseMethodDescriptor yX6_harmAround.desc).map (fun d => d.parameters.length) = some 2 := by decide +kernel
theorem kw_1259 : GoodIn tb (wsV RX6 50 RX6 yX6_harmOf (Cond.code yX6_harmOf cX6_harmOf 3 (some .int) :: tb)) := gd_V wd_1259 wd_1261 wd_47 wd_137 wd_1262
theorem kd_yX6_harmOf : yX6_harmOf.cls = RX6 ∧ yX6_harmOf.cls ≠ "java/lang/invoke/MethodHandle" ∧ yX6_harmOf.cls ≠ "java/lang/invoke/VarHandle" ∧ (parseMethodDescriptor yX6_harmOf.desc).map (fun d => d.parameters.length) = some 2 := by decide +kernel
theorem kw_1263 : GoodIn tb (wsV RX6 54 RX2 yX2_trait (Cond.code yX2_trait cX2_trait 3 (some .int) :: tb)) := gd_V wd_1263 wd_896 wd_897 wd_130 wd_898
theorem kw_1264 : GoodIn tb (wsV RL 133 RX11 yX11_bestMending (Cond.code yX11_bestMending cX11_bestMending 6 (some .int) :: tb)) := gd_V wd_1264 wd_1265 wd_1266 wd_129 wd_1267
theorem kd_yX11_bestMending : yX11_bestMending.cls = RX11 ∧ yX11_bestMending.cls ≠ "java/lang/invoke/MethodHandle" ∧ yX11_bestMending.cls ≠ "java/lang/invoke/VarHandle" ∧ (parseMethodDescriptor yX11_bestMending.desc).map (fun d => d.parameters.length) = some 0 := by decide +kernel
theorem kw_1268 : GoodIn tb (wsV RX11 345 RX2 yX2_setFaults (Cond.code yX2_setFaults cX2_setFaults 3 none :: tb)) := gd_V wd_1268 wd_1043 wd_1044 wd_130 wd_1045
theorem kw_1269 : GoodIn tb (wsV RL 137 RX11 yX11_thisMap (Cond.code yX11_thisMap cX11_thisMap 3 (some .int) :: tb)) := gd_V wd_1269 wd_1270 wd_1271 wd_129 wd_1272
theorem kd_yX11_thisMap : yX11_thisMap.cls = RX11 ∧ yX11_thisMap.cls ≠ "java/lang/invoke/MethodHandle" ∧ yX11_thisMap.cls ≠ "java/lang/invoke/VarHandle" ∧ (parseMethodDescriptor yX11_thisMap.desc).map (fun d => d.parameters.length) = some 0 := by decide +kernel
theorem kw_1273 : GoodIn tb (wsV RX11 349 RX5 yX5_numberOf (Cond.code yX5_numberOf cX5_numberOf 6 (some .int) :: tb)) := gd_V wd_1273 wd_1274 wd_1275 wd_135 wd_1276
theorem kd_yX5_numberOf : yX5_numberOf.cls = RX5 ∧ yX5_numberOf.cls ≠ "java/lang/invoke/MethodHandle" ∧ yX5_numberOf.cls ≠ "java/lang/invoke/VarHandle" ∧ (parseMethodDescriptor yX5_numberOf.desc).map (fun d => d.parameters.length) = some 1 := by decide +kernel
theorem kw_1277 : GoodIn tb (wsV RL 141 RX11 yX11_harm (Cond.code yX11_harm cX11_harm 1 (some .int) :: tb)) := gd_V wd_1277 wd_1278 wd_1279 wd_129 wd_1280
theorem kd_yX11_harm : yX11_harm.cls = RX11 ∧ yX11_harm.cls ≠ "java/lang/invoke/MethodHandle" ∧ yX11_harm.cls ≠ "java/lang/invoke/VarHandle" ∧ (parseMethodDescriptor yX11_harm.desc).map (fun d => d.parameters.length) = some 0 := by decide +kernel
theorem kw_1281 : GoodIn tb (wsV RX11 352 RX6 yX6_harmNow (Cond.code yX6_harmNow cX6_harmNow 4 (some .int) :: tb)) := gd_V wd_1281 wd_1282 wd_1283 wd_137 wd_1284
theorem kd_yX6_harmNow : yX6_harmNow.cls = RX6 ∧ yX6_harmNow.cls ≠ "java/lang/invoke/MethodHandle" ∧ yX6_harmNow.cls ≠ "java/lang/invoke/VarHandle" ∧ (parseMethodDescriptor yX6_harmNow.desc).map (fun d => d.parameters.length) = some 0 := by decide +kernel
theorem kw_1285 : GoodIn tb (wsV RX6 47 RX2 yX2_dwellerOf (Cond.code yX2_dwellerOf cX2_dwellerOf 3 (some .int) :: tb)) := gd_V wd_1285 wd_814 wd_815 wd_130 wd_816
theorem kw_1286 : GoodIn tb (wsV RL 145 RX11 yX11_envies (Cond.code yX11_envies cX11_envies 4 (some .int) :: tb)) := gd_V wd_1286 wd_1287 wd_1288 wd_129 wd_1289
theorem kd_yX11_envies : yX11_envies.cls = RX11 ∧ yX11_envies.cls ≠ "java/lang/invoke/MethodHandle" ∧ yX11_envies.cls ≠ "java/lang/invoke/VarHandle" ∧ (parseMethodDescriptor yX11_envies.desc).map (fun d => d.parameters.length) = some 1 := by decide +kernel
theorem kw_1290 : GoodIn tb (wsV RX11 355 RX9 yX9_isEnvious (Cond.code yX9_isEnvious cX9_isEnvious 5 (some .boolean) :: tb)) := gd_V wd_1290 wd_1291 wd_1292 wd_134 wd_1293
theorem kd_yX9_isEnvious : yX9_isEnvious.cls = RX9 ∧ yX9_isEnvious.cls ≠ "java/lang/invoke/MethodHandle" ∧ yX9_isEnvious.cls ≠ "java/lang/invoke/VarHandle" ∧ (parseMethodDescriptor yX9_isEnvious.desc).map (fun d => d.parameters.length) = some 2 := by decide +kernel
theorem kw_1294 : GoodIn tb (wsV RX9 74 RX9 yX9_permits (Cond.code yX9_permits cX9_permits 3 (some .boolean) :: tb)) := gd_V wd_1294 wd_937 wd_938 wd_134 wd_939
theorem kw_1295 : GoodIn tb (wsV RL 149 RX11 yX11_wouldSwap (Cond.code yX11_wouldSwap cX11_wouldSwap 3 (some .int) :: tb)) := gd_V wd_1295 wd_1296 wd_1297 wd_129 wd_1298
theorem kd_yX11_wouldSwap : yX11_wouldSwap.cls = RX11 ∧ yX11_wouldSwap.cls ≠ "java/lang/invoke/MethodHandle" ∧ yX11_wouldSwap.cls ≠ "java/lang/invoke/VarHandle" ∧ (parseMethodDescriptor yX11_wouldSwap.desc).map (fun d => d.parameters.length) = some 0 := by decide +kernel
theorem kw_1299 : GoodIn tb (wsV RL 153 RX11 yX11_byRings (Cond.code yX11_byRings cX11_byRings 2 (some .int) :: tb)) := gd_V wd_1299 wd_1300 wd_1301 wd_129 wd_1302
theorem kd_yX11_byRings : yX11_byRings.cls = RX11 ∧ yX11_byRings.cls ≠ "java/lang/invoke/MethodHandle" ∧ yX11_byRings.cls ≠ "java/lang/invoke/VarHandle" ∧ (parseMethodDescriptor yX11_byRings.desc).map (fun d => d.parameters.length) = some 1 := by decide +kernel
theorem kw_1303 : GoodIn tb (wsV RX11 358 RX8 yX8_turn (Cond.code yX8_turn cX8_turn 4 none :: tb)) := gd_V wd_1303 wd_998 wd_999 wd_136 wd_1000
theorem kw_1304 : GoodIn tb (wsV RL 157 RX11 yX11_ringsMany (Cond.code yX11_ringsMany cX11_ringsMany 1 (some .int) :: tb)) := gd_V wd_1304 wd_1305 wd_1306 wd_129 wd_1307
theorem kd_yX11_ringsMany : yX11_ringsMany.cls = RX11 ∧ yX11_ringsMany.cls ≠ "java/lang/invoke/MethodHandle" ∧ yX11_ringsMany.cls ≠ "java/lang/invoke/VarHandle" ∧ (parseMethodDescriptor yX11_ringsMany.desc).map (fun d => d.parameters.length) = some 0 := by decide +kernel
theorem kw_1308 : GoodIn tb (wsV RL 161 RX11 yX11_moving (Cond.code yX11_moving cX11_moving 4 (some .int) :: tb)) := gd_V wd_1308 wd_1309 wd_1310 wd_129 wd_1311
theorem kd_yX11_moving : yX11_moving.cls = RX11 ∧ yX11_moving.cls ≠ "java/lang/invoke/MethodHandle" ∧ yX11_moving.cls ≠ "java/lang/invoke/VarHandle" ∧ (parseMethodDescriptor yX11_moving.desc).map (fun d => d.parameters.length) = some 2 := by decide +kernel
theorem kw_1313 : GoodIn tb (wsV RX11 368 RX3 yX3_cheapest (Cond.code yX3_cheapest cX3_cheapest 6 (some .int) :: tb)) := gd_V wd_1313 wd_1314 wd_1315 wd_138 wd_1316
theorem kd_yX3_cheapest : yX3_cheapest.cls = RX3 ∧ yX3_cheapest.cls ≠ "java/lang/invoke/MethodHandle" ∧ yX3_cheapest.cls ≠ "java/lang/invoke/VarHandle" ∧ (parseMethodDescriptor yX3_cheapest.desc).map (fun d => d.parameters.length) = some 2 := by decide +kernel
theorem kw_1317 : GoodIn tb (wsV RX3 44 RX3 yX3_gather (Cond.code yX3_gather cX3_gather 5 (some .int) :: tb)) := gd_V wd_1317 wd_1319 wd_48 wd_138 wd_1320
theorem kd_yX3_gather : yX3_gather.cls = RX3 ∧ yX3_gather.cls ≠ "java/lang/invoke/MethodHandle" ∧ yX3_gather.cls ≠ "java/lang/invoke/VarHandle" ∧ (parseMethodDescriptor yX3_gather.desc).map (fun d => d.parameters.length) = some 1 := by decide +kernel
theorem kw_1321 : GoodIn tb (wsV RX3 83 RX2 yX2_feature (Cond.code yX2_feature cX2_feature 3 (some .int) :: tb)) := gd_V wd_1321 wd_794 wd_795 wd_130 wd_796
theorem kw_1322 : GoodIn tb (wsV RX3 86 RX2 yX2_dwellerOf (Cond.code yX2_dwellerOf cX2_dwellerOf 3 (some .int) :: tb)) := gd_V wd_1322 wd_814 wd_815 wd_130 wd_816
theorem kw_1323 : GoodIn tb (wsV RX3 89 RX3 yX3_moverOf (Cond.code yX3_moverOf cX3_moverOf 3 (some .int) :: tb)) := gd_V wd_1323 wd_1325 wd_49 wd_138 wd_1326
theorem kd_yX3_moverOf : yX3_moverOf.cls = RX3 ∧ yX3_moverOf.cls ≠ "java/lang/invoke/MethodHandle" ∧ yX3_moverOf.cls ≠ "java/lang/invoke/VarHandle" ∧ (parseMethodDescriptor yX3_moverOf.desc).map (fun d => d.parameters.length) = some 1 := by decide +kernel
theorem kw_1327 : GoodIn tb (wsV RX3 48 RX3 yX3_floorsToGo (Cond.code yX3_floorsToGo cX3_floorsToGo 6 (some .int) :: tb)) := gd_V wd_1327 wd_1329 wd_50 wd_138 wd_1330
theorem kd_yX3_floorsToGo : yX3_floorsToGo.cls = RX3 ∧ yX3_floorsToGo.cls ≠ "java/lang/invoke/MethodHandle" ∧ yX3_floorsToGo.cls ≠ "java/lang/invoke/VarHandle" ∧ (parseMethodDescriptor yX3_floorsToGo.desc).map (fun d => d.parameters.length) = some 1 := by decide +kernel
theorem kw_1331 : GoodIn tb (wsV RX3 92 RX3 yX3_floorOf (Cond.code yX3_floorOf cX3_floorOf 2 (some .int) :: tb)) := gd_V wd_1331 wd_1333 wd_51 wd_138 wd_1334
theorem kd_yX3_floorOf : yX3_floorOf.cls = RX3 ∧ yX3_floorOf.cls ≠ "java/lang/invoke/MethodHandle" ∧ yX3_floorOf.cls ≠ "java/lang/invoke/VarHandle" ∧ (parseMethodDescriptor yX3_floorOf.desc).map (fun d => d.parameters.length) = some 1 := by decide +kernel
theorem kw_1337 : GoodIn tb (va_wsS RX3 53 yJ7_fill_fda19 (Cond.code yJ7_fill_fda19 cJ7_fill_fda19 5 none :: tb)) := gd_S wd_1337 wd_1338 wd_132 wd_1339
theorem kd_yJ7_fill_fda19 : yJ7_fill_fda19.cls ≠ "java/lang/invoke/MethodHandle" ∧ yJ7_fill_fda19.cls ≠ "java/lang/invoke/VarHandle" ∧ (parseMethodDescriptor yJ7_fill_fda19.desc).map (fun d => d.parameters.length) = some 4 := by decide +kernel
theorem kw_1340 : GoodIn tb (va_wsS RJ7 13 yJ7_rangeCheck_23922 (Cond.code yJ7_rangeCheck_23922 cJ7_rangeCheck_23922 3 none :: tb)) := gd_S wd_1340 wd_1341 wd_132 wd_1342
theorem kd_yJ7_rangeCheck_23922 : yJ7_rangeCheck_23922.cls ≠ "java/lang/invoke/MethodHandle" ∧ yJ7_rangeCheck_23922.cls ≠ "java/lang/invoke/VarHandle" ∧ (parseMethodDescriptor yJ7_rangeCheck_23922.desc).map (fun d => d.parameters.length) = some 3 := by decide +kernel
theorem kw_1343 : GoodIn tb (wsV RX3 59 RX3 yX3_expand (Cond.code yX3_expand cX3_expand 6 none :: tb)) := gd_V wd_1343 wd_1345 wd_52 wd_138 wd_1346
theorem kd_yX3_expand : yX3_expand.cls = RX3 ∧ yX3_expand.cls ≠ "java/lang/invoke/MethodHandle" ∧ yX3_expand.cls ≠ "java/lang/invoke/VarHandle" ∧ (parseMethodDescriptor yX3_expand.desc).map (fun d => d.parameters.length) = some 2 := by decide +kernel
theorem kw_1347 : GoodIn tb (wsV RX3 98 RX3 yX3_ride (Cond.code yX3_ride cX3_ride 8 none :: tb)) := gd_V wd_1347 wd_1349 wd_53 wd_138 wd_1350
theorem kd_yX3_ride : yX3_ride.cls = RX3 ∧ yX3_ride.cls ≠ "java/lang/invoke/MethodHandle" ∧ yX3_ride.cls ≠ "java/lang/invoke/VarHandle" ∧ (parseMethodDescriptor yX3_ride.desc).map (fun d => d.parameters.length) = some 3 := by decide +kernel
theorem kw_1351 : GoodIn tb (wsV RX3 102 RX3 yX3_arrive (Cond.code yX3_arrive cX3_arrive 5 none :: tb)) := gd_V wd_1351 wd_1353 wd_54 wd_138 wd_1354
theorem kd_yX3_arrive : yX3_arrive.cls = RX3 ∧ yX3_arrive.cls ≠ "java/lang/invoke/MethodHandle" ∧ yX3_arrive.cls ≠ "java/lang/invoke/VarHandle" ∧ (parseMethodDescriptor yX3_arrive.desc).map (fun d => d.parameters.length) = some 3 := by decide +kernel
theorem kw_1356 : GoodIn tb (wsV RL 165 RX11 yX11_nearest (Cond.code yX11_nearest cX11_nearest 2 (some .int) :: tb)) := gd_V wd_1356 wd_1357 wd_1358 wd_129 wd_1359
theorem kd_yX11_nearest : yX11_nearest.cls = RX11 ∧ yX11_nearest.cls ≠ "java/lang/invoke/MethodHandle" ∧ yX11_nearest.cls ≠ "java/lang/invoke/VarHandle" ∧ (parseMethodDescriptor yX11_nearest.desc).map (fun d => d.parameters.length) = some 0 := by decide +kernel
theorem kw_1360 : GoodIn tb (wsV RX11 375 RX11 yX11_seekNearest (Cond.code yX11_seekNearest cX11_seekNearest 6 (some .int) :: tb)) := gd_V wd_1360 wd_1362 wd_55 wd_129 wd_1363
theorem kd_yX11_seekNearest : yX11_seekNearest.cls = RX11 ∧ yX11_seekNearest.cls ≠ "java/lang/invoke/MethodHandle" ∧ yX11_seekNearest.cls ≠ "java/lang/invoke/VarHandle" ∧ (parseMethodDescriptor yX11_seekNearest.desc).map (fun d => d.parameters.length) = some 1 := by decide +kernel
theorem kw_1364 : GoodIn tb (wsV RL 169 RX11 yX11_seen (Cond.code yX11_seen cX11_seen 3 (some .int) :: tb)) := gd_V wd_1364 wd_1365 wd_1366 wd_129 wd_1367
theorem kd_yX11_seen : yX11_seen.cls = RX11 ∧ yX11_seen.cls ≠ "java/lang/invoke/MethodHandle" ∧ yX11_seen.cls ≠ "java/lang/invoke/VarHandle" ∧ (parseMethodDescriptor yX11_seen.desc).map (fun d => d.parameters.length) = some 1 := by decide +kernel
theorem kw_1368 : GoodIn tb (wsV RX11 378 RX11 yX11_seenCode (Cond.code yX11_seenCode cX11_seenCode 6 (some .int) :: tb)) := gd_V wd_1368 wd_1370 wd_56 wd_129 wd_1371
theorem kd_yX11_seenCode : yX11_seenCode.cls = RX11 ∧ yX11_seenCode.cls ≠ "java/lang/invoke/MethodHandle" ∧ yX11_seenCode.cls ≠ "java/lang/invoke/VarHandle" ∧ (parseMethodDescriptor yX11_seenCode.desc).map (fun d => d.parameters.length) = some 1 := by decide +kernel
theorem kw_1374 : GoodIn tb (wsV RX11 381 RX11 yX11_tallySeen (Cond.code yX11_tallySeen cX11_tallySeen 6 (some .int) :: tb)) := gd_V wd_1374 wd_1376 wd_57 wd_129 wd_1377
theorem kd_yX11_tallySeen : yX11_tallySeen.cls = RX11 ∧ yX11_tallySeen.cls ≠ "java/lang/invoke/MethodHandle" ∧ yX11_tallySeen.cls ≠ "java/lang/invoke/VarHandle" ∧ (parseMethodDescriptor yX11_tallySeen.desc).map (fun d => d.parameters.length) = some 1 := by decide +kernel
theorem kw_1378 : GoodIn tb (wsV RL 173 RX11 yX11_had (Cond.code yX11_had cX11_had 6 (some .int) :: tb)) := gd_V wd_1378 wd_1379 wd_1380 wd_129 wd_1381
theorem kd_yX11_had : yX11_had.cls = RX11 ∧ yX11_had.cls ≠ "java/lang/invoke/MethodHandle" ∧ yX11_had.cls ≠ "java/lang/invoke/VarHandle" ∧ (parseMethodDescriptor yX11_had.desc).map (fun d => d.parameters.length) = some 2 := by decide +kernel
theorem kw_1382 : GoodIn tb (wsV RL 177 RX11 yX11_wall (Cond.code yX11_wall cX11_wall 8 (some .int) :: tb)) := gd_V wd_1382 wd_1383 wd_1384 wd_129 wd_1385
theorem kd_yX11_wall : yX11_wall.cls = RX11 ∧ yX11_wall.cls ≠ "java/lang/invoke/MethodHandle" ∧ yX11_wall.cls ≠ "java/lang/invoke/VarHandle" ∧ (parseMethodDescriptor yX11_wall.desc).map (fun d => d.parameters.length) = some 1 := by decide +kernel
theorem kw_1386 : GoodIn tb (wsV RX11 384 RX11 yX11_mostFrequent (Cond.code yX11_mostFrequent cX11_mostFrequent 7 (some .int) :: tb)) := gd_V wd_1386 wd_1388 wd_58 wd_129 wd_1389
theorem kd_yX11_mostFrequent : yX11_mostFrequent.cls = RX11 ∧ yX11_mostFrequent.cls ≠ "java/lang/invoke/MethodHandle" ∧ yX11_mostFrequent.cls ≠ "java/lang/invoke/VarHandle" ∧ (parseMethodDescriptor yX11_mostFrequent.desc).map (fun d => d.parameters.length) = some 2 := by decide +kernel
theorem kw_1391 : GoodIn tb (wsV RL 181 RX11 yX11_numbers (Cond.code yX11_numbers cX11_numbers 4 (some .int) :: tb)) := gd_V wd_1391 wd_1392 wd_1393 wd_129 wd_1394
theorem kd_yX11_numbers : yX11_numbers.cls = RX11 ∧ yX11_numbers.cls ≠ "java/lang/invoke/MethodHandle" ∧ yX11_numbers.cls ≠ "java/lang/invoke/VarHandle" ∧ (parseMethodDescriptor yX11_numbers.desc).map (fun d => d.parameters.length) = some 3 := by decide +kernel
theorem kw_1395 : GoodIn tb (wsV RX11 399 RX10 yX10_lay (Cond.code yX10_lay cX10_lay 3 none :: tb)) := gd_V wd_1395 wd_1396 wd_1397 wd_141 wd_1398
theorem kd_yX10_lay : yX10_lay.cls = RX10 ∧ yX10_lay.cls ≠ "java/lang/invoke/MethodHandle" ∧ yX10_lay.cls ≠ "java/lang/invoke/VarHandle" ∧ (parseMethodDescriptor yX10_lay.desc).map (fun d => d.parameters.length) = some 2 := by decide +kernel
theorem kw_1399 : GoodIn tb (va_wsS RX10 22 yJ7_fill_d0a16 (Cond.code yJ7_fill_d0a16 cJ7_fill_d0a16 5 none :: tb)) := gd_S wd_1399 wd_1400 wd_132 wd_1401
theorem kd_yJ7_fill_d0a16 : yJ7_fill_d0a16.cls ≠ "java/lang/invoke/MethodHandle" ∧ yJ7_fill_d0a16.cls ≠ "java/lang/invoke/VarHandle" ∧ (parseMethodDescriptor yJ7_fill_d0a16.desc).map (fun d => d.parameters.length) = some 2 := by decide +kernel
theorem kw_1402 : GoodIn tb (wsV RL 188 RX11 yX11_write (Cond.code yX11_write cX11_write 6 (some .long) :: tb)) := gd_V wd_1402 wd_1403 wd_1404 wd_129 wd_1405
theorem kd_yX11_write : yX11_write.cls = RX11 ∧ yX11_write.cls ≠ "java/lang/invoke/MethodHandle" ∧ yX11_write.cls ≠ "java/lang/invoke/VarHandle" ∧ (parseMethodDescriptor yX11_write.desc).map (fun d => d.parameters.length) = some 3 := by decide +kernel
theorem kw_1407 : GoodIn tb (wsV RX11 404 RX10 yX10_put (Cond.code yX10_put cX10_put 4 none :: tb)) := gd_V wd_1407 wd_1408 wd_1409 wd_141 wd_1410
theorem kd_yX10_put : yX10_put.cls = RX10 ∧ yX10_put.cls ≠ "java/lang/invoke/MethodHandle" ∧ yX10_put.cls ≠ "java/lang/invoke/VarHandle" ∧ (parseMethodDescriptor yX10_put.desc).map (fun d => d.parameters.length) = some 2 := by decide +kernel
theorem kw_1411 : GoodIn tb (wsV RL 193 RX11 yX11_lists (Cond.code yX11_lists cX11_lists 6 (some .int) :: tb)) := gd_V wd_1411 wd_1412 wd_1413 wd_129 wd_1414
theorem kd_yX11_lists : yX11_lists.cls = RX11 ∧ yX11_lists.cls ≠ "java/lang/invoke/MethodHandle" ∧ yX11_lists.cls ≠ "java/lang/invoke/VarHandle" ∧ (parseMethodDescriptor yX11_lists.desc).map (fun d => d.parameters.length) = some 1 := by decide +kernel
theorem kw_1416 : GoodIn tb (wsV RL 197 RX11 yX11_image (Cond.code yX11_image cX11_image 2 (some .int) :: tb)) := gd_V wd_1416 wd_1417 wd_1418 wd_129 wd_1419
theorem kd_yX11_image : yX11_image.cls = RX11 ∧ yX11_image.cls ≠ "java/lang/invoke/MethodHandle" ∧ yX11_image.cls ≠ "java/lang/invoke/VarHandle" ∧ (parseMethodDescriptor yX11_image.desc).map (fun d => d.parameters.length) = some 1 := by decide +kernel
theorem kw_1420 : GoodIn tb (wsV RL 201 RX11 yX11_restore (Cond.code yX11_restore cX11_restore 2 (some .int) :: tb)) := gd_V wd_1420 wd_1421 wd_1422 wd_129 wd_1423
theorem kd_yX11_restore : yX11_restore.cls = RX11 ∧ yX11_restore.cls ≠ "java/lang/invoke/MethodHandle" ∧ yX11_restore.cls ≠ "java/lang/invoke/VarHandle" ∧ (parseMethodDescriptor yX11_restore.desc).map (fun d => d.parameters.length) = some 1 := by decide +kernel
theorem kw_1424 : GoodIn tb (wsV RL 205 RX11 yX11_count (Cond.code yX11_count cX11_count 2 (some .int) :: tb)) := gd_V wd_1424 wd_1425 wd_1426 wd_129 wd_1427
theorem kd_yX11_count : yX11_count.cls = RX11 ∧ yX11_count.cls ≠ "java/lang/invoke/MethodHandle" ∧ yX11_count.cls ≠ "java/lang/invoke/VarHandle" ∧ (parseMethodDescriptor yX11_count.desc).map (fun d => d.parameters.length) = some 1 := by decide +kernel
theorem kw_1428 : GoodIn tb (wsV RX11 411 RX2 yX2_faultsOfAll (Cond.code yX2_faultsOfAll cX2_faultsOfAll 3 (some .int) :: tb)) := gd_V wd_1428 wd_1429 wd_1430 wd_130 wd_1431
theorem kd_yX2_faultsOfAll : yX2_faultsOfAll.cls = RX2 ∧ yX2_faultsOfAll.cls ≠ "java/lang/invoke/MethodHandle" ∧ yX2_faultsOfAll.cls ≠ "java/lang/invoke/VarHandle" ∧ (parseMethodDescriptor yX2_faultsOfAll.desc).map (fun d => d.parameters.length) = some 0 := by decide +kernel
theorem kd_yX12_init : yX12_init.cls ≠ "java/lang/invoke/MethodHandle" ∧ yX12_init.cls ≠ "java/lang/invoke/VarHandle" ∧ (parseMethodDescriptor yX12_init.desc).map (fun d => d.parameters.length) = some 0 := by decide +kernel
theorem kw_1439 : GoodIn tb (va_wsS RX12 68 yX12_plain (Cond.code yX12_plain cX12_plain 2 none :: tb)) := gd_S wd_1439 wd_1440 wd_142 wd_1441
theorem kd_yX12_plain : yX12_plain.cls ≠ "java/lang/invoke/MethodHandle" ∧ yX12_plain.cls ≠ "java/lang/invoke/VarHandle" ∧ (parseMethodDescriptor yX12_plain.desc).map (fun d => d.parameters.length) = some 1 := by decide +kernel
theorem kw_1537 : GoodIn tb (wsV RL 17 RX12 yX12_feed (Cond.code yX12_feed cX12_feed 8 (some .int) :: tb)) := gd_V wd_1537 wd_1538 wd_1539 wd_142 wd_1540
theorem kd_yX12_feed : yX12_feed.cls = RX12 ∧ yX12_feed.cls ≠ "java/lang/invoke/MethodHandle" ∧ yX12_feed.cls ≠ "java/lang/invoke/VarHandle" ∧ (parseMethodDescriptor yX12_feed.desc).map (fun d => d.parameters.length) = some 5 := by decide +kernel
theorem kw_1541 : GoodIn tb (wsV RL 22 RX12 yX12_tower (Cond.code yX12_tower cX12_tower 3 (some .int) :: tb)) := gd_V wd_1541 wd_1542 wd_1543 wd_142 wd_1544
theorem kd_yX12_tower : yX12_tower.cls = RX12 ∧ yX12_tower.cls ≠ "java/lang/invoke/MethodHandle" ∧ yX12_tower.cls ≠ "java/lang/invoke/VarHandle" ∧ (parseMethodDescriptor yX12_tower.desc).map (fun d => d.parameters.length) = some 1 := by decide +kernel
theorem kw_1545 : GoodIn tb (va_wsS RX12 134 yX12_within (Cond.code yX12_within cX12_within 6 (some .boolean) :: tb)) := gd_S wd_1545 wd_1546 wd_142 wd_1547
theorem kd_yX12_within : yX12_within.cls ≠ "java/lang/invoke/MethodHandle" ∧ yX12_within.cls ≠ "java/lang/invoke/VarHandle" ∧ (parseMethodDescriptor yX12_within.desc).map (fun d => d.parameters.length) = some 3 := by decide +kernel
theorem kw_1548 : GoodIn tb (wsV RX12 127 RX12 yX12_next (Cond.code yX12_next cX12_next 2 none :: tb)) := gd_V wd_1548 wd_1550 wd_59 wd_142 wd_1551
theorem kd_yX12_next : yX12_next.cls = RX12 ∧ yX12_next.cls ≠ "java/lang/invoke/MethodHandle" ∧ yX12_next.cls ≠ "java/lang/invoke/VarHandle" ∧ (parseMethodDescriptor yX12_next.desc).map (fun d => d.parameters.length) = some 0 := by decide +kernel
theorem kw_1552 : GoodIn tb (wsV RX12 96 RX12 yX12_see (Cond.code yX12_see cX12_see 2 (some .int) :: tb)) := gd_V wd_1552 wd_1554 wd_60 wd_142 wd_1555
theorem kd_yX12_see : yX12_see.cls = RX12 ∧ yX12_see.cls ≠ "java/lang/invoke/MethodHandle" ∧ yX12_see.cls ≠ "java/lang/invoke/VarHandle" ∧ (parseMethodDescriptor yX12_see.desc).map (fun d => d.parameters.length) = some 1 := by decide +kernel
theorem kw_1556 : GoodIn tb (va_wsS RX12 103 yX12_isSmall (Cond.code yX12_isSmall cX12_isSmall 1 (some .boolean) :: tb)) := gd_S wd_1556 wd_1557 wd_142 wd_1558
theorem kd_yX12_isSmall : yX12_isSmall.cls ≠ "java/lang/invoke/MethodHandle" ∧ yX12_isSmall.cls ≠ "java/lang/invoke/VarHandle" ∧ (parseMethodDescriptor yX12_isSmall.desc).map (fun d => d.parameters.length) = some 1 := by decide +kernel
theorem kw_1559 : GoodIn tb (wsV RX12 107 RX12 yX12_keyAt (Cond.code yX12_keyAt cX12_keyAt 4 (some .int) :: tb)) := gd_V wd_1559 wd_1561 wd_61 wd_142 wd_1562
theorem kd_yX12_keyAt : yX12_keyAt.cls = RX12 ∧ yX12_keyAt.cls ≠ "java/lang/invoke/MethodHandle" ∧ yX12_keyAt.cls ≠ "java/lang/invoke/VarHandle" ∧ (parseMethodDescriptor yX12_keyAt.desc).map (fun d => d.parameters.length) = some 0 := by decide +kernel
theorem kw_1566 : GoodIn tb (va_wsS RX12 110 yX12_isDigit (Cond.code yX12_isDigit cX12_isDigit 1 (some .boolean) :: tb)) := gd_S wd_1566 wd_1567 wd_142 wd_1568
theorem kd_yX12_isDigit : yX12_isDigit.cls ≠ "java/lang/invoke/MethodHandle" ∧ yX12_isDigit.cls ≠ "java/lang/invoke/VarHandle" ∧ (parseMethodDescriptor yX12_isDigit.desc).map (fun d => d.parameters.length) = some 1 := by decide +kernel
theorem kw_1570 : GoodIn tb (wsV RX12 192 RX12 yX12_readLine (Cond.code yX12_readLine cX12_readLine 2 none :: tb)) := gd_V wd_1570 wd_1572 wd_62 wd_142 wd_1573
theorem kd_yX12_readLine : yX12_readLine.cls = RX12 ∧ yX12_readLine.cls ≠ "java/lang/invoke/MethodHandle" ∧ yX12_readLine.cls ≠ "java/lang/invoke/VarHandle" ∧ (parseMethodDescriptor yX12_readLine.desc).map (fun d => d.parameters.length) = some 0 := by decide +kernel
theorem kw_1574 : GoodIn tb (wsV RX12 124 RX12 yX12_is (Cond.code yX12_is cX12_is 2 (some .boolean) :: tb)) := gd_V wd_1574 wd_1576 wd_63 wd_142 wd_1577
theorem kd_yX12_is : yX12_is.cls = RX12 ∧ yX12_is.cls ≠ "java/lang/invoke/MethodHandle" ∧ yX12_is.cls ≠ "java/lang/invoke/VarHandle" ∧ (parseMethodDescriptor yX12_is.desc).map (fun d => d.parameters.length) = some 1 := by decide +kernel
theorem kw_1578 : GoodIn tb (wsV RX12 180 RX12 yX12_readFlat (Cond.code yX12_readFlat cX12_readFlat 5 none :: tb)) := gd_V wd_1578 wd_1580 wd_64 wd_142 wd_1581
theorem kd_yX12_readFlat : yX12_readFlat.cls = RX12 ∧ yX12_readFlat.cls ≠ "java/lang/invoke/MethodHandle" ∧ yX12_readFlat.cls ≠ "java/lang/invoke/VarHandle" ∧ (parseMethodDescriptor yX12_readFlat.desc).map (fun d => d.parameters.length) = some 0 := by decide +kernel
theorem kw_1582 : GoodIn tb (wsV RX12 130 RX12 yX12_fails (Cond.code yX12_fails cX12_fails 2 none :: tb)) := gd_V wd_1582 wd_1584 wd_65 wd_142 wd_1585
theorem kd_yX12_fails : yX12_fails.cls = RX12 ∧ yX12_fails.cls ≠ "java/lang/invoke/MethodHandle" ∧ yX12_fails.cls ≠ "java/lang/invoke/VarHandle" ∧ (parseMethodDescriptor yX12_fails.desc).map (fun d => d.parameters.length) = some 1 := by decide +kernel
theorem kw_1586 : GoodIn tb (wsV RX12 169 RX12 yX12_takes (Cond.code yX12_takes cX12_takes 4 (some .int) :: tb)) := gd_V wd_1586 wd_1588 wd_66 wd_142 wd_1589
theorem kd_yX12_takes : yX12_takes.cls = RX12 ∧ yX12_takes.cls ≠ "java/lang/invoke/MethodHandle" ∧ yX12_takes.cls ≠ "java/lang/invoke/VarHandle" ∧ (parseMethodDescriptor yX12_takes.desc).map (fun d => d.parameters.length) = some 2 := by decide +kernel
theorem kw_1590 : GoodIn tb (wsV RX12 151 RX12 yX12_eats (Cond.code yX12_eats cX12_eats 2 (some .boolean) :: tb)) := gd_V wd_1590 wd_1592 wd_67 wd_142 wd_1593
theorem kd_yX12_eats : yX12_eats.cls = RX12 ∧ yX12_eats.cls ≠ "java/lang/invoke/MethodHandle" ∧ yX12_eats.cls ≠ "java/lang/invoke/VarHandle" ∧ (parseMethodDescriptor yX12_eats.desc).map (fun d => d.parameters.length) = some 1 := by decide +kernel
theorem kw_1594 : GoodIn tb (wsV RX12 173 RX12 yX12_readFlag (Cond.code yX12_readFlag cX12_readFlag 2 (some .boolean) :: tb)) := gd_V wd_1594 wd_1596 wd_68 wd_142 wd_1597
theorem kd_yX12_readFlag : yX12_readFlag.cls = RX12 ∧ yX12_readFlag.cls ≠ "java/lang/invoke/MethodHandle" ∧ yX12_readFlag.cls ≠ "java/lang/invoke/VarHandle" ∧ (parseMethodDescriptor yX12_readFlag.desc).map (fun d => d.parameters.length) = some 1 := by decide +kernel
theorem kw_1598 : GoodIn tb (wsV RX12 183 RX12 yX12_readHousehold (Cond.code yX12_readHousehold cX12_readHousehold 3 none :: tb)) := gd_V wd_1598 wd_1600 wd_69 wd_142 wd_1601
theorem kd_yX12_readHousehold : yX12_readHousehold.cls = RX12 ∧ yX12_readHousehold.cls ≠ "java/lang/invoke/MethodHandle" ∧ yX12_readHousehold.cls ≠ "java/lang/invoke/VarHandle" ∧ (parseMethodDescriptor yX12_readHousehold.desc).map (fun d => d.parameters.length) = some 0 := by decide +kernel
theorem kw_1604 : GoodIn tb (wsV RX12 186 RX12 yX12_readLives (Cond.code yX12_readLives cX12_readLives 3 none :: tb)) := gd_V wd_1604 wd_1606 wd_70 wd_142 wd_1607
theorem kd_yX12_readLives : yX12_readLives.cls = RX12 ∧ yX12_readLives.cls ≠ "java/lang/invoke/MethodHandle" ∧ yX12_readLives.cls ≠ "java/lang/invoke/VarHandle" ∧ (parseMethodDescriptor yX12_readLives.desc).map (fun d => d.parameters.length) = some 0 := by decide +kernel
theorem kw_1608 : GoodIn tb (wsV RX12 189 RX12 yX12_readLaw (Cond.code yX12_readLaw cX12_readLaw 3 none :: tb)) := gd_V wd_1608 wd_1610 wd_71 wd_142 wd_1611
theorem kd_yX12_readLaw : yX12_readLaw.cls = RX12 ∧ yX12_readLaw.cls ≠ "java/lang/invoke/MethodHandle" ∧ yX12_readLaw.cls ≠ "java/lang/invoke/VarHandle" ∧ (parseMethodDescriptor yX12_readLaw.desc).map (fun d => d.parameters.length) = some 1 := by decide +kernel
theorem kw_1612 : GoodIn tb (wsV RX12 148 RX12 yX12_readSum (Cond.code yX12_readSum cX12_readSum 3 none :: tb)) := gd_V wd_1612 wd_1614 wd_72 wd_142 wd_1615
theorem kd_yX12_readSum : yX12_readSum.cls = RX12 ∧ yX12_readSum.cls ≠ "java/lang/invoke/MethodHandle" ∧ yX12_readSum.cls ≠ "java/lang/invoke/VarHandle" ∧ (parseMethodDescriptor yX12_readSum.desc).map (fun d => d.parameters.length) = some 1 := by decide +kernel
theorem kw_1616 : GoodIn tb (wsV RX12 157 RX12 yX12_readTerm (Cond.code yX12_readTerm cX12_readTerm 2 none :: tb)) := gd_V wd_1616 wd_1618 wd_73 wd_142 wd_1619
theorem kd_yX12_readTerm : yX12_readTerm.cls = RX12 ∧ yX12_readTerm.cls ≠ "java/lang/invoke/MethodHandle" ∧ yX12_readTerm.cls ≠ "java/lang/invoke/VarHandle" ∧ (parseMethodDescriptor yX12_readTerm.desc).map (fun d => d.parameters.length) = some 1 := by decide +kernel
theorem kw_1620 : GoodIn tb (wsV RX12 154 RX12 yX12_readAtom (Cond.code yX12_readAtom cX12_readAtom 2 none :: tb)) := gd_V wd_1620 wd_1622 wd_74 wd_142 wd_1623
theorem kd_yX12_readAtom : yX12_readAtom.cls = RX12 ∧ yX12_readAtom.cls ≠ "java/lang/invoke/MethodHandle" ∧ yX12_readAtom.cls ≠ "java/lang/invoke/VarHandle" ∧ (parseMethodDescriptor yX12_readAtom.desc).map (fun d => d.parameters.length) = some 1 := by decide +kernel
theorem kw_1624 : GoodIn tb (wsV RX12 138 RX12 yX12_codes (Cond.code yX12_codes cX12_codes 2 none :: tb)) := gd_V wd_1624 wd_1626 wd_75 wd_142 wd_1627
theorem kd_yX12_codes : yX12_codes.cls = RX12 ∧ yX12_codes.cls ≠ "java/lang/invoke/MethodHandle" ∧ yX12_codes.cls ≠ "java/lang/invoke/VarHandle" ∧ (parseMethodDescriptor yX12_codes.desc).map (fun d => d.parameters.length) = some 1 := by decide +kernel
theorem kw_1630 : GoodIn tb (wsV RX12 145 RX12 yX12_goesIn (Cond.code yX12_goesIn cX12_goesIn 2 (some .boolean) :: tb)) := gd_V wd_1630 wd_1632 wd_76 wd_142 wd_1633
theorem kd_yX12_goesIn : yX12_goesIn.cls = RX12 ∧ yX12_goesIn.cls ≠ "java/lang/invoke/MethodHandle" ∧ yX12_goesIn.cls ≠ "java/lang/invoke/VarHandle" ∧ (parseMethodDescriptor yX12_goesIn.desc).map (fun d => d.parameters.length) = some 1 := by decide +kernel
theorem kw_1634 : GoodIn tb (wsV RX12 163 RX12 yX12_readTruth (Cond.code yX12_readTruth cX12_readTruth 2 none :: tb)) := gd_V wd_1634 wd_1636 wd_77 wd_142 wd_1637
theorem kd_yX12_readTruth : yX12_readTruth.cls = RX12 ∧ yX12_readTruth.cls ≠ "java/lang/invoke/MethodHandle" ∧ yX12_readTruth.cls ≠ "java/lang/invoke/VarHandle" ∧ (parseMethodDescriptor yX12_readTruth.desc).map (fun d => d.parameters.length) = some 1 := by decide +kernel
theorem kw_1638 : GoodIn tb (wsV RX12 166 RX12 yX12_readBoth (Cond.code yX12_readBoth cX12_readBoth 2 none :: tb)) := gd_V wd_1638 wd_1640 wd_78 wd_142 wd_1641
theorem kd_yX12_readBoth : yX12_readBoth.cls = RX12 ∧ yX12_readBoth.cls ≠ "java/lang/invoke/MethodHandle" ∧ yX12_readBoth.cls ≠ "java/lang/invoke/VarHandle" ∧ (parseMethodDescriptor yX12_readBoth.desc).map (fun d => d.parameters.length) = some 1 := by decide +kernel
theorem kw_1642 : GoodIn tb (wsV RX12 160 RX12 yX12_readUnit (Cond.code yX12_readUnit cX12_readUnit 3 none :: tb)) := gd_V wd_1642 wd_1644 wd_79 wd_142 wd_1645
theorem kd_yX12_readUnit : yX12_readUnit.cls = RX12 ∧ yX12_readUnit.cls ≠ "java/lang/invoke/MethodHandle" ∧ yX12_readUnit.cls ≠ "java/lang/invoke/VarHandle" ∧ (parseMethodDescriptor yX12_readUnit.desc).map (fun d => d.parameters.length) = some 1 := by decide +kernel
theorem kw_1646 : GoodIn tb (wsV RL 26 RX12 yX12_fault (Cond.code yX12_fault cX12_fault 2 (some .int) :: tb)) := gd_V wd_1646 wd_1647 wd_1648 wd_142 wd_1649
theorem kd_yX12_fault : yX12_fault.cls = RX12 ∧ yX12_fault.cls ≠ "java/lang/invoke/MethodHandle" ∧ yX12_fault.cls ≠ "java/lang/invoke/VarHandle" ∧ (parseMethodDescriptor yX12_fault.desc).map (fun d => d.parameters.length) = some 1 := by decide +kernel
theorem kw_1650 : GoodIn tb (wsV RL 31 RX12 yX12_flat (Cond.code yX12_flat cX12_flat 3 (some .int) :: tb)) := gd_V wd_1650 wd_1651 wd_1652 wd_142 wd_1653
theorem kd_yX12_flat : yX12_flat.cls = RX12 ∧ yX12_flat.cls ≠ "java/lang/invoke/MethodHandle" ∧ yX12_flat.cls ≠ "java/lang/invoke/VarHandle" ∧ (parseMethodDescriptor yX12_flat.desc).map (fun d => d.parameters.length) = some 2 := by decide +kernel
theorem kw_1654 : GoodIn tb (wsV RX12 216 RX12 yX12_isFlat (Cond.code yX12_isFlat cX12_isFlat 3 (some .boolean) :: tb)) := gd_V wd_1654 wd_1656 wd_80 wd_142 wd_1657
theorem kd_yX12_isFlat : yX12_isFlat.cls = RX12 ∧ yX12_isFlat.cls ≠ "java/lang/invoke/MethodHandle" ∧ yX12_isFlat.cls ≠ "java/lang/invoke/VarHandle" ∧ (parseMethodDescriptor yX12_isFlat.desc).map (fun d => d.parameters.length) = some 1 := by decide +kernel
theorem kw_1659 : GoodIn tb (wsV RX12 222 RX12 yX12_livesIn (Cond.code yX12_livesIn cX12_livesIn 3 (some .int) :: tb)) := gd_V wd_1659 wd_1661 wd_81 wd_142 wd_1662
theorem kd_yX12_livesIn : yX12_livesIn.cls = RX12 ∧ yX12_livesIn.cls ≠ "java/lang/invoke/MethodHandle" ∧ yX12_livesIn.cls ≠ "java/lang/invoke/VarHandle" ∧ (parseMethodDescriptor yX12_livesIn.desc).map (fun d => d.parameters.length) = some 1 := by decide +kernel
theorem kw_1663 : GoodIn tb (wsV RL 35 RX12 yX12_household (Cond.code yX12_household cX12_household 3 (some .int) :: tb)) := gd_V wd_1663 wd_1664 wd_1665 wd_142 wd_1666
theorem kd_yX12_household : yX12_household.cls = RX12 ∧ yX12_household.cls ≠ "java/lang/invoke/MethodHandle" ∧ yX12_household.cls ≠ "java/lang/invoke/VarHandle" ∧ (parseMethodDescriptor yX12_household.desc).map (fun d => d.parameters.length) = some 2 := by decide +kernel
theorem kw_1667 : GoodIn tb (wsV RX12 225 RX12 yX12_isHousehold (Cond.code yX12_isHousehold cX12_isHousehold 3 (some .boolean) :: tb)) := gd_V wd_1667 wd_1669 wd_82 wd_142 wd_1670
theorem kd_yX12_isHousehold : yX12_isHousehold.cls = RX12 ∧ yX12_isHousehold.cls ≠ "java/lang/invoke/MethodHandle" ∧ yX12_isHousehold.cls ≠ "java/lang/invoke/VarHandle" ∧ (parseMethodDescriptor yX12_isHousehold.desc).map (fun d => d.parameters.length) = some 1 := by decide +kernel
theorem kw_1672 : GoodIn tb (wsV RL 39 RX12 yX12_times (Cond.code yX12_times cX12_times 3 (some .int) :: tb)) := gd_V wd_1672 wd_1673 wd_1674 wd_142 wd_1675
theorem kd_yX12_times : yX12_times.cls = RX12 ∧ yX12_times.cls ≠ "java/lang/invoke/MethodHandle" ∧ yX12_times.cls ≠ "java/lang/invoke/VarHandle" ∧ (parseMethodDescriptor yX12_times.desc).map (fun d => d.parameters.length) = some 2 := by decide +kernel
theorem kw_1676 : GoodIn tb (wsV RX12 230 RX12 yX12_areBoth (Cond.code yX12_areBoth cX12_areBoth 3 (some .boolean) :: tb)) := gd_V wd_1676 wd_1678 wd_83 wd_142 wd_1679
theorem kd_yX12_areBoth : yX12_areBoth.cls = RX12 ∧ yX12_areBoth.cls ≠ "java/lang/invoke/MethodHandle" ∧ yX12_areBoth.cls ≠ "java/lang/invoke/VarHandle" ∧ (parseMethodDescriptor yX12_areBoth.desc).map (fun d => d.parameters.length) = some 2 := by decide +kernel
theorem kw_1680 : GoodIn tb (wsV RL 43 RX12 yX12_may (Cond.code yX12_may cX12_may 3 (some .int) :: tb)) := gd_V wd_1680 wd_1681 wd_1682 wd_142 wd_1683
theorem kd_yX12_may : yX12_may.cls = RX12 ∧ yX12_may.cls ≠ "java/lang/invoke/MethodHandle" ∧ yX12_may.cls ≠ "java/lang/invoke/VarHandle" ∧ (parseMethodDescriptor yX12_may.desc).map (fun d => d.parameters.length) = some 2 := by decide +kernel
theorem kw_1684 : GoodIn tb (wsV RX12 234 RX12 yX12_mayLive (Cond.code yX12_mayLive cX12_mayLive 3 (some .boolean) :: tb)) := gd_V wd_1684 wd_1686 wd_84 wd_142 wd_1687
theorem kd_yX12_mayLive : yX12_mayLive.cls = RX12 ∧ yX12_mayLive.cls ≠ "java/lang/invoke/MethodHandle" ∧ yX12_mayLive.cls ≠ "java/lang/invoke/VarHandle" ∧ (parseMethodDescriptor yX12_mayLive.desc).map (fun d => d.parameters.length) = some 2 := by decide +kernel
theorem kw_1688 : GoodIn tb (wsV RX12 213 RX12 yX12_reckons (Cond.code yX12_reckons cX12_reckons 7 (some .int) :: tb)) := gd_V wd_1688 wd_1690 wd_85 wd_142 wd_1691
theorem kd_yX12_reckons : yX12_reckons.cls = RX12 ∧ yX12_reckons.cls ≠ "java/lang/invoke/MethodHandle" ∧ yX12_reckons.cls ≠ "java/lang/invoke/VarHandle" ∧ (parseMethodDescriptor yX12_reckons.desc).map (fun d => d.parameters.length) = some 3 := by decide +kernel
theorem kw_1692 : GoodIn tb (wsV RX12 206 RX12 yX12_valueOf (Cond.code yX12_valueOf cX12_valueOf 4 (some .int) :: tb)) := gd_V wd_1692 wd_1694 wd_86 wd_142 wd_1695
theorem kd_yX12_valueOf : yX12_valueOf.cls = RX12 ∧ yX12_valueOf.cls ≠ "java/lang/invoke/MethodHandle" ∧ yX12_valueOf.cls ≠ "java/lang/invoke/VarHandle" ∧ (parseMethodDescriptor yX12_valueOf.desc).map (fun d => d.parameters.length) = some 3 := by decide +kernel
theorem kw_1698 : GoodIn tb (va_wsS RX12 210 yX12_between (Cond.code yX12_between cX12_between 5 (some .int) :: tb)) := gd_S wd_1698 wd_1699 wd_142 wd_1700
theorem kd_yX12_between : yX12_between.cls ≠ "java/lang/invoke/MethodHandle" ∧ yX12_between.cls ≠ "java/lang/invoke/VarHandle" ∧ (parseMethodDescriptor yX12_between.desc).map (fun d => d.parameters.length) = some 3 := by decide +kernel
theorem kw_1703 : GoodIn tb (wsV RL 47 RX12 yX12_worth (Cond.code yX12_worth cX12_worth 3 (some .int) :: tb)) := gd_V wd_1703 wd_1704 wd_1705 wd_142 wd_1706
theorem kd_yX12_worth : yX12_worth.cls = RX12 ∧ yX12_worth.cls ≠ "java/lang/invoke/MethodHandle" ∧ yX12_worth.cls ≠ "java/lang/invoke/VarHandle" ∧ (parseMethodDescriptor yX12_worth.desc).map (fun d => d.parameters.length) = some 2 := by decide +kernel
theorem kw_1707 : GoodIn tb (wsV RX12 237 RX12 yX12_worthOf (Cond.code yX12_worthOf cX12_worthOf 3 (some .int) :: tb)) := gd_V wd_1707 wd_1709 wd_87 wd_142 wd_1710
theorem kd_yX12_worthOf : yX12_worthOf.cls = RX12 ∧ yX12_worthOf.cls ≠ "java/lang/invoke/MethodHandle" ∧ yX12_worthOf.cls ≠ "java/lang/invoke/VarHandle" ∧ (parseMethodDescriptor yX12_worthOf.desc).map (fun d => d.parameters.length) = some 2 := by decide +kernel
theorem kw_1712 : GoodIn tb (wsV RL 51 RX12 yX12_draws (Cond.code yX12_draws cX12_draws 3 (some .int) :: tb)) := gd_V wd_1712 wd_1713 wd_1714 wd_142 wd_1715
theorem kd_yX12_draws : yX12_draws.cls = RX12 ∧ yX12_draws.cls ≠ "java/lang/invoke/MethodHandle" ∧ yX12_draws.cls ≠ "java/lang/invoke/VarHandle" ∧ (parseMethodDescriptor yX12_draws.desc).map (fun d => d.parameters.length) = some 1 := by decide +kernel
theorem kw_1716 : GoodIn tb (wsV RX12 258 RX12 yX12_laysMaps (Cond.code yX12_laysMaps cX12_laysMaps 2 none :: tb)) := gd_V wd_1716 wd_1718 wd_88 wd_142 wd_1719
theorem kd_yX12_laysMaps : yX12_laysMaps.cls = RX12 ∧ yX12_laysMaps.cls ≠ "java/lang/invoke/MethodHandle" ∧ yX12_laysMaps.cls ≠ "java/lang/invoke/VarHandle" ∧ (parseMethodDescriptor yX12_laysMaps.desc).map (fun d => d.parameters.length) = some 1 := by decide +kernel
theorem kw_1720 : GoodIn tb (wsV RX12 241 RX12 yX12_laysLaws (Cond.code yX12_laysLaws cX12_laysLaws 3 none :: tb)) := gd_V wd_1720 wd_1722 wd_89 wd_142 wd_1723
theorem kd_yX12_laysLaws : yX12_laysLaws.cls = RX12 ∧ yX12_laysLaws.cls ≠ "java/lang/invoke/MethodHandle" ∧ yX12_laysLaws.cls ≠ "java/lang/invoke/VarHandle" ∧ (parseMethodDescriptor yX12_laysLaws.desc).map (fun d => d.parameters.length) = some 0 := by decide +kernel
theorem kw_1724 : GoodIn tb (wsV RX12 247 RX12 yX12_goesMaps (Cond.code yX12_goesMaps cX12_goesMaps 6 none :: tb)) := gd_V wd_1724 wd_1726 wd_90 wd_142 wd_1727
theorem kd_yX12_goesMaps : yX12_goesMaps.cls = RX12 ∧ yX12_goesMaps.cls ≠ "java/lang/invoke/MethodHandle" ∧ yX12_goesMaps.cls ≠ "java/lang/invoke/VarHandle" ∧ (parseMethodDescriptor yX12_goesMaps.desc).map (fun d => d.parameters.length) = some 4 := by decide +kernel
theorem kw_1728 : GoodIn tb (va_wsS RX12 251 yX12_isIn (Cond.code yX12_isIn cX12_isIn 3 (some .boolean) :: tb)) := gd_S wd_1728 wd_1729 wd_142 wd_1730
theorem kd_yX12_isIn : yX12_isIn.cls ≠ "java/lang/invoke/MethodHandle" ∧ yX12_isIn.cls ≠ "java/lang/invoke/VarHandle" ∧ (parseMethodDescriptor yX12_isIn.desc).map (fun d => d.parameters.length) = some 2 := by decide +kernel
theorem kw_1731 : GoodIn tb (wsV RX12 261 RX12 yX12_keeps (Cond.code yX12_keeps cX12_keeps 2 none :: tb)) := gd_V wd_1731 wd_1733 wd_91 wd_142 wd_1734
theorem kd_yX12_keeps : yX12_keeps.cls = RX12 ∧ yX12_keeps.cls ≠ "java/lang/invoke/MethodHandle" ∧ yX12_keeps.cls ≠ "java/lang/invoke/VarHandle" ∧ (parseMethodDescriptor yX12_keeps.desc).map (fun d => d.parameters.length) = some 0 := by decide +kernel
theorem kw_1735 : GoodIn tb (wsV RX12 264 RX12 yX12_drawsBy (Cond.code yX12_drawsBy cX12_drawsBy 6 (some .int) :: tb)) := gd_V wd_1735 wd_1737 wd_92 wd_142 wd_1738
theorem kd_yX12_drawsBy : yX12_drawsBy.cls = RX12 ∧ yX12_drawsBy.cls ≠ "java/lang/invoke/MethodHandle" ∧ yX12_drawsBy.cls ≠ "java/lang/invoke/VarHandle" ∧ (parseMethodDescriptor yX12_drawsBy.desc).map (fun d => d.parameters.length) = some 1 := by decide +kernel
theorem kw_1739 : GoodIn tb (va_wsS RX12 255 yX12_flatIn (Cond.code yX12_flatIn cX12_flatIn 2 (some .int) :: tb)) := gd_S wd_1739 wd_1740 wd_142 wd_1741
theorem kd_yX12_flatIn : yX12_flatIn.cls ≠ "java/lang/invoke/MethodHandle" ∧ yX12_flatIn.cls ≠ "java/lang/invoke/VarHandle" ∧ (parseMethodDescriptor yX12_flatIn.desc).map (fun d => d.parameters.length) = some 2 := by decide +kernel
theorem kw_1742 : GoodIn tb (wsV RX12 268 RX12 yX12_notes (Cond.code yX12_notes cX12_notes 2 none :: tb)) := gd_V wd_1742 wd_1744 wd_93 wd_142 wd_1745
theorem kd_yX12_notes : yX12_notes.cls = RX12 ∧ yX12_notes.cls ≠ "java/lang/invoke/MethodHandle" ∧ yX12_notes.cls ≠ "java/lang/invoke/VarHandle" ∧ (parseMethodDescriptor yX12_notes.desc).map (fun d => d.parameters.length) = some 0 := by decide +kernel
theorem kw_1746 : GoodIn tb (wsV RL 56 RX12 yX12_rings (Cond.code yX12_rings cX12_rings 2 (some .int) :: tb)) := gd_V wd_1746 wd_1747 wd_1748 wd_142 wd_1749
theorem kd_yX12_rings : yX12_rings.cls = RX12 ∧ yX12_rings.cls ≠ "java/lang/invoke/MethodHandle" ∧ yX12_rings.cls ≠ "java/lang/invoke/VarHandle" ∧ (parseMethodDescriptor yX12_rings.desc).map (fun d => d.parameters.length) = some 0 := by decide +kernel
theorem kw_1750 : GoodIn tb (wsV RX12 280 RX12 yX12_goesRings (Cond.code yX12_goesRings cX12_goesRings 3 (some .int) :: tb)) := gd_V wd_1750 wd_1752 wd_94 wd_142 wd_1753
theorem kd_yX12_goesRings : yX12_goesRings.cls = RX12 ∧ yX12_goesRings.cls ≠ "java/lang/invoke/MethodHandle" ∧ yX12_goesRings.cls ≠ "java/lang/invoke/VarHandle" ∧ (parseMethodDescriptor yX12_goesRings.desc).map (fun d => d.parameters.length) = some 0 := by decide +kernel
theorem kw_1754 : GoodIn tb (wsV RX12 277 RX12 yX12_laysRings (Cond.code yX12_laysRings cX12_laysRings 5 none :: tb)) := gd_V wd_1754 wd_1756 wd_95 wd_142 wd_1757
theorem kd_yX12_laysRings : yX12_laysRings.cls = RX12 ∧ yX12_laysRings.cls ≠ "java/lang/invoke/MethodHandle" ∧ yX12_laysRings.cls ≠ "java/lang/invoke/VarHandle" ∧ (parseMethodDescriptor yX12_laysRings.desc).map (fun d => d.parameters.length) = some 0 := by decide +kernel
theorem kw_1758 : GoodIn tb (wsV RX12 274 RX12 yX12_pointsAt (Cond.code yX12_pointsAt cX12_pointsAt 6 (some .int) :: tb)) := gd_V wd_1758 wd_1760 wd_96 wd_142 wd_1761
theorem kd_yX12_pointsAt : yX12_pointsAt.cls = RX12 ∧ yX12_pointsAt.cls ≠ "java/lang/invoke/MethodHandle" ∧ yX12_pointsAt.cls ≠ "java/lang/invoke/VarHandle" ∧ (parseMethodDescriptor yX12_pointsAt.desc).map (fun d => d.parameters.length) = some 2 := by decide +kernel
theorem kw_1762 : GoodIn tb (wsV RL 60 RX12 yX12_moves (Cond.code yX12_moves cX12_moves 5 (some .int) :: tb)) := gd_V wd_1762 wd_1763 wd_1764 wd_142 wd_1765
theorem kd_yX12_moves : yX12_moves.cls = RX12 ∧ yX12_moves.cls ≠ "java/lang/invoke/MethodHandle" ∧ yX12_moves.cls ≠ "java/lang/invoke/VarHandle" ∧ (parseMethodDescriptor yX12_moves.desc).map (fun d => d.parameters.length) = some 2 := by decide +kernel
theorem kw_1766 : GoodIn tb (wsV RX12 283 RX12 yX12_whyMove (Cond.code yX12_whyMove cX12_whyMove 5 (some .int) :: tb)) := gd_V wd_1766 wd_1768 wd_97 wd_142 wd_1769
theorem kd_yX12_whyMove : yX12_whyMove.cls = RX12 ∧ yX12_whyMove.cls ≠ "java/lang/invoke/MethodHandle" ∧ yX12_whyMove.cls ≠ "java/lang/invoke/VarHandle" ∧ (parseMethodDescriptor yX12_whyMove.desc).map (fun d => d.parameters.length) = some 2 := by decide +kernel
theorem kw_1770 : GoodIn tb (wsV RX12 287 RX12 yX12_floorOf (Cond.code yX12_floorOf cX12_floorOf 2 (some .int) :: tb)) := gd_V wd_1770 wd_1772 wd_98 wd_142 wd_1773
theorem kd_yX12_floorOf : yX12_floorOf.cls = RX12 ∧ yX12_floorOf.cls ≠ "java/lang/invoke/MethodHandle" ∧ yX12_floorOf.cls ≠ "java/lang/invoke/VarHandle" ∧ (parseMethodDescriptor yX12_floorOf.desc).map (fun d => d.parameters.length) = some 1 := by decide +kernel
theorem kw_1774 : GoodIn tb (va_wsS RX12 290 yX12_far (Cond.code yX12_far cX12_far 2 (some .int) :: tb)) := gd_S wd_1774 wd_1775 wd_142 wd_1776
theorem kd_yX12_far : yX12_far.cls ≠ "java/lang/invoke/MethodHandle" ∧ yX12_far.cls ≠ "java/lang/invoke/VarHandle" ∧ (parseMethodDescriptor yX12_far.desc).map (fun d => d.parameters.length) = some 2 := by decide +kernel
theorem kw_1777 : GoodIn tb (wsV RL 64 RX12 yX12_leaves (Cond.code yX12_leaves cX12_leaves 3 (some .int) :: tb)) := gd_V wd_1777 wd_1778 wd_1779 wd_142 wd_1780
theorem kd_yX12_leaves : yX12_leaves.cls = RX12 ∧ yX12_leaves.cls ≠ "java/lang/invoke/MethodHandle" ∧ yX12_leaves.cls ≠ "java/lang/invoke/VarHandle" ∧ (parseMethodDescriptor yX12_leaves.desc).map (fun d => d.parameters.length) = some 1 := by decide +kernel
theorem kw_1781 : GoodIn tb (wsV RX12 293 RX12 yX12_whyLeave (Cond.code yX12_whyLeave cX12_whyLeave 3 (some .int) :: tb)) := gd_V wd_1781 wd_1783 wd_99 wd_142 wd_1784
theorem kd_yX12_whyLeave : yX12_whyLeave.cls = RX12 ∧ yX12_whyLeave.cls ≠ "java/lang/invoke/MethodHandle" ∧ yX12_whyLeave.cls ≠ "java/lang/invoke/VarHandle" ∧ (parseMethodDescriptor yX12_whyLeave.desc).map (fun d => d.parameters.length) = some 1 := by decide +kernel
theorem kw_1785 : GoodIn tb (wsV RL 68 RX12 yX12_spoils (Cond.code yX12_spoils cX12_spoils 3 (some .int) :: tb)) := gd_V wd_1785 wd_1786 wd_1787 wd_142 wd_1788
theorem kd_yX12_spoils : yX12_spoils.cls = RX12 ∧ yX12_spoils.cls ≠ "java/lang/invoke/MethodHandle" ∧ yX12_spoils.cls ≠ "java/lang/invoke/VarHandle" ∧ (parseMethodDescriptor yX12_spoils.desc).map (fun d => d.parameters.length) = some 1 := by decide +kernel
theorem kw_1789 : GoodIn tb (wsV RX12 296 RX12 yX12_whyFault (Cond.code yX12_whyFault cX12_whyFault 4 (some .int) :: tb)) := gd_V wd_1789 wd_1791 wd_100 wd_142 wd_1792
theorem kd_yX12_whyFault : yX12_whyFault.cls = RX12 ∧ yX12_whyFault.cls ≠ "java/lang/invoke/MethodHandle" ∧ yX12_whyFault.cls ≠ "java/lang/invoke/VarHandle" ∧ (parseMethodDescriptor yX12_whyFault.desc).map (fun d => d.parameters.length) = some 2 := by decide +kernel
theorem kw_1793 : GoodIn tb (wsV RL 72 RX12 yX12_mends (Cond.code yX12_mends cX12_mends 3 (some .int) :: tb)) := gd_V wd_1793 wd_1794 wd_1795 wd_142 wd_1796
theorem kd_yX12_mends : yX12_mends.cls = RX12 ∧ yX12_mends.cls ≠ "java/lang/invoke/MethodHandle" ∧ yX12_mends.cls ≠ "java/lang/invoke/VarHandle" ∧ (parseMethodDescriptor yX12_mends.desc).map (fun d => d.parameters.length) = some 1 := by decide +kernel
theorem kw_1797 : GoodIn tb (wsV RL 76 RX12 yX12_undo (Cond.code yX12_undo cX12_undo 3 (some .int) :: tb)) := gd_V wd_1797 wd_1798 wd_1799 wd_142 wd_1800
theorem kd_yX12_undo : yX12_undo.cls = RX12 ∧ yX12_undo.cls ≠ "java/lang/invoke/MethodHandle" ∧ yX12_undo.cls ≠ "java/lang/invoke/VarHandle" ∧ (parseMethodDescriptor yX12_undo.desc).map (fun d => d.parameters.length) = some 1 := by decide +kernel
theorem kw_1802 : GoodIn tb (wsV RL 80 RX12 yX12_judge (Cond.code yX12_judge cX12_judge 7 (some .int) :: tb)) := gd_V wd_1802 wd_1803 wd_1804 wd_142 wd_1805
theorem kd_yX12_judge : yX12_judge.cls = RX12 ∧ yX12_judge.cls ≠ "java/lang/invoke/MethodHandle" ∧ yX12_judge.cls ≠ "java/lang/invoke/VarHandle" ∧ (parseMethodDescriptor yX12_judge.desc).map (fun d => d.parameters.length) = some 2 := by decide +kernel
theorem kw_1806 : GoodIn tb (wsV RX12 332 RX12 yX12_noTray (Cond.code yX12_noTray cX12_noTray 2 (some .int) :: tb)) := gd_V wd_1806 wd_1808 wd_101 wd_142 wd_1809
theorem kd_yX12_noTray : yX12_noTray.cls = RX12 ∧ yX12_noTray.cls ≠ "java/lang/invoke/MethodHandle" ∧ yX12_noTray.cls ≠ "java/lang/invoke/VarHandle" ∧ (parseMethodDescriptor yX12_noTray.desc).map (fun d => d.parameters.length) = some 1 := by decide +kernel
theorem kw_1810 : GoodIn tb (wsV RX12 335 RX12 yX12_tells (Cond.code yX12_tells cX12_tells 3 (some .int) :: tb)) := gd_V wd_1810 wd_1812 wd_102 wd_142 wd_1813
theorem kd_yX12_tells : yX12_tells.cls = RX12 ∧ yX12_tells.cls ≠ "java/lang/invoke/MethodHandle" ∧ yX12_tells.cls ≠ "java/lang/invoke/VarHandle" ∧ (parseMethodDescriptor yX12_tells.desc).map (fun d => d.parameters.length) = some 1 := by decide +kernel
theorem kw_1814 : GoodIn tb (wsV RX12 325 RX12 yX12_whyNot (Cond.code yX12_whyNot cX12_whyNot 3 (some .int) :: tb)) := gd_V wd_1814 wd_1816 wd_103 wd_142 wd_1817
theorem kd_yX12_whyNot : yX12_whyNot.cls = RX12 ∧ yX12_whyNot.cls ≠ "java/lang/invoke/MethodHandle" ∧ yX12_whyNot.cls ≠ "java/lang/invoke/VarHandle" ∧ (parseMethodDescriptor yX12_whyNot.desc).map (fun d => d.parameters.length) = some 1 := by decide +kernel
theorem kw_1828 : GoodIn tb (wsV RX12 328 RX12 yX12_does (Cond.code yX12_does cX12_does 3 none :: tb)) := gd_V wd_1828 wd_1830 wd_104 wd_142 wd_1831
theorem kd_yX12_does : yX12_does.cls = RX12 ∧ yX12_does.cls ≠ "java/lang/invoke/MethodHandle" ∧ yX12_does.cls ≠ "java/lang/invoke/VarHandle" ∧ (parseMethodDescriptor yX12_does.desc).map (fun d => d.parameters.length) = some 1 := by decide +kernel
theorem kw_1832 : GoodIn tb (wsV RX12 338 RX12 yX12_away (Cond.code yX12_away cX12_away 3 (some .int) :: tb)) := gd_V wd_1832 wd_1834 wd_105 wd_142 wd_1835
theorem kd_yX12_away : yX12_away.cls = RX12 ∧ yX12_away.cls ≠ "java/lang/invoke/MethodHandle" ∧ yX12_away.cls ≠ "java/lang/invoke/VarHandle" ∧ (parseMethodDescriptor yX12_away.desc).map (fun d => d.parameters.length) = some 0 := by decide +kernel
theorem kw_1836 : GoodIn tb (wsV RX12 341 RX12 yX12_isAgain (Cond.code yX12_isAgain cX12_isAgain 2 none :: tb)) := gd_V wd_1836 wd_1838 wd_106 wd_142 wd_1839
theorem kd_yX12_isAgain : yX12_isAgain.cls = RX12 ∧ yX12_isAgain.cls ≠ "java/lang/invoke/MethodHandle" ∧ yX12_isAgain.cls ≠ "java/lang/invoke/VarHandle" ∧ (parseMethodDescriptor yX12_isAgain.desc).map (fun d => d.parameters.length) = some 0 := by decide +kernel
theorem kw_1840 : GoodIn tb (wsV RL 84 RX12 yX12_perform (Cond.code yX12_perform cX12_perform 4 (some .int) :: tb)) := gd_V wd_1840 wd_1841 wd_1842 wd_142 wd_1843
theorem kd_yX12_perform : yX12_perform.cls = RX12 ∧ yX12_perform.cls ≠ "java/lang/invoke/MethodHandle" ∧ yX12_perform.cls ≠ "java/lang/invoke/VarHandle" ∧ (parseMethodDescriptor yX12_perform.desc).map (fun d => d.parameters.length) = some 1 := by decide +kernel
theorem kw_1844 : GoodIn tb (wsV RL 88 RX12 yX12_year (Cond.code yX12_year cX12_year 7 (some .int) :: tb)) := gd_V wd_1844 wd_1845 wd_1846 wd_142 wd_1847
theorem kd_yX12_year : yX12_year.cls = RX12 ∧ yX12_year.cls ≠ "java/lang/invoke/MethodHandle" ∧ yX12_year.cls ≠ "java/lang/invoke/VarHandle" ∧ (parseMethodDescriptor yX12_year.desc).map (fun d => d.parameters.length) = some 2 := by decide +kernel
theorem kw_1849 : GoodIn tb (wsV RX12 353 RX12 yX12_drawn (Cond.code yX12_drawn cX12_drawn 3 (some .long) :: tb)) := gd_V wd_1849 wd_1851 wd_107 wd_142 wd_1852
theorem kd_yX12_drawn : yX12_drawn.cls = RX12 ∧ yX12_drawn.cls ≠ "java/lang/invoke/MethodHandle" ∧ yX12_drawn.cls ≠ "java/lang/invoke/VarHandle" ∧ (parseMethodDescriptor yX12_drawn.desc).map (fun d => d.parameters.length) = some 0 := by decide +kernel
theorem kw_1853 : GoodIn tb (wsV RX12 348 RX12 yX12_draw (Cond.code yX12_draw cX12_draw 1 (some .int) :: tb)) := gd_V wd_1853 wd_1855 wd_108 wd_142 wd_1856
theorem kd_yX12_draw : yX12_draw.cls = RX12 ∧ yX12_draw.cls ≠ "java/lang/invoke/MethodHandle" ∧ yX12_draw.cls ≠ "java/lang/invoke/VarHandle" ∧ (parseMethodDescriptor yX12_draw.desc).map (fun d => d.parameters.length) = some 0 := by decide +kernel
theorem kw_1858 : GoodIn tb (wsV RL 92 RX12 yX12_maps (Cond.code yX12_maps cX12_maps 1 (some .int) :: tb)) := gd_V wd_1858 wd_1859 wd_1860 wd_142 wd_1861
theorem kd_yX12_maps : yX12_maps.cls = RX12 ∧ yX12_maps.cls ≠ "java/lang/invoke/MethodHandle" ∧ yX12_maps.cls ≠ "java/lang/invoke/VarHandle" ∧ (parseMethodDescriptor yX12_maps.desc).map (fun d => d.parameters.length) = some 0 := by decide +kernel
theorem kw_1862 : GoodIn tb (wsV RL 96 RX12 yX12_inMap (Cond.code yX12_inMap cX12_inMap 3 (some .int) :: tb)) := gd_V wd_1862 wd_1863 wd_1864 wd_142 wd_1865
theorem kd_yX12_inMap : yX12_inMap.cls = RX12 ∧ yX12_inMap.cls ≠ "java/lang/invoke/MethodHandle" ∧ yX12_inMap.cls ≠ "java/lang/invoke/VarHandle" ∧ (parseMethodDescriptor yX12_inMap.desc).map (fun d => d.parameters.length) = some 2 := by decide +kernel
theorem kw_1866 : GoodIn tb (wsV RL 100 RX12 yX12_with (Cond.code yX12_with cX12_with 3 (some .int) :: tb)) := gd_V wd_1866 wd_1867 wd_1868 wd_142 wd_1869
theorem kd_yX12_with : yX12_with.cls = RX12 ∧ yX12_with.cls ≠ "java/lang/invoke/MethodHandle" ∧ yX12_with.cls ≠ "java/lang/invoke/VarHandle" ∧ (parseMethodDescriptor yX12_with.desc).map (fun d => d.parameters.length) = some 2 := by decide +kernel
theorem kw_1870 : GoodIn tb (wsV RX12 357 RX12 yX12_withOf (Cond.code yX12_withOf cX12_withOf 5 (some .int) :: tb)) := gd_V wd_1870 wd_1872 wd_109 wd_142 wd_1873
theorem kd_yX12_withOf : yX12_withOf.cls = RX12 ∧ yX12_withOf.cls ≠ "java/lang/invoke/MethodHandle" ∧ yX12_withOf.cls ≠ "java/lang/invoke/VarHandle" ∧ (parseMethodDescriptor yX12_withOf.desc).map (fun d => d.parameters.length) = some 2 := by decide +kernel
theorem kw_1874 : GoodIn tb (wsV RL 104 RX12 yX12_near (Cond.code yX12_near cX12_near 7 (some .int) :: tb)) := gd_V wd_1874 wd_1875 wd_1876 wd_142 wd_1877
theorem kd_yX12_near : yX12_near.cls = RX12 ∧ yX12_near.cls ≠ "java/lang/invoke/MethodHandle" ∧ yX12_near.cls ≠ "java/lang/invoke/VarHandle" ∧ (parseMethodDescriptor yX12_near.desc).map (fun d => d.parameters.length) = some 2 := by decide +kernel
theorem kw_1878 : GoodIn tb (wsV RX12 360 RX12 yX12_isAbove (Cond.code yX12_isAbove cX12_isAbove 3 (some .boolean) :: tb)) := gd_V wd_1878 wd_1880 wd_110 wd_142 wd_1881
theorem kd_yX12_isAbove : yX12_isAbove.cls = RX12 ∧ yX12_isAbove.cls ≠ "java/lang/invoke/MethodHandle" ∧ yX12_isAbove.cls ≠ "java/lang/invoke/VarHandle" ∧ (parseMethodDescriptor yX12_isAbove.desc).map (fun d => d.parameters.length) = some 2 := by decide +kernel
theorem kw_1882 : GoodIn tb (wsV RL 108 RX12 yX12_allElse (Cond.code yX12_allElse cX12_allElse 5 (some .int) :: tb)) := gd_V wd_1882 wd_1883 wd_1884 wd_142 wd_1885
theorem kd_yX12_allElse : yX12_allElse.cls = RX12 ∧ yX12_allElse.cls ≠ "java/lang/invoke/MethodHandle" ∧ yX12_allElse.cls ≠ "java/lang/invoke/VarHandle" ∧ (parseMethodDescriptor yX12_allElse.desc).map (fun d => d.parameters.length) = some 0 := by decide +kernel
theorem kw_1886 : GoodIn tb (wsV RL 112 RX12 yX12_likeliest (Cond.code yX12_likeliest cX12_likeliest 6 (some .int) :: tb)) := gd_V wd_1886 wd_1887 wd_1888 wd_142 wd_1889
theorem kd_yX12_likeliest : yX12_likeliest.cls = RX12 ∧ yX12_likeliest.cls ≠ "java/lang/invoke/MethodHandle" ∧ yX12_likeliest.cls ≠ "java/lang/invoke/VarHandle" ∧ (parseMethodDescriptor yX12_likeliest.desc).map (fun d => d.parameters.length) = some 1 := by decide +kernel
theorem kw_1890 : GoodIn tb (wsV RL 116 RX12 yX12_sure (Cond.code yX12_sure cX12_sure 6 (some .int) :: tb)) := gd_V wd_1890 wd_1891 wd_1892 wd_142 wd_1893
theorem kd_yX12_sure : yX12_sure.cls = RX12 ∧ yX12_sure.cls ≠ "java/lang/invoke/MethodHandle" ∧ yX12_sure.cls ≠ "java/lang/invoke/VarHandle" ∧ (parseMethodDescriptor yX12_sure.desc).map (fun d => d.parameters.length) = some 2 := by decide +kernel
theorem kw_1895 : GoodIn tb (wsV RL 120 RX12 yX12_tooMany (Cond.code yX12_tooMany cX12_tooMany 3 (some .int) :: tb)) := gd_V wd_1895 wd_1896 wd_1897 wd_142 wd_1898
theorem kd_yX12_tooMany : yX12_tooMany.cls = RX12 ∧ yX12_tooMany.cls ≠ "java/lang/invoke/MethodHandle" ∧ yX12_tooMany.cls ≠ "java/lang/invoke/VarHandle" ∧ (parseMethodDescriptor yX12_tooMany.desc).map (fun d => d.parameters.length) = some 0 := by decide +kernel
theorem kw_1899 : GoodIn tb (wsV RL 124 RX12 yX12_best (Cond.code yX12_best cX12_best 2 (some .int) :: tb)) := gd_V wd_1899 wd_1900 wd_1901 wd_142 wd_1902
theorem kd_yX12_best : yX12_best.cls = RX12 ∧ yX12_best.cls ≠ "java/lang/invoke/MethodHandle" ∧ yX12_best.cls ≠ "java/lang/invoke/VarHandle" ∧ (parseMethodDescriptor yX12_best.desc).map (fun d => d.parameters.length) = some 1 := by decide +kernel
theorem kw_1903 : GoodIn tb (wsV RX12 387 RX12 yX12_asked (Cond.code yX12_asked cX12_asked 5 (some .int) :: tb)) := gd_V wd_1903 wd_1905 wd_111 wd_142 wd_1906
theorem kd_yX12_asked : yX12_asked.cls = RX12 ∧ yX12_asked.cls ≠ "java/lang/invoke/MethodHandle" ∧ yX12_asked.cls ≠ "java/lang/invoke/VarHandle" ∧ (parseMethodDescriptor yX12_asked.desc).map (fun d => d.parameters.length) = some 3 := by decide +kernel
theorem kw_1908 : GoodIn tb (wsV RX12 384 RX12 yX12_bestMap (Cond.code yX12_bestMap cX12_bestMap 6 (some .int) :: tb)) := gd_V wd_1908 wd_1910 wd_112 wd_142 wd_1911
theorem kd_yX12_bestMap : yX12_bestMap.cls = RX12 ∧ yX12_bestMap.cls ≠ "java/lang/invoke/MethodHandle" ∧ yX12_bestMap.cls ≠ "java/lang/invoke/VarHandle" ∧ (parseMethodDescriptor yX12_bestMap.desc).map (fun d => d.parameters.length) = some 1 := by decide +kernel
theorem kw_1912 : GoodIn tb (wsV RX12 379 RX12 yX12_valueIn (Cond.code yX12_valueIn cX12_valueIn 3 (some .int) :: tb)) := gd_V wd_1912 wd_1914 wd_113 wd_142 wd_1915
theorem kd_yX12_valueIn : yX12_valueIn.cls = RX12 ∧ yX12_valueIn.cls ≠ "java/lang/invoke/MethodHandle" ∧ yX12_valueIn.cls ≠ "java/lang/invoke/VarHandle" ∧ (parseMethodDescriptor yX12_valueIn.desc).map (fun d => d.parameters.length) = some 2 := by decide +kernel
theorem kw_1916 : GoodIn tb (wsV RX12 370 RX12 yX12_worthIn (Cond.code yX12_worthIn cX12_worthIn 4 (some .int) :: tb)) := gd_V wd_1916 wd_1918 wd_114 wd_142 wd_1919
theorem kd_yX12_worthIn : yX12_worthIn.cls = RX12 ∧ yX12_worthIn.cls ≠ "java/lang/invoke/MethodHandle" ∧ yX12_worthIn.cls ≠ "java/lang/invoke/VarHandle" ∧ (parseMethodDescriptor yX12_worthIn.desc).map (fun d => d.parameters.length) = some 1 := by decide +kernel
theorem kw_1920 : GoodIn tb (wsV RX12 373 RX12 yX12_leastIn (Cond.code yX12_leastIn cX12_leastIn 4 (some .int) :: tb)) := gd_V wd_1920 wd_1922 wd_115 wd_142 wd_1923
theorem kd_yX12_leastIn : yX12_leastIn.cls = RX12 ∧ yX12_leastIn.cls ≠ "java/lang/invoke/MethodHandle" ∧ yX12_leastIn.cls ≠ "java/lang/invoke/VarHandle" ∧ (parseMethodDescriptor yX12_leastIn.desc).map (fun d => d.parameters.length) = some 1 := by decide +kernel
theorem kw_1925 : GoodIn tb (wsV RX12 376 RX12 yX12_harmIn (Cond.code yX12_harmIn cX12_harmIn 5 (some .int) :: tb)) := gd_V wd_1925 wd_1927 wd_116 wd_142 wd_1928
theorem kd_yX12_harmIn : yX12_harmIn.cls = RX12 ∧ yX12_harmIn.cls ≠ "java/lang/invoke/MethodHandle" ∧ yX12_harmIn.cls ≠ "java/lang/invoke/VarHandle" ∧ (parseMethodDescriptor yX12_harmIn.desc).map (fun d => d.parameters.length) = some 1 := by decide +kernel
theorem kw_1929 : GoodIn tb (wsV RX12 366 RX12 yX12_harmOf (Cond.code yX12_harmOf cX12_harmOf 5 (some .int) :: tb)) := gd_V wd_1929 wd_1931 wd_117 wd_142 wd_1932
theorem kd_yX12_harmOf : yX12_harmOf.cls = RX12 ∧ yX12_harmOf.cls ≠ "java/lang/invoke/MethodHandle" ∧ yX12_harmOf.cls ≠ "java/lang/invoke/VarHandle" ∧ (parseMethodDescriptor yX12_harmOf.desc).map (fun d => d.parameters.length) = some 4 := by decide +kernel
theorem kw_1933 : GoodIn tb (wsV RL 128 RX12 yX12_fairest (Cond.code yX12_fairest cX12_fairest 2 (some .int) :: tb)) := gd_V wd_1933 wd_1934 wd_1935 wd_142 wd_1936
theorem kd_yX12_fairest : yX12_fairest.cls = RX12 ∧ yX12_fairest.cls ≠ "java/lang/invoke/MethodHandle" ∧ yX12_fairest.cls ≠ "java/lang/invoke/VarHandle" ∧ (parseMethodDescriptor yX12_fairest.desc).map (fun d => d.parameters.length) = some 1 := by decide +kernel
theorem kw_1937 : GoodIn tb (wsV RL 132 RX12 yX12_stillest (Cond.code yX12_stillest cX12_stillest 2 (some .int) :: tb)) := gd_V wd_1937 wd_1938 wd_1939 wd_142 wd_1940
theorem kd_yX12_stillest : yX12_stillest.cls = RX12 ∧ yX12_stillest.cls ≠ "java/lang/invoke/MethodHandle" ∧ yX12_stillest.cls ≠ "java/lang/invoke/VarHandle" ∧ (parseMethodDescriptor yX12_stillest.desc).map (fun d => d.parameters.length) = some 1 := by decide +kernel
theorem kw_1941 : GoodIn tb (wsV RL 136 RX12 yX12_bestMending (Cond.code yX12_bestMending cX12_bestMending 7 (some .int) :: tb)) := gd_V wd_1941 wd_1942 wd_1943 wd_142 wd_1944
theorem kd_yX12_bestMending : yX12_bestMending.cls = RX12 ∧ yX12_bestMending.cls ≠ "java/lang/invoke/MethodHandle" ∧ yX12_bestMending.cls ≠ "java/lang/invoke/VarHandle" ∧ (parseMethodDescriptor yX12_bestMending.desc).map (fun d => d.parameters.length) = some 0 := by decide +kernel
theorem kw_1945 : GoodIn tb (wsV RL 140 RX12 yX12_thisMap (Cond.code yX12_thisMap cX12_thisMap 4 (some .int) :: tb)) := gd_V wd_1945 wd_1946 wd_1947 wd_142 wd_1948
theorem kd_yX12_thisMap : yX12_thisMap.cls = RX12 ∧ yX12_thisMap.cls ≠ "java/lang/invoke/MethodHandle" ∧ yX12_thisMap.cls ≠ "java/lang/invoke/VarHandle" ∧ (parseMethodDescriptor yX12_thisMap.desc).map (fun d => d.parameters.length) = some 0 := by decide +kernel
theorem kw_1949 : GoodIn tb (wsV RL 144 RX12 yX12_harm (Cond.code yX12_harm cX12_harm 4 (some .int) :: tb)) := gd_V wd_1949 wd_1950 wd_1951 wd_142 wd_1952
theorem kd_yX12_harm : yX12_harm.cls = RX12 ∧ yX12_harm.cls ≠ "java/lang/invoke/MethodHandle" ∧ yX12_harm.cls ≠ "java/lang/invoke/VarHandle" ∧ (parseMethodDescriptor yX12_harm.desc).map (fun d => d.parameters.length) = some 0 := by decide +kernel
theorem kw_1953 : GoodIn tb (wsV RL 148 RX12 yX12_envies (Cond.code yX12_envies cX12_envies 4 (some .int) :: tb)) := gd_V wd_1953 wd_1954 wd_1955 wd_142 wd_1956
theorem kd_yX12_envies : yX12_envies.cls = RX12 ∧ yX12_envies.cls ≠ "java/lang/invoke/MethodHandle" ∧ yX12_envies.cls ≠ "java/lang/invoke/VarHandle" ∧ (parseMethodDescriptor yX12_envies.desc).map (fun d => d.parameters.length) = some 1 := by decide +kernel
theorem kw_1957 : GoodIn tb (wsV RX12 390 RX12 yX12_isEnvied (Cond.code yX12_isEnvied cX12_isEnvied 5 (some .boolean) :: tb)) := gd_V wd_1957 wd_1959 wd_118 wd_142 wd_1960
theorem kd_yX12_isEnvied : yX12_isEnvied.cls = RX12 ∧ yX12_isEnvied.cls ≠ "java/lang/invoke/MethodHandle" ∧ yX12_isEnvied.cls ≠ "java/lang/invoke/VarHandle" ∧ (parseMethodDescriptor yX12_isEnvied.desc).map (fun d => d.parameters.length) = some 2 := by decide +kernel
theorem kw_1961 : GoodIn tb (wsV RL 152 RX12 yX12_wouldSwap (Cond.code yX12_wouldSwap cX12_wouldSwap 3 (some .int) :: tb)) := gd_V wd_1961 wd_1962 wd_1963 wd_142 wd_1964
theorem kd_yX12_wouldSwap : yX12_wouldSwap.cls = RX12 ∧ yX12_wouldSwap.cls ≠ "java/lang/invoke/MethodHandle" ∧ yX12_wouldSwap.cls ≠ "java/lang/invoke/VarHandle" ∧ (parseMethodDescriptor yX12_wouldSwap.desc).map (fun d => d.parameters.length) = some 0 := by decide +kernel
theorem kw_1965 : GoodIn tb (wsV RL 156 RX12 yX12_byRings (Cond.code yX12_byRings cX12_byRings 2 (some .int) :: tb)) := gd_V wd_1965 wd_1966 wd_1967 wd_142 wd_1968
theorem kd_yX12_byRings : yX12_byRings.cls = RX12 ∧ yX12_byRings.cls ≠ "java/lang/invoke/MethodHandle" ∧ yX12_byRings.cls ≠ "java/lang/invoke/VarHandle" ∧ (parseMethodDescriptor yX12_byRings.desc).map (fun d => d.parameters.length) = some 1 := by decide +kernel
theorem kw_1969 : GoodIn tb (wsV RL 160 RX12 yX12_ringsMany (Cond.code yX12_ringsMany cX12_ringsMany 1 (some .int) :: tb)) := gd_V wd_1969 wd_1970 wd_1971 wd_142 wd_1972
theorem kd_yX12_ringsMany : yX12_ringsMany.cls = RX12 ∧ yX12_ringsMany.cls ≠ "java/lang/invoke/MethodHandle" ∧ yX12_ringsMany.cls ≠ "java/lang/invoke/VarHandle" ∧ (parseMethodDescriptor yX12_ringsMany.desc).map (fun d => d.parameters.length) = some 0 := by decide +kernel
theorem kw_1973 : GoodIn tb (wsV RL 164 RX12 yX12_moving (Cond.code yX12_moving cX12_moving 4 (some .int) :: tb)) := gd_V wd_1973 wd_1974 wd_1975 wd_142 wd_1976
theorem kd_yX12_moving : yX12_moving.cls = RX12 ∧ yX12_moving.cls ≠ "java/lang/invoke/MethodHandle" ∧ yX12_moving.cls ≠ "java/lang/invoke/VarHandle" ∧ (parseMethodDescriptor yX12_moving.desc).map (fun d => d.parameters.length) = some 2 := by decide +kernel
theorem kw_1977 : GoodIn tb (wsV RX12 400 RX12 yX12_moved (Cond.code yX12_moved cX12_moved 8 (some .int) :: tb)) := gd_V wd_1977 wd_1979 wd_119 wd_142 wd_1980
theorem kd_yX12_moved : yX12_moved.cls = RX12 ∧ yX12_moved.cls ≠ "java/lang/invoke/MethodHandle" ∧ yX12_moved.cls ≠ "java/lang/invoke/VarHandle" ∧ (parseMethodDescriptor yX12_moved.desc).map (fun d => d.parameters.length) = some 1 := by decide +kernel
theorem kw_1981 : GoodIn tb (wsV RX12 393 RX12 yX12_goesDay (Cond.code yX12_goesDay cX12_goesDay 10 none :: tb)) := gd_V wd_1981 wd_1983 wd_120 wd_142 wd_1984
theorem kd_yX12_goesDay : yX12_goesDay.cls = RX12 ∧ yX12_goesDay.cls ≠ "java/lang/invoke/MethodHandle" ∧ yX12_goesDay.cls ≠ "java/lang/invoke/VarHandle" ∧ (parseMethodDescriptor yX12_goesDay.desc).map (fun d => d.parameters.length) = some 5 := by decide +kernel
theorem kw_1985 : GoodIn tb (wsV RX12 397 RX12 yX12_isEmpty (Cond.code yX12_isEmpty cX12_isEmpty 4 (some .boolean) :: tb)) := gd_V wd_1985 wd_1987 wd_121 wd_142 wd_1988
theorem kd_yX12_isEmpty : yX12_isEmpty.cls = RX12 ∧ yX12_isEmpty.cls ≠ "java/lang/invoke/MethodHandle" ∧ yX12_isEmpty.cls ≠ "java/lang/invoke/VarHandle" ∧ (parseMethodDescriptor yX12_isEmpty.desc).map (fun d => d.parameters.length) = some 2 := by decide +kernel
theorem kw_1989 : GoodIn tb (wsV RL 168 RX12 yX12_nearest (Cond.code yX12_nearest cX12_nearest 5 (some .int) :: tb)) := gd_V wd_1989 wd_1990 wd_1991 wd_142 wd_1992
theorem kd_yX12_nearest : yX12_nearest.cls = RX12 ∧ yX12_nearest.cls ≠ "java/lang/invoke/MethodHandle" ∧ yX12_nearest.cls ≠ "java/lang/invoke/VarHandle" ∧ (parseMethodDescriptor yX12_nearest.desc).map (fun d => d.parameters.length) = some 0 := by decide +kernel
theorem kw_1993 : GoodIn tb (wsV RL 172 RX12 yX12_seen (Cond.code yX12_seen cX12_seen 3 (some .int) :: tb)) := gd_V wd_1993 wd_1994 wd_1995 wd_142 wd_1996
theorem kd_yX12_seen : yX12_seen.cls = RX12 ∧ yX12_seen.cls ≠ "java/lang/invoke/MethodHandle" ∧ yX12_seen.cls ≠ "java/lang/invoke/VarHandle" ∧ (parseMethodDescriptor yX12_seen.desc).map (fun d => d.parameters.length) = some 1 := by decide +kernel
theorem kw_1997 : GoodIn tb (wsV RX12 413 RX12 yX12_noSeen (Cond.code yX12_noSeen cX12_noSeen 6 (some .int) :: tb)) := gd_V wd_1997 wd_1999 wd_122 wd_142 wd_2000
theorem kd_yX12_noSeen : yX12_noSeen.cls = RX12 ∧ yX12_noSeen.cls ≠ "java/lang/invoke/MethodHandle" ∧ yX12_noSeen.cls ≠ "java/lang/invoke/VarHandle" ∧ (parseMethodDescriptor yX12_noSeen.desc).map (fun d => d.parameters.length) = some 1 := by decide +kernel
theorem kw_2003 : GoodIn tb (wsV RX12 416 RX12 yX12_laysSeen (Cond.code yX12_laysSeen cX12_laysSeen 4 none :: tb)) := gd_V wd_2003 wd_2005 wd_123 wd_142 wd_2006
theorem kd_yX12_laysSeen : yX12_laysSeen.cls = RX12 ∧ yX12_laysSeen.cls ≠ "java/lang/invoke/MethodHandle" ∧ yX12_laysSeen.cls ≠ "java/lang/invoke/VarHandle" ∧ (parseMethodDescriptor yX12_laysSeen.desc).map (fun d => d.parameters.length) = some 1 := by decide +kernel
theorem kw_2007 : GoodIn tb (wsV RX12 410 RX12 yX12_isSeen (Cond.code yX12_isSeen cX12_isSeen 4 (some .boolean) :: tb)) := gd_V wd_2007 wd_2009 wd_124 wd_142 wd_2010
theorem kd_yX12_isSeen : yX12_isSeen.cls = RX12 ∧ yX12_isSeen.cls ≠ "java/lang/invoke/MethodHandle" ∧ yX12_isSeen.cls ≠ "java/lang/invoke/VarHandle" ∧ (parseMethodDescriptor yX12_isSeen.desc).map (fun d => d.parameters.length) = some 2 := by decide +kernel
theorem kw_2011 : GoodIn tb (wsV RX12 407 RX12 yX12_whoIn (Cond.code yX12_whoIn cX12_whoIn 4 (some .int) :: tb)) := gd_V wd_2011 wd_2013 wd_125 wd_142 wd_2014
theorem kd_yX12_whoIn : yX12_whoIn.cls = RX12 ∧ yX12_whoIn.cls ≠ "java/lang/invoke/MethodHandle" ∧ yX12_whoIn.cls ≠ "java/lang/invoke/VarHandle" ∧ (parseMethodDescriptor yX12_whoIn.desc).map (fun d => d.parameters.length) = some 2 := by decide +kernel
theorem kw_2015 : GoodIn tb (wsV RL 176 RX12 yX12_had (Cond.code yX12_had cX12_had 4 (some .int) :: tb)) := gd_V wd_2015 wd_2016 wd_2017 wd_142 wd_2018
theorem kd_yX12_had : yX12_had.cls = RX12 ∧ yX12_had.cls ≠ "java/lang/invoke/MethodHandle" ∧ yX12_had.cls ≠ "java/lang/invoke/VarHandle" ∧ (parseMethodDescriptor yX12_had.desc).map (fun d => d.parameters.length) = some 2 := by decide +kernel
theorem kw_2019 : GoodIn tb (wsV RL 180 RX12 yX12_wall (Cond.code yX12_wall cX12_wall 7 (some .int) :: tb)) := gd_V wd_2019 wd_2020 wd_2021 wd_142 wd_2022
theorem kd_yX12_wall : yX12_wall.cls = RX12 ∧ yX12_wall.cls ≠ "java/lang/invoke/MethodHandle" ∧ yX12_wall.cls ≠ "java/lang/invoke/VarHandle" ∧ (parseMethodDescriptor yX12_wall.desc).map (fun d => d.parameters.length) = some 1 := by decide +kernel
theorem kw_2023 : GoodIn tb (wsV RX12 419 RX12 yX12_mostOften (Cond.code yX12_mostOften cX12_mostOften 6 (some .int) :: tb)) := gd_V wd_2023 wd_2025 wd_126 wd_142 wd_2026
theorem kd_yX12_mostOften : yX12_mostOften.cls = RX12 ∧ yX12_mostOften.cls ≠ "java/lang/invoke/MethodHandle" ∧ yX12_mostOften.cls ≠ "java/lang/invoke/VarHandle" ∧ (parseMethodDescriptor yX12_mostOften.desc).map (fun d => d.parameters.length) = some 1 := by decide +kernel
theorem kw_2027 : GoodIn tb (wsV RL 185 RX12 yX12_numbers (Cond.code yX12_numbers cX12_numbers 5 (some .int) :: tb)) := gd_V wd_2027 wd_2028 wd_2029 wd_142 wd_2030
theorem kd_yX12_numbers : yX12_numbers.cls = RX12 ∧ yX12_numbers.cls ≠ "java/lang/invoke/MethodHandle" ∧ yX12_numbers.cls ≠ "java/lang/invoke/VarHandle" ∧ (parseMethodDescriptor yX12_numbers.desc).map (fun d => d.parameters.length) = some 3 := by decide +kernel
theorem kw_2032 : GoodIn tb (wsV RL 192 RX12 yX12_write (Cond.code yX12_write cX12_write 6 (some .long) :: tb)) := gd_V wd_2032 wd_2033 wd_2034 wd_142 wd_2035
theorem kd_yX12_write : yX12_write.cls = RX12 ∧ yX12_write.cls ≠ "java/lang/invoke/MethodHandle" ∧ yX12_write.cls ≠ "java/lang/invoke/VarHandle" ∧ (parseMethodDescriptor yX12_write.desc).map (fun d => d.parameters.length) = some 3 := by decide +kernel
theorem kw_2037 : GoodIn tb (va_wsS RX12 426 yX12_cut (Cond.code yX12_cut cX12_cut 3 (some .long) :: tb)) := gd_S wd_2037 wd_2038 wd_142 wd_2039
theorem kd_yX12_cut : yX12_cut.cls ≠ "java/lang/invoke/MethodHandle" ∧ yX12_cut.cls ≠ "java/lang/invoke/VarHandle" ∧ (parseMethodDescriptor yX12_cut.desc).map (fun d => d.parameters.length) = some 2 := by decide +kernel
theorem kw_2040 : GoodIn tb (wsV RL 196 RX12 yX12_lists (Cond.code yX12_lists cX12_lists 5 (some .int) :: tb)) := gd_V wd_2040 wd_2041 wd_2042 wd_142 wd_2043
theorem kd_yX12_lists : yX12_lists.cls = RX12 ∧ yX12_lists.cls ≠ "java/lang/invoke/MethodHandle" ∧ yX12_lists.cls ≠ "java/lang/invoke/VarHandle" ∧ (parseMethodDescriptor yX12_lists.desc).map (fun d => d.parameters.length) = some 1 := by decide +kernel
theorem kw_2044 : GoodIn tb (wsV RL 200 RX12 yX12_image (Cond.code yX12_image cX12_image 3 (some .int) :: tb)) := gd_V wd_2044 wd_2045 wd_2046 wd_142 wd_2047
theorem kd_yX12_image : yX12_image.cls = RX12 ∧ yX12_image.cls ≠ "java/lang/invoke/MethodHandle" ∧ yX12_image.cls ≠ "java/lang/invoke/VarHandle" ∧ (parseMethodDescriptor yX12_image.desc).map (fun d => d.parameters.length) = some 1 := by decide +kernel
theorem kw_2048 : GoodIn tb (wsV RL 204 RX12 yX12_restore (Cond.code yX12_restore cX12_restore 3 (some .int) :: tb)) := gd_V wd_2048 wd_2049 wd_2050 wd_142 wd_2051
theorem kd_yX12_restore : yX12_restore.cls = RX12 ∧ yX12_restore.cls ≠ "java/lang/invoke/MethodHandle" ∧ yX12_restore.cls ≠ "java/lang/invoke/VarHandle" ∧ (parseMethodDescriptor yX12_restore.desc).map (fun d => d.parameters.length) = some 1 := by decide +kernel
theorem kw_2052 : GoodIn tb (wsV RL 208 RX12 yX12_count (Cond.code yX12_count cX12_count 2 (some .int) :: tb)) := gd_V wd_2052 wd_2053 wd_2054 wd_142 wd_2055
theorem kd_yX12_count : yX12_count.cls = RX12 ∧ yX12_count.cls ≠ "java/lang/invoke/MethodHandle" ∧ yX12_count.cls ≠ "java/lang/invoke/VarHandle" ∧ (parseMethodDescriptor yX12_count.desc).map (fun d => d.parameters.length) = some 1 := by decide +kernel
theorem kw_2056 : GoodIn tb (wsV RX12 430 RX12 yX12_faultsMany (Cond.code yX12_faultsMany cX12_faultsMany 3 (some .int) :: tb)) := gd_V wd_2056 wd_2058 wd_127 wd_142 wd_2059
theorem kd_yX12_faultsMany : yX12_faultsMany.cls = RX12 ∧ yX12_faultsMany.cls ≠ "java/lang/invoke/MethodHandle" ∧ yX12_faultsMany.cls ≠ "java/lang/invoke/VarHandle" ∧ (parseMethodDescriptor yX12_faultsMany.desc).map (fun d => d.parameters.length) = some 0 := by decide +kernel
theorem kd_yX2_init : yX2_init.cls ≠ "java/lang/invoke/MethodHandle" ∧ yX2_init.cls ≠ "java/lang/invoke/VarHandle" ∧ (parseMethodDescriptor yX2_init.desc).map (fun d => d.parameters.length) = some 0 := by decide +kernel
theorem kd_yX7_init : yX7_init.cls ≠ "java/lang/invoke/MethodHandle" ∧ yX7_init.cls ≠ "java/lang/invoke/VarHandle" ∧ (parseMethodDescriptor yX7_init.desc).map (fun d => d.parameters.length) = some 0 := by decide +kernel
theorem kd_yX5_init : yX5_init.cls ≠ "java/lang/invoke/MethodHandle" ∧ yX5_init.cls ≠ "java/lang/invoke/VarHandle" ∧ (parseMethodDescriptor yX5_init.desc).map (fun d => d.parameters.length) = some 0 := by decide +kernel
theorem kd_yX10_init : yX10_init.cls ≠ "java/lang/invoke/MethodHandle" ∧ yX10_init.cls ≠ "java/lang/invoke/VarHandle" ∧ (parseMethodDescriptor yX10_init.desc).map (fun d => d.parameters.length) = some 0 := by decide +kernel
end
section
theorem dJ7_fill_53178_0 : decode cJ7_fill_53178 0 = .ok (.iconst 0, 1) := by decide +kernel
theorem dJ7_fill_53178_1 : decode cJ7_fill_53178 1 = .ok (.istore_n 2, 1) := by decide +kernel
theorem dJ7_fill_53178_2 : decode cJ7_fill_53178 2 = .ok (.aload_n 0, 1) := by decide +kernel
theorem dJ7_fill_53178_3 : decode cJ7_fill_53178 3 = .ok (.arraylength, 1) := by decide +kernel
theorem dJ7_fill_53178_4 : decode cJ7_fill_53178 4 = .ok (.istore_n 3, 1) := by decide +kernel
theorem dJ7_fill_53178_5 : decode cJ7_fill_53178 5 = .ok (.iload_n 2, 1) := by decide +kernel
theorem dJ7_fill_53178_6 : decode cJ7_fill_53178 6 = .ok (.iload_n 3, 1) := by decide +kernel
theorem dJ7_fill_53178_7 : decode cJ7_fill_53178 7 = .ok (.if_icmp .ge 13, 3) := by decide +kernel
theorem dJ7_fill_53178_10 : decode cJ7_fill_53178 10 = .ok (.aload_n 0, 1) := by decide +kernel
theorem dJ7_fill_53178_11 : decode cJ7_fill_53178 11 = .ok (.iload_n 2, 1) := by decide +kernel
theorem dJ7_fill_53178_12 : decode cJ7_fill_53178 12 = .ok (.iload_n 1, 1) := by decide +kernel
theorem dJ7_fill_53178_13 : decode cJ7_fill_53178 13 = .ok (.iastore, 1) := by decide +kernel
theorem dJ7_fill_53178_14 : decode cJ7_fill_53178 14 = .ok (.iinc 2 1, 3) := by decide +kernel
theorem dJ7_fill_53178_17 : decode cJ7_fill_53178 17 = .ok (.goto (-12), 3) := by decide +kernel
theorem dJ7_fill_53178_20 : decode cJ7_fill_53178 20 = .ok (.return_, 1) := by decide +kernel
theorem dX2_init_0 : decode cX2_init 0 = .ok (.aload_n 0, 1) := by decide +kernel
theorem dX2_init_1 : decode cX2_init 1 = .ok (.invokespecial 3, 3) := by decide +kernel
theorem dX2_init_4 : decode cX2_init 4 = .ok (.aload_n 0, 1) := by decide +kernel
theorem dX2_init_5 : decode cX2_init 5 = .ok (.iconst 0, 1) := by decide +kernel
theorem dX2_init_6 : decode cX2_init 6 = .ok (.putfield 9, 3) := by decide +kernel
theorem dX2_init_9 : decode cX2_init 9 = .ok (.aload_n 0, 1) := by decide +kernel
theorem dX2_init_10 : decode cX2_init 10 = .ok (.iconst 0, 1) := by decide +kernel
theorem dX2_init_11 : decode cX2_init 11 = .ok (.putfield 15, 3) := by decide +kernel
theorem dX2_init_14 : decode cX2_init 14 = .ok (.aload_n 0, 1) := by decide +kernel
theorem dX2_init_15 : decode cX2_init 15 = .ok (.iconst 0, 1) := by decide +kernel
theorem dX2_init_16 : decode cX2_init 16 = .ok (.putfield 18, 3) := by decide +kernel
theorem dX2_init_19 : decode cX2_init 19 = .ok (.aload_n 0, 1) := by decide +kernel
theorem dX2_init_20 : decode cX2_init 20 = .ok (.bipush 32, 2) := by decide +kernel
theorem dX2_init_22 : decode cX2_init 22 = .ok (.newarray .int, 2) := by decide +kernel
theorem dX2_init_24 : decode cX2_init 24 = .ok (.putfield 21, 3) := by decide +kernel
theorem dX2_init_27 : decode cX2_init 27 = .ok (.aload_n 0, 1) := by decide +kernel
theorem dX2_init_28 : decode cX2_init 28 = .ok (.bipush 35, 2) := by decide +kernel
theorem dX2_init_30 : decode cX2_init 30 = .ok (.newarray .int, 2) := by decide +kernel
theorem dX2_init_32 : decode cX2_init 32 = .ok (.putfield 25, 3) := by decide +kernel
theorem dX2_init_35 : decode cX2_init 35 = .ok (.aload_n 0, 1) := by decide +kernel
theorem dX2_init_36 : decode cX2_init 36 = .ok (.sipush 900, 3) := by decide +kernel
theorem dX2_init_39 : decode cX2_init 39 = .ok (.newarray .int, 2) := by decide +kernel
theorem dX2_init_41 : decode cX2_init 41 = .ok (.putfield 28, 3) := by decide +kernel
theorem dX2_init_44 : decode cX2_init 44 = .ok (.aload_n 0, 1) := by decide +kernel
theorem dX2_init_45 : decode cX2_init 45 = .ok (.iconst 0, 1) := by decide +kernel
theorem dX2_init_46 : decode cX2_init 46 = .ok (.putfield 31, 3) := by decide +kernel
theorem dX2_init_49 : decode cX2_init 49 = .ok (.aload_n 0, 1) := by decide +kernel
theorem dX2_init_50 : decode cX2_init 50 = .ok (.iconst 0, 1) := by decide +kernel
theorem dX2_init_51 : decode cX2_init 51 = .ok (.putfield 34, 3) := by decide +kernel
theorem dX2_init_54 : decode cX2_init 54 = .ok (.aload_n 0, 1) := by decide +kernel
theorem dX2_init_55 : decode cX2_init 55 = .ok (.iconst 0, 1) := by decide +kernel
theorem dX2_init_56 : decode cX2_init 56 = .ok (.putfield 37, 3) := by decide +kernel
theorem dX2_init_59 : decode cX2_init 59 = .ok (.aload_n 0, 1) := by decide +kernel
theorem dX2_init_60 : decode cX2_init 60 = .ok (.iconst 0, 1) := by decide +kernel
theorem dX2_init_61 : decode cX2_init 61 = .ok (.putfield 40, 3) := by decide +kernel
theorem dX2_init_64 : decode cX2_init 64 = .ok (.aload_n 0, 1) := by decide +kernel
theorem dX2_init_65 : decode cX2_init 65 = .ok (.iconst 0, 1) := by decide +kernel
theorem dX2_init_66 : decode cX2_init 66 = .ok (.putfield 43, 3) := by decide +kernel
theorem dX2_init_69 : decode cX2_init 69 = .ok (.aload_n 0, 1) := by decide +kernel
theorem dX2_init_70 : decode cX2_init 70 = .ok (.new 46, 3) := by decide +kernel
theorem dX2_init_73 : decode cX2_init 73 = .ok (.dup, 1) := by decide +kernel
theorem dX2_init_74 : decode cX2_init 74 = .ok (.invokespecial 48, 3) := by decide +kernel
theorem dX2_init_77 : decode cX2_init 77 = .ok (.putfield 49, 3) := by decide +kernel
theorem dX2_init_80 : decode cX2_init 80 = .ok (.aload_n 0, 1) := by decide +kernel
theorem dX2_init_81 : decode cX2_init 81 = .ok (.iconst 0, 1) := by decide +kernel
theorem dX2_init_82 : decode cX2_init 82 = .ok (.putfield 53, 3) := by decide +kernel
theorem dX2_init_85 : decode cX2_init 85 = .ok (.return_, 1) := by decide +kernel
theorem dX4_init_0 : decode cX4_init 0 = .ok (.aload_n 0, 1) := by decide +kernel
theorem dX4_init_1 : decode cX4_init 1 = .ok (.invokespecial 3, 3) := by decide +kernel
theorem dX4_init_4 : decode cX4_init 4 = .ok (.aload_n 0, 1) := by decide +kernel
theorem dX4_init_5 : decode cX4_init 5 = .ok (.bipush 7, 2) := by decide +kernel
theorem dX4_init_7 : decode cX4_init 7 = .ok (.newarray .int, 2) := by decide +kernel
theorem dX4_init_9 : decode cX4_init 9 = .ok (.putfield 9, 3) := by decide +kernel
theorem dX4_init_12 : decode cX4_init 12 = .ok (.aload_n 0, 1) := by decide +kernel
theorem dX4_init_13 : decode cX4_init 13 = .ok (.bipush 56, 2) := by decide +kernel
theorem dX4_init_15 : decode cX4_init 15 = .ok (.newarray .int, 2) := by decide +kernel
theorem dX4_init_17 : decode cX4_init 17 = .ok (.putfield 15, 3) := by decide +kernel
theorem dX4_init_20 : decode cX4_init 20 = .ok (.aload_n 0, 1) := by decide +kernel
theorem dX4_init_21 : decode cX4_init 21 = .ok (.bipush 8, 2) := by decide +kernel
theorem dX4_init_23 : decode cX4_init 23 = .ok (.newarray .int, 2) := by decide +kernel
theorem dX4_init_25 : decode cX4_init 25 = .ok (.putfield 18, 3) := by decide +kernel
theorem dX4_init_28 : decode cX4_init 28 = .ok (.aload_n 0, 1) := by decide +kernel
theorem dX4_init_29 : decode cX4_init 29 = .ok (.iconst 0, 1) := by decide +kernel
theorem dX4_init_30 : decode cX4_init 30 = .ok (.putfield 21, 3) := by decide +kernel
theorem dX4_init_33 : decode cX4_init 33 = .ok (.aload_n 0, 1) := by decide +kernel
theorem dX4_init_34 : decode cX4_init 34 = .ok (.getfield 9, 3) := by decide +kernel
theorem dX4_init_37 : decode cX4_init 37 = .ok (.iconst (-1), 1) := by decide +kernel
theorem dX4_init_38 : decode cX4_init 38 = .ok (.invokestatic 25, 3) := by decide +kernel
theorem dX4_init_41 : decode cX4_init 41 = .ok (.return_, 1) := by decide +kernel
theorem dX5_init_0 : decode cX5_init 0 = .ok (.aload_n 0, 1) := by decide +kernel
theorem dX5_init_1 : decode cX5_init 1 = .ok (.invokespecial 3, 3) := by decide +kernel
theorem dX5_init_4 : decode cX5_init 4 = .ok (.aload_n 0, 1) := by decide +kernel
theorem dX5_init_5 : decode cX5_init 5 = .ok (.bipush 56, 2) := by decide +kernel
theorem dX5_init_7 : decode cX5_init 7 = .ok (.newarray .int, 2) := by decide +kernel
theorem dX5_init_9 : decode cX5_init 9 = .ok (.putfield 9, 3) := by decide +kernel
theorem dX5_init_12 : decode cX5_init 12 = .ok (.aload_n 0, 1) := by decide +kernel
theorem dX5_init_13 : decode cX5_init 13 = .ok (.sipush 256, 3) := by decide +kernel
theorem dX5_init_16 : decode cX5_init 16 = .ok (.newarray .int, 2) := by decide +kernel
theorem dX5_init_18 : decode cX5_init 18 = .ok (.putfield 15, 3) := by decide +kernel
theorem dX5_init_21 : decode cX5_init 21 = .ok (.aload_n 0, 1) := by decide +kernel
theorem dX5_init_22 : decode cX5_init 22 = .ok (.sipush 256, 3) := by decide +kernel
theorem dX5_init_25 : decode cX5_init 25 = .ok (.newarray .int, 2) := by decide +kernel
theorem dX5_init_27 : decode cX5_init 27 = .ok (.putfield 18, 3) := by decide +kernel
theorem dX5_init_30 : decode cX5_init 30 = .ok (.aload_n 0, 1) := by decide +kernel
theorem dX5_init_31 : decode cX5_init 31 = .ok (.sipush 256, 3) := by decide +kernel
theorem dX5_init_34 : decode cX5_init 34 = .ok (.newarray .int, 2) := by decide +kernel
theorem dX5_init_36 : decode cX5_init 36 = .ok (.putfield 21, 3) := by decide +kernel
theorem dX5_init_39 : decode cX5_init 39 = .ok (.aload_n 0, 1) := by decide +kernel
theorem dX5_init_40 : decode cX5_init 40 = .ok (.bipush 7, 2) := by decide +kernel
theorem dX5_init_42 : decode cX5_init 42 = .ok (.newarray .int, 2) := by decide +kernel
theorem dX5_init_44 : decode cX5_init 44 = .ok (.putfield 24, 3) := by decide +kernel
theorem dX5_init_47 : decode cX5_init 47 = .ok (.aload_n 0, 1) := by decide +kernel
theorem dX5_init_48 : decode cX5_init 48 = .ok (.iconst 0, 1) := by decide +kernel
theorem dX5_init_49 : decode cX5_init 49 = .ok (.putfield 27, 3) := by decide +kernel
theorem dX5_init_52 : decode cX5_init 52 = .ok (.aload_n 0, 1) := by decide +kernel
theorem dX5_init_53 : decode cX5_init 53 = .ok (.iconst 0, 1) := by decide +kernel
theorem dX5_init_54 : decode cX5_init 54 = .ok (.putfield 31, 3) := by decide +kernel
theorem dX5_init_57 : decode cX5_init 57 = .ok (.return_, 1) := by decide +kernel
end
section
set_option maxHeartbeats 4000000 in
set_option maxRecDepth 100000 in
theorem ylp1 {p : Program} {l : Launch} {e : Env} {R : Room} {s : State} {m : MethodId} {args : Array Value} {below : List Frame} {meth : Method} {c : Code} {cells slots : Nat} {Q : State → Prop} {D : va_G} {ct : Nat → ClassId} {A : Nat → Prop} {a0 : Nat} {f0 : Nat → Int32} (X : CX p m c cJ7_fill_53178 4 s args RJ7 D ct) (kk : ∀ (g : Nat → Int32), g = (va_cpy (fun _ => (-1)) f0 0 0 7) → ∀ (H : Heap) (locs : List Loc) (ls : Array Slot), WD D A s.heap H locs [(a0, .inl (ct 0, 7, .inl g))] → lv_has ls 4 [(3, .int 7), (2, .int (nI 7)), (0, .ref a0), (1, .int (-1))] → W p l e R s m args below meth c H locs cells slots Q (F0 m 20 ls [])) : ∀ (n k : Nat), k + n = 7 → ∀ (g : Nat → Int32), g = (va_cpy (fun _ => (-1)) f0 0 0 k) → ∀ (H : Heap) (locs : List Loc) (ls : Array Slot), WD D A s.heap H locs [(a0, .inl (ct 0, 7, .inl g))] → lv_has ls 4 [(3, .int 7), (2, .int (nI k)), (0, .ref a0), (1, .int (-1))] → W p l e R s m args below meth c H locs cells slots Q (F0 m 5 ls []) := by
  obtain ⟨⟨hx, hb, hml, hown, hts⟩, hK⟩ := id X
  intro n
  induction n with
  | zero =>
    intro k hk g hg H locs ls hw hl
    obtain rfl : k = 7 := by omega
    refine lv_iload_n hx hb dJ7_fill_53178_5 rfl (lv_at hl 1 rfl) ?_
    refine lv_iload_n hx hb dJ7_fill_53178_6 rfl (lv_at hl 0 rfl) ?_
    refine lv_icmp_ge (tgt := 20) hx hb dJ7_fill_53178_7 (by decide) (fun _ => ?_) (fun h => absurd (nI_le (a := 7) (b := 7) (Nat.le_refl _) (by omega)) h)
    exact kk g hg _ _ _ hw hl
  | succ n ih =>
    intro k hk g hg H locs ls hw hl
    refine lv_iload_n hx hb dJ7_fill_53178_5 rfl (lv_at hl 1 rfl) ?_
    refine lv_iload_n hx hb dJ7_fill_53178_6 rfl (lv_at hl 0 rfl) ?_
    refine lv_icmp_ge (tgt := 20) hx hb dJ7_fill_53178_7 (by decide) (fun h => absurd h (nI_ge (a := k) (b := 7) (by omega) (by omega))) (fun _ => ?_)
    refine lv_aload_n hx hb dJ7_fill_53178_10 rfl (lv_at hl 2 rfl) ?_
    refine lv_iload_n hx hb dJ7_fill_53178_11 rfl (lv_at hl 1 rfl) ?_
    refine lv_iload_n hx hb dJ7_fill_53178_12 rfl (lv_at hl 3 rfl) ?_
    refine j_iast (j := (k)) X hw 0 rfl (nI_pos (by omega)) (nI_clamp (by omega)) (by omega) dJ7_fill_53178_13 [(a0, .inl (ct 0, 7, .inl (upd g (k) (-1))))] rfl (fun H locs hw => ?_)
    refine lv_iinc (v := (nI (k + 1))) (lv' := [(2, .int (nI (k + 1))), (3, .int 7), (0, .ref a0), (1, .int (-1))]) hx hb dJ7_fill_53178_14 hl (k := 1) rfl (nI_add _ _) (by decide) rfl (fun ls hl => ?_)
    refine lv_goto (tgt := 5) hx hb dJ7_fill_53178_17 (by decide) ?_
    exact ih (k + 1) (by omega) _ (by rw [hg]; exact cpy_s _ _ _ _ _ _ _ (by omega) rfl) _ _ _ hw (lv_sub hl [1, 0, 2, 3] rfl)
set_option maxHeartbeats 4000000 in
set_option maxRecDepth 100000 in
theorem c1_J7_fill_53178 (l : Launch) (D : va_G) (ct : Nat → ClassId) (a0 : Nat) (f0 : Nat → Int32) : CV l yJ7_fill_53178 cJ7_fill_53178 4 none { frames := 0, cells := 0, slots := 0, locals := 0 } D ct [.ref a0, .int (-1)] [(a0, .inl (ct 0, 7, .inl f0))] True (fun u => [(a0, .inl (ct 0, 7, .inl (va_cpy (fun _ => (-1)) f0 0 0 7)))]) := by
  refine CV.of (by decide +kernel) (Nat.le_of_ble_eq_true rfl) ?_
  intro p e s m below meth c A ls hE
  obtain ⟨X, hr, hlk, hnm, hw, hl⟩ := hE
  have X : CX p m c cJ7_fill_53178 4 s [.ref a0, .int (-1)].toArray RJ7 D ct := X
  have hl : lv_has ls 4 [(0, .ref a0), (1, .int (-1))] := hl
  obtain ⟨⟨hx, hb, hml, hown, hts⟩, hK⟩ := id X
  refine lv_iconst (v := 0) hx hb dJ7_fill_53178_0 (by decide) ?_
  refine lv_istore_n (lv' := [(2, .int 0), (0, .ref a0), (1, .int (-1))]) hx hb dJ7_fill_53178_1 rfl hl (by decide) rfl (fun ls hl => ?_)
  refine lv_aload_n hx hb dJ7_fill_53178_2 rfl (lv_at hl 1 rfl) ?_
  refine k_alen (v := 7) X hw 0 0 rfl rfl rfl dJ7_fill_53178_3 ?_
  refine lv_istore_n (lv' := [(3, .int 7), (2, .int 0), (0, .ref a0), (1, .int (-1))]) hx hb dJ7_fill_53178_4 rfl hl (by decide) rfl (fun ls hl => ?_)
  refine ylp1 X (fun g hg H locs ls hw hl => ?_) 7 0 (by omega) _ (cpy_0 _ _ _ _) _ _ _ hw hl
  subst hg
  have hw : WD D A s.heap _ _ [(a0, .inl (ct 0, 7, .inl (va_cpy (fun _ => (-1)) f0 0 0 7)))] := hw
  have hl : lv_has ls 4 [(3, .int 7), (2, .int 7), (0, .ref a0), (1, .int (-1))] := hl
  exact r_v X hr hlk hw [0] (fun _ => 0) rfl rfl trivial (by decide) (by decide) dJ7_fill_53178_20
set_option maxHeartbeats 4000000 in
set_option maxRecDepth 100000 in
theorem c2_X4_init (l : Launch) (D : va_G) (ct : Nat → ClassId) (a0 : Nat) : CV l yX4_init cX4_init 1 none { frames := 1, cells := 3, slots := 71, locals := 23 } D ct [.ref a0] [(a0, .inr (4, [.null, .null, .null, .int 0]))] True (fun u => [(a0, .inr (4, [.ref (u 2), .ref (u 0), .ref (u 1), .int 0])), ((u 0), .inl (ct 0, 56, .inl (fun _ => 0))), ((u 1), .inl (ct 0, 8, .inl (fun _ => 0))), ((u 2), .inl (ct 0, 7, .inl (va_cpy (fun _ => (-1)) (fun _ => 0) 0 0 7)))]) := by
  refine CV.of (by decide +kernel) (Nat.le_of_ble_eq_true rfl) ?_
  intro p e s m below meth c A ls hE
  obtain ⟨X, hr, hlk, hnm, hw, hl⟩ := hE
  have X : CX p m c cX4_init 1 s [.ref a0].toArray RX4 D ct := X
  have hl : lv_has ls 1 [(0, .ref a0)] := hl
  obtain ⟨⟨hx, hb, hml, hown, hts⟩, hK⟩ := id X
  refine lv_aload_n hx hb dX4_init_0 rfl (lv_at hl 0 rfl) ?_
  refine k_objInit X hl.1 wd_170 wd_157 wd_158 (by decide) (by decide) dX4_init_1 ?_
  refine lv_aload_n hx hb dX4_init_4 rfl (lv_at hl 0 rfl) ?_
  refine lv_bipush (v := 7) hx hb dX4_init_5 (by decide) ?_
  refine k_newa (N' := 7) (a0 := (7, .inl (fun _ => 0))) X hw 0 rfl rfl wd_207 (fun _ => rfl) (by decide) (by decide) (by decide) (by decide) (by decide) dX4_init_7 (fun q1 H hw => ?_)
  replace hw : WD D A s.heap _ _ [(a0, .inr (4, [.null, .null, .null, .int 0])), (q1, .inl (ct 0, 7, .inl (fun _ => 0)))] := hw
  refine fp_174 X hnm hw 0 rfl rfl rfl (Nat.le_of_ble_eq_true rfl) dX4_init_9 [(a0, .inr (4, [.ref q1, .null, .null, .int 0])), (q1, .inl (ct 0, 7, .inl (fun _ => 0)))] rfl (fun H locs hw => ?_)
  refine lv_aload_n hx hb dX4_init_12 rfl (lv_at hl 0 rfl) ?_
  refine lv_bipush (v := 56) hx hb dX4_init_13 (by decide) ?_
  refine k_newa (N' := 56) (a0 := (56, .inl (fun _ => 0))) X hw 0 rfl rfl wd_207 (fun _ => rfl) (by decide) (by decide) (by decide) (by decide) (by decide) dX4_init_15 (fun q2 H hw => ?_)
  replace hw : WD D A s.heap _ _ [(a0, .inr (4, [.ref q1, .null, .null, .int 0])), (q1, .inl (ct 0, 7, .inl (fun _ => 0))), (q2, .inl (ct 0, 56, .inl (fun _ => 0)))] := hw
  refine fp_182 X hnm hw 0 rfl rfl rfl (Nat.le_of_ble_eq_true rfl) dX4_init_17 [(a0, .inr (4, [.ref q1, .ref q2, .null, .int 0])), (q1, .inl (ct 0, 7, .inl (fun _ => 0))), (q2, .inl (ct 0, 56, .inl (fun _ => 0)))] rfl (fun H locs hw => ?_)
  refine lv_aload_n hx hb dX4_init_20 rfl (lv_at hl 0 rfl) ?_
  refine lv_bipush (v := 8) hx hb dX4_init_21 (by decide) ?_
  refine k_newa (N' := 8) (a0 := (8, .inl (fun _ => 0))) X hw 0 rfl rfl wd_207 (fun _ => rfl) (by decide) (by decide) (by decide) (by decide) (by decide) dX4_init_23 (fun q3 H hw => ?_)
  replace hw : WD D A s.heap _ _ [(a0, .inr (4, [.ref q1, .ref q2, .null, .int 0])), (q1, .inl (ct 0, 7, .inl (fun _ => 0))), (q2, .inl (ct 0, 56, .inl (fun _ => 0))), (q3, .inl (ct 0, 8, .inl (fun _ => 0)))] := hw
  refine fp_186 X hnm hw 0 rfl rfl rfl (Nat.le_of_ble_eq_true rfl) dX4_init_25 [(a0, .inr (4, [.ref q1, .ref q2, .ref q3, .int 0])), (q1, .inl (ct 0, 7, .inl (fun _ => 0))), (q2, .inl (ct 0, 56, .inl (fun _ => 0))), (q3, .inl (ct 0, 8, .inl (fun _ => 0)))] rfl (fun H locs hw => ?_)
  refine lv_aload_n hx hb dX4_init_28 rfl (lv_at hl 0 rfl) ?_
  refine lv_iconst (v := 0) hx hb dX4_init_29 (by decide) ?_
  refine fp_192 X hw 0 rfl rfl rfl (Nat.le_of_ble_eq_true rfl) dX4_init_30 [(a0, .inr (4, [.ref q1, .ref q2, .ref q3, .int 0])), (q1, .inl (ct 0, 7, .inl (fun _ => 0))), (q2, .inl (ct 0, 56, .inl (fun _ => 0))), (q3, .inl (ct 0, 8, .inl (fun _ => 0)))] rfl (fun H locs hw => ?_)
  refine lv_aload_n hx hb dX4_init_33 rfl (lv_at hl 0 rfl) ?_
  refine fg_174 X hw 0 rfl rfl dX4_init_34 ?_
  refine lv_iconst (v := (-1)) hx hb dX4_init_37 (by decide) ?_
  refine m_Sv (As := [.ref q1, .int (-1)]) (rest := []) (c1_J7_fill_53178 l D ct q1 (fun _ => 0)) X hl.1 kw_171 kd_yJ7_fill_53178 hw [1] [0, 2, 3] rfl rfl rfl rfl (by decide) ⟨by decide, by decide⟩ rfl rfl (by decide) dX4_init_38 ⟨by decide, by decide⟩ (fun u5 H locs hr6 hw => ?_)
  replace hw : WD D A s.heap _ _ [(a0, .inr (4, [.ref q1, .ref q2, .ref q3, .int 0])), (q2, .inl (ct 0, 56, .inl (fun _ => 0))), (q3, .inl (ct 0, 8, .inl (fun _ => 0))), (q1, .inl (ct 0, 7, .inl (va_cpy (fun _ => (-1)) (fun _ => 0) 0 0 7)))] := hw
  exact r_v X hr hlk hw [0, 1, 2, 3] (fun k => [q2, q3, q1].getD k 0) rfl rfl trivial (by decide) (by decide) dX4_init_41
set_option maxHeartbeats 4000000 in
set_option maxRecDepth 100000 in
theorem c3_X2_init (l : Launch) (D : va_G) (ct : Nat → ClassId) (a0 : Nat) : CV l yX2_init cX2_init 1 none { frames := 2, cells := 7, slots := 1042, locals := 43 } D ct [.ref a0] [(a0, .inr (2, [.int 0, .int 0, .int 0, .null, .null, .null, .int 0, .int 0, .int 0, .int 0, .int 0, .null, .int 0]))] True (fun u => [(a0, .inr (2, [.int 0, .int 0, .int 0, .ref (u 0), .ref (u 1), .ref (u 2), .int 0, .int 0, .int 0, .int 0, .int 0, .ref (u 3), .int 0])), ((u 0), .inl (ct 0, 32, .inl (fun _ => 0))), ((u 1), .inl (ct 0, 35, .inl (fun _ => 0))), ((u 2), .inl (ct 0, 900, .inl (fun _ => 0))), ((u 3), .inr (4, [.ref (u 6), .ref (u 4), .ref (u 5), .int 0])), ((u 4), .inl (ct 0, 56, .inl (fun _ => 0))), ((u 5), .inl (ct 0, 8, .inl (fun _ => 0))), ((u 6), .inl (ct 0, 7, .inl (va_cpy (fun _ => (-1)) (fun _ => 0) 0 0 7)))]) := by
  refine CV.of (by decide +kernel) (Nat.le_of_ble_eq_true rfl) ?_
  intro p e s m below meth c A ls hE
  obtain ⟨X, hr, hlk, hnm, hw, hl⟩ := hE
  have X : CX p m c cX2_init 1 s [.ref a0].toArray RX2 D ct := X
  have hl : lv_has ls 1 [(0, .ref a0)] := hl
  obtain ⟨⟨hx, hb, hml, hown, hts⟩, hK⟩ := id X
  refine lv_aload_n hx hb dX2_init_0 rfl (lv_at hl 0 rfl) ?_
  refine k_objInit X hl.1 wd_164 wd_157 wd_158 (by decide) (by decide) dX2_init_1 ?_
  refine lv_aload_n hx hb dX2_init_4 rfl (lv_at hl 0 rfl) ?_
  refine lv_iconst (v := 0) hx hb dX2_init_5 (by decide) ?_
  refine fp_208 X hw 0 rfl rfl rfl (Nat.le_of_ble_eq_true rfl) dX2_init_6 [(a0, .inr (2, [.int 0, .int 0, .int 0, .null, .null, .null, .int 0, .int 0, .int 0, .int 0, .int 0, .null, .int 0]))] rfl (fun H locs hw => ?_)
  refine lv_aload_n hx hb dX2_init_9 rfl (lv_at hl 0 rfl) ?_
  refine lv_iconst (v := 0) hx hb dX2_init_10 (by decide) ?_
  refine fp_211 X hw 0 rfl rfl rfl (Nat.le_of_ble_eq_true rfl) dX2_init_11 [(a0, .inr (2, [.int 0, .int 0, .int 0, .null, .null, .null, .int 0, .int 0, .int 0, .int 0, .int 0, .null, .int 0]))] rfl (fun H locs hw => ?_)
  refine lv_aload_n hx hb dX2_init_14 rfl (lv_at hl 0 rfl) ?_
  refine lv_iconst (v := 0) hx hb dX2_init_15 (by decide) ?_
  refine fp_218 X hw 0 rfl rfl rfl (Nat.le_of_ble_eq_true rfl) dX2_init_16 [(a0, .inr (2, [.int 0, .int 0, .int 0, .null, .null, .null, .int 0, .int 0, .int 0, .int 0, .int 0, .null, .int 0]))] rfl (fun H locs hw => ?_)
  refine lv_aload_n hx hb dX2_init_19 rfl (lv_at hl 0 rfl) ?_
  refine lv_bipush (v := 32) hx hb dX2_init_20 (by decide) ?_
  refine k_newa (N' := 32) (a0 := (32, .inl (fun _ => 0))) X hw 0 rfl rfl wd_207 (fun _ => rfl) (by decide) (by decide) (by decide) (by decide) (by decide) dX2_init_22 (fun q1 H hw => ?_)
  replace hw : WD D A s.heap _ _ [(a0, .inr (2, [.int 0, .int 0, .int 0, .null, .null, .null, .int 0, .int 0, .int 0, .int 0, .int 0, .null, .int 0])), (q1, .inl (ct 0, 32, .inl (fun _ => 0)))] := hw
  refine fp_226 X hnm hw 0 rfl rfl rfl (Nat.le_of_ble_eq_true rfl) dX2_init_24 [(a0, .inr (2, [.int 0, .int 0, .int 0, .ref q1, .null, .null, .int 0, .int 0, .int 0, .int 0, .int 0, .null, .int 0])), (q1, .inl (ct 0, 32, .inl (fun _ => 0)))] rfl (fun H locs hw => ?_)
  refine lv_aload_n hx hb dX2_init_27 rfl (lv_at hl 0 rfl) ?_
  refine lv_bipush (v := 35) hx hb dX2_init_28 (by decide) ?_
  refine k_newa (N' := 35) (a0 := (35, .inl (fun _ => 0))) X hw 0 rfl rfl wd_207 (fun _ => rfl) (by decide) (by decide) (by decide) (by decide) (by decide) dX2_init_30 (fun q2 H hw => ?_)
  replace hw : WD D A s.heap _ _ [(a0, .inr (2, [.int 0, .int 0, .int 0, .ref q1, .null, .null, .int 0, .int 0, .int 0, .int 0, .int 0, .null, .int 0])), (q1, .inl (ct 0, 32, .inl (fun _ => 0))), (q2, .inl (ct 0, 35, .inl (fun _ => 0)))] := hw
  refine fp_228 X hnm hw 0 rfl rfl rfl (Nat.le_of_ble_eq_true rfl) dX2_init_32 [(a0, .inr (2, [.int 0, .int 0, .int 0, .ref q1, .ref q2, .null, .int 0, .int 0, .int 0, .int 0, .int 0, .null, .int 0])), (q1, .inl (ct 0, 32, .inl (fun _ => 0))), (q2, .inl (ct 0, 35, .inl (fun _ => 0)))] rfl (fun H locs hw => ?_)
  refine lv_aload_n hx hb dX2_init_35 rfl (lv_at hl 0 rfl) ?_
  refine lv_sipush (v := 900) hx hb dX2_init_36 (by decide) ?_
  refine k_newa (N' := 900) (a0 := (900, .inl (fun _ => 0))) X hw 0 rfl rfl wd_207 (fun _ => rfl) (by decide) (by decide) (by decide) (by decide) (by decide) dX2_init_39 (fun q3 H hw => ?_)
  replace hw : WD D A s.heap _ _ [(a0, .inr (2, [.int 0, .int 0, .int 0, .ref q1, .ref q2, .null, .int 0, .int 0, .int 0, .int 0, .int 0, .null, .int 0])), (q1, .inl (ct 0, 32, .inl (fun _ => 0))), (q2, .inl (ct 0, 35, .inl (fun _ => 0))), (q3, .inl (ct 0, 900, .inl (fun _ => 0)))] := hw
  refine fp_230 X hnm hw 0 rfl rfl rfl (Nat.le_of_ble_eq_true rfl) dX2_init_41 [(a0, .inr (2, [.int 0, .int 0, .int 0, .ref q1, .ref q2, .ref q3, .int 0, .int 0, .int 0, .int 0, .int 0, .null, .int 0])), (q1, .inl (ct 0, 32, .inl (fun _ => 0))), (q2, .inl (ct 0, 35, .inl (fun _ => 0))), (q3, .inl (ct 0, 900, .inl (fun _ => 0)))] rfl (fun H locs hw => ?_)
  refine lv_aload_n hx hb dX2_init_44 rfl (lv_at hl 0 rfl) ?_
  refine lv_iconst (v := 0) hx hb dX2_init_45 (by decide) ?_
  refine fp_233 X hw 0 rfl rfl rfl (Nat.le_of_ble_eq_true rfl) dX2_init_46 [(a0, .inr (2, [.int 0, .int 0, .int 0, .ref q1, .ref q2, .ref q3, .int 0, .int 0, .int 0, .int 0, .int 0, .null, .int 0])), (q1, .inl (ct 0, 32, .inl (fun _ => 0))), (q2, .inl (ct 0, 35, .inl (fun _ => 0))), (q3, .inl (ct 0, 900, .inl (fun _ => 0)))] rfl (fun H locs hw => ?_)
  refine lv_aload_n hx hb dX2_init_49 rfl (lv_at hl 0 rfl) ?_
  refine lv_iconst (v := 0) hx hb dX2_init_50 (by decide) ?_
  refine fp_235 X hw 0 rfl rfl rfl (Nat.le_of_ble_eq_true rfl) dX2_init_51 [(a0, .inr (2, [.int 0, .int 0, .int 0, .ref q1, .ref q2, .ref q3, .int 0, .int 0, .int 0, .int 0, .int 0, .null, .int 0])), (q1, .inl (ct 0, 32, .inl (fun _ => 0))), (q2, .inl (ct 0, 35, .inl (fun _ => 0))), (q3, .inl (ct 0, 900, .inl (fun _ => 0)))] rfl (fun H locs hw => ?_)
  refine lv_aload_n hx hb dX2_init_54 rfl (lv_at hl 0 rfl) ?_
  refine lv_iconst (v := 0) hx hb dX2_init_55 (by decide) ?_
  refine fp_238 X hw 0 rfl rfl rfl (Nat.le_of_ble_eq_true rfl) dX2_init_56 [(a0, .inr (2, [.int 0, .int 0, .int 0, .ref q1, .ref q2, .ref q3, .int 0, .int 0, .int 0, .int 0, .int 0, .null, .int 0])), (q1, .inl (ct 0, 32, .inl (fun _ => 0))), (q2, .inl (ct 0, 35, .inl (fun _ => 0))), (q3, .inl (ct 0, 900, .inl (fun _ => 0)))] rfl (fun H locs hw => ?_)
  refine lv_aload_n hx hb dX2_init_59 rfl (lv_at hl 0 rfl) ?_
  refine lv_iconst (v := 0) hx hb dX2_init_60 (by decide) ?_
  refine fp_241 X hw 0 rfl rfl rfl (Nat.le_of_ble_eq_true rfl) dX2_init_61 [(a0, .inr (2, [.int 0, .int 0, .int 0, .ref q1, .ref q2, .ref q3, .int 0, .int 0, .int 0, .int 0, .int 0, .null, .int 0])), (q1, .inl (ct 0, 32, .inl (fun _ => 0))), (q2, .inl (ct 0, 35, .inl (fun _ => 0))), (q3, .inl (ct 0, 900, .inl (fun _ => 0)))] rfl (fun H locs hw => ?_)
  refine lv_aload_n hx hb dX2_init_64 rfl (lv_at hl 0 rfl) ?_
  refine lv_iconst (v := 0) hx hb dX2_init_65 (by decide) ?_
  refine fp_244 X hw 0 rfl rfl rfl (Nat.le_of_ble_eq_true rfl) dX2_init_66 [(a0, .inr (2, [.int 0, .int 0, .int 0, .ref q1, .ref q2, .ref q3, .int 0, .int 0, .int 0, .int 0, .int 0, .null, .int 0])), (q1, .inl (ct 0, 32, .inl (fun _ => 0))), (q2, .inl (ct 0, 35, .inl (fun _ => 0))), (q3, .inl (ct 0, 900, .inl (fun _ => 0)))] rfl (fun H locs hw => ?_)
  refine lv_aload_n hx hb dX2_init_69 rfl (lv_at hl 0 rfl) ?_
  refine k_new (ci := 4) (fs := [.null, .null, .null, .int 0]) X hw inT4 tyX4 tyX4_ok wd_165 wd_166 wd_131 rfl (by decide) (by decide) (by decide) dX2_init_70 (fun q4 H hw => ?_)
  replace hw : WD D A s.heap _ _ [(a0, .inr (2, [.int 0, .int 0, .int 0, .ref q1, .ref q2, .ref q3, .int 0, .int 0, .int 0, .int 0, .int 0, .null, .int 0])), (q1, .inl (ct 0, 32, .inl (fun _ => 0))), (q2, .inl (ct 0, 35, .inl (fun _ => 0))), (q3, .inl (ct 0, 900, .inl (fun _ => 0))), (q4, .inr (4, [.null, .null, .null, .int 0]))] := hw
  refine lv_dup hx hb dX2_init_73 rfl ?_
  refine m_Iv (As := []) (rest := [.ref q4, .ref a0]) (c2_X4_init l D ct q4) X hl.1 wd_169 wd_131 wd_167 wd_168 rfl kd_yX4_init hw [4] [0, 1, 2, 3] rfl rfl rfl rfl (by decide) ⟨by decide, by decide⟩ rfl rfl (by decide) dX2_init_74 ⟨by decide, by decide⟩ (fun u6 H locs hr7 hw => ?_)
  replace hw : WD D A s.heap _ _ [(a0, .inr (2, [.int 0, .int 0, .int 0, .ref q1, .ref q2, .ref q3, .int 0, .int 0, .int 0, .int 0, .int 0, .null, .int 0])), (q1, .inl (ct 0, 32, .inl (fun _ => 0))), (q2, .inl (ct 0, 35, .inl (fun _ => 0))), (q3, .inl (ct 0, 900, .inl (fun _ => 0))), (q4, .inr (4, [.ref (u6 2), .ref (u6 0), .ref (u6 1), .int 0])), ((u6 0), .inl (ct 0, 56, .inl (fun _ => 0))), ((u6 1), .inl (ct 0, 8, .inl (fun _ => 0))), ((u6 2), .inl (ct 0, 7, .inl (va_cpy (fun _ => (-1)) (fun _ => 0) 0 0 7)))] := hw
  refine fp_247 X hnm hw 0 rfl rfl rfl (Nat.le_of_ble_eq_true rfl) dX2_init_77 [(a0, .inr (2, [.int 0, .int 0, .int 0, .ref q1, .ref q2, .ref q3, .int 0, .int 0, .int 0, .int 0, .int 0, .ref q4, .int 0])), (q1, .inl (ct 0, 32, .inl (fun _ => 0))), (q2, .inl (ct 0, 35, .inl (fun _ => 0))), (q3, .inl (ct 0, 900, .inl (fun _ => 0))), (q4, .inr (4, [.ref (u6 2), .ref (u6 0), .ref (u6 1), .int 0])), ((u6 0), .inl (ct 0, 56, .inl (fun _ => 0))), ((u6 1), .inl (ct 0, 8, .inl (fun _ => 0))), ((u6 2), .inl (ct 0, 7, .inl (va_cpy (fun _ => (-1)) (fun _ => 0) 0 0 7)))] rfl (fun H locs hw => ?_)
  refine lv_aload_n hx hb dX2_init_80 rfl (lv_at hl 0 rfl) ?_
  refine lv_iconst (v := 0) hx hb dX2_init_81 (by decide) ?_
  refine fp_254 X hw 0 rfl rfl rfl (Nat.le_of_ble_eq_true rfl) dX2_init_82 [(a0, .inr (2, [.int 0, .int 0, .int 0, .ref q1, .ref q2, .ref q3, .int 0, .int 0, .int 0, .int 0, .int 0, .ref q4, .int 0])), (q1, .inl (ct 0, 32, .inl (fun _ => 0))), (q2, .inl (ct 0, 35, .inl (fun _ => 0))), (q3, .inl (ct 0, 900, .inl (fun _ => 0))), (q4, .inr (4, [.ref (u6 2), .ref (u6 0), .ref (u6 1), .int 0])), ((u6 0), .inl (ct 0, 56, .inl (fun _ => 0))), ((u6 1), .inl (ct 0, 8, .inl (fun _ => 0))), ((u6 2), .inl (ct 0, 7, .inl (va_cpy (fun _ => (-1)) (fun _ => 0) 0 0 7)))] rfl (fun H locs hw => ?_)
  exact r_v X hr hlk hw [0, 1, 2, 3, 4, 5, 6, 7] (fun k => [q1, q2, q3, q4, (u6 0), (u6 1), (u6 2)].getD k 0) rfl rfl trivial (by decide) (by decide) dX2_init_85
set_option maxHeartbeats 4000000 in
set_option maxRecDepth 100000 in
theorem c4_X5_init (l : Launch) (D : va_G) (ct : Nat → ClassId) (a0 : Nat) : CV l yX5_init cX5_init 1 none { frames := 1, cells := 5, slots := 831, locals := 12 } D ct [.ref a0] [(a0, .inr (5, [.null, .null, .null, .null, .null, .int 0, .int 0]))] True (fun u => [(a0, .inr (5, [.ref (u 0), .ref (u 1), .ref (u 2), .ref (u 3), .ref (u 4), .int 0, .int 0])), ((u 0), .inl (ct 0, 56, .inl (fun _ => 0))), ((u 1), .inl (ct 0, 256, .inl (fun _ => 0))), ((u 2), .inl (ct 0, 256, .inl (fun _ => 0))), ((u 3), .inl (ct 0, 256, .inl (fun _ => 0))), ((u 4), .inl (ct 0, 7, .inl (fun _ => 0)))]) := by
  refine CV.of (by decide +kernel) (Nat.le_of_ble_eq_true rfl) ?_
  intro p e s m below meth c A ls hE
  obtain ⟨X, hr, hlk, hnm, hw, hl⟩ := hE
  have X : CX p m c cX5_init 1 s [.ref a0].toArray RX5 D ct := X
  have hl : lv_has ls 1 [(0, .ref a0)] := hl
  obtain ⟨⟨hx, hb, hml, hown, hts⟩, hK⟩ := id X
  refine lv_aload_n hx hb dX5_init_0 rfl (lv_at hl 0 rfl) ?_
  refine k_objInit X hl.1 wd_359 wd_157 wd_158 (by decide) (by decide) dX5_init_1 ?_
  refine lv_aload_n hx hb dX5_init_4 rfl (lv_at hl 0 rfl) ?_
  refine lv_bipush (v := 56) hx hb dX5_init_5 (by decide) ?_
  refine k_newa (N' := 56) (a0 := (56, .inl (fun _ => 0))) X hw 0 rfl rfl wd_207 (fun _ => rfl) (by decide) (by decide) (by decide) (by decide) (by decide) dX5_init_7 (fun q1 H hw => ?_)
  replace hw : WD D A s.heap _ _ [(a0, .inr (5, [.null, .null, .null, .null, .null, .int 0, .int 0])), (q1, .inl (ct 0, 56, .inl (fun _ => 0)))] := hw
  refine fp_360 X hnm hw 0 rfl rfl rfl (Nat.le_of_ble_eq_true rfl) dX5_init_9 [(a0, .inr (5, [.ref q1, .null, .null, .null, .null, .int 0, .int 0])), (q1, .inl (ct 0, 56, .inl (fun _ => 0)))] rfl (fun H locs hw => ?_)
  refine lv_aload_n hx hb dX5_init_12 rfl (lv_at hl 0 rfl) ?_
  refine lv_sipush (v := 256) hx hb dX5_init_13 (by decide) ?_
  refine k_newa (N' := 256) (a0 := (256, .inl (fun _ => 0))) X hw 0 rfl rfl wd_207 (fun _ => rfl) (by decide) (by decide) (by decide) (by decide) (by decide) dX5_init_16 (fun q2 H hw => ?_)
  replace hw : WD D A s.heap _ _ [(a0, .inr (5, [.ref q1, .null, .null, .null, .null, .int 0, .int 0])), (q1, .inl (ct 0, 56, .inl (fun _ => 0))), (q2, .inl (ct 0, 256, .inl (fun _ => 0)))] := hw
  refine fp_362 X hnm hw 0 rfl rfl rfl (Nat.le_of_ble_eq_true rfl) dX5_init_18 [(a0, .inr (5, [.ref q1, .ref q2, .null, .null, .null, .int 0, .int 0])), (q1, .inl (ct 0, 56, .inl (fun _ => 0))), (q2, .inl (ct 0, 256, .inl (fun _ => 0)))] rfl (fun H locs hw => ?_)
  refine lv_aload_n hx hb dX5_init_21 rfl (lv_at hl 0 rfl) ?_
  refine lv_sipush (v := 256) hx hb dX5_init_22 (by decide) ?_
  refine k_newa (N' := 256) (a0 := (256, .inl (fun _ => 0))) X hw 0 rfl rfl wd_207 (fun _ => rfl) (by decide) (by decide) (by decide) (by decide) (by decide) dX5_init_25 (fun q3 H hw => ?_)
  replace hw : WD D A s.heap _ _ [(a0, .inr (5, [.ref q1, .ref q2, .null, .null, .null, .int 0, .int 0])), (q1, .inl (ct 0, 56, .inl (fun _ => 0))), (q2, .inl (ct 0, 256, .inl (fun _ => 0))), (q3, .inl (ct 0, 256, .inl (fun _ => 0)))] := hw
  refine fp_363 X hnm hw 0 rfl rfl rfl (Nat.le_of_ble_eq_true rfl) dX5_init_27 [(a0, .inr (5, [.ref q1, .ref q2, .ref q3, .null, .null, .int 0, .int 0])), (q1, .inl (ct 0, 56, .inl (fun _ => 0))), (q2, .inl (ct 0, 256, .inl (fun _ => 0))), (q3, .inl (ct 0, 256, .inl (fun _ => 0)))] rfl (fun H locs hw => ?_)
  refine lv_aload_n hx hb dX5_init_30 rfl (lv_at hl 0 rfl) ?_
  refine lv_sipush (v := 256) hx hb dX5_init_31 (by decide) ?_
  refine k_newa (N' := 256) (a0 := (256, .inl (fun _ => 0))) X hw 0 rfl rfl wd_207 (fun _ => rfl) (by decide) (by decide) (by decide) (by decide) (by decide) dX5_init_34 (fun q4 H hw => ?_)
  replace hw : WD D A s.heap _ _ [(a0, .inr (5, [.ref q1, .ref q2, .ref q3, .null, .null, .int 0, .int 0])), (q1, .inl (ct 0, 56, .inl (fun _ => 0))), (q2, .inl (ct 0, 256, .inl (fun _ => 0))), (q3, .inl (ct 0, 256, .inl (fun _ => 0))), (q4, .inl (ct 0, 256, .inl (fun _ => 0)))] := hw
  refine fp_364 X hnm hw 0 rfl rfl rfl (Nat.le_of_ble_eq_true rfl) dX5_init_36 [(a0, .inr (5, [.ref q1, .ref q2, .ref q3, .ref q4, .null, .int 0, .int 0])), (q1, .inl (ct 0, 56, .inl (fun _ => 0))), (q2, .inl (ct 0, 256, .inl (fun _ => 0))), (q3, .inl (ct 0, 256, .inl (fun _ => 0))), (q4, .inl (ct 0, 256, .inl (fun _ => 0)))] rfl (fun H locs hw => ?_)
  refine lv_aload_n hx hb dX5_init_39 rfl (lv_at hl 0 rfl) ?_
  refine lv_bipush (v := 7) hx hb dX5_init_40 (by decide) ?_
  refine k_newa (N' := 7) (a0 := (7, .inl (fun _ => 0))) X hw 0 rfl rfl wd_207 (fun _ => rfl) (by decide) (by decide) (by decide) (by decide) (by decide) dX5_init_42 (fun q5 H hw => ?_)
  replace hw : WD D A s.heap _ _ [(a0, .inr (5, [.ref q1, .ref q2, .ref q3, .ref q4, .null, .int 0, .int 0])), (q1, .inl (ct 0, 56, .inl (fun _ => 0))), (q2, .inl (ct 0, 256, .inl (fun _ => 0))), (q3, .inl (ct 0, 256, .inl (fun _ => 0))), (q4, .inl (ct 0, 256, .inl (fun _ => 0))), (q5, .inl (ct 0, 7, .inl (fun _ => 0)))] := hw
  refine fp_365 X hnm hw 0 rfl rfl rfl (Nat.le_of_ble_eq_true rfl) dX5_init_44 [(a0, .inr (5, [.ref q1, .ref q2, .ref q3, .ref q4, .ref q5, .int 0, .int 0])), (q1, .inl (ct 0, 56, .inl (fun _ => 0))), (q2, .inl (ct 0, 256, .inl (fun _ => 0))), (q3, .inl (ct 0, 256, .inl (fun _ => 0))), (q4, .inl (ct 0, 256, .inl (fun _ => 0))), (q5, .inl (ct 0, 7, .inl (fun _ => 0)))] rfl (fun H locs hw => ?_)
  refine lv_aload_n hx hb dX5_init_47 rfl (lv_at hl 0 rfl) ?_
  refine lv_iconst (v := 0) hx hb dX5_init_48 (by decide) ?_
  refine fp_366 X hw 0 rfl rfl rfl (Nat.le_of_ble_eq_true rfl) dX5_init_49 [(a0, .inr (5, [.ref q1, .ref q2, .ref q3, .ref q4, .ref q5, .int 0, .int 0])), (q1, .inl (ct 0, 56, .inl (fun _ => 0))), (q2, .inl (ct 0, 256, .inl (fun _ => 0))), (q3, .inl (ct 0, 256, .inl (fun _ => 0))), (q4, .inl (ct 0, 256, .inl (fun _ => 0))), (q5, .inl (ct 0, 7, .inl (fun _ => 0)))] rfl (fun H locs hw => ?_)
  refine lv_aload_n hx hb dX5_init_52 rfl (lv_at hl 0 rfl) ?_
  refine lv_iconst (v := 0) hx hb dX5_init_53 (by decide) ?_
  refine fp_367 X hw 0 rfl rfl rfl (Nat.le_of_ble_eq_true rfl) dX5_init_54 [(a0, .inr (5, [.ref q1, .ref q2, .ref q3, .ref q4, .ref q5, .int 0, .int 0])), (q1, .inl (ct 0, 56, .inl (fun _ => 0))), (q2, .inl (ct 0, 256, .inl (fun _ => 0))), (q3, .inl (ct 0, 256, .inl (fun _ => 0))), (q4, .inl (ct 0, 256, .inl (fun _ => 0))), (q5, .inl (ct 0, 7, .inl (fun _ => 0)))] rfl (fun H locs hw => ?_)
  exact r_v X hr hlk hw [0, 1, 2, 3, 4, 5] (fun k => [q1, q2, q3, q4, q5].getD k 0) rfl rfl trivial (by decide) (by decide) dX5_init_57
end
