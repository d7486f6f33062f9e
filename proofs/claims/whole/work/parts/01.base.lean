-- ===== PART A: goes FIRST, ahead of the names: the tables' words, and 'selects' of the private methods out of them =====
/-- a private method of a class that the tables say can be made, by its rows of tables_1 -/
def lw_okq (q : MethodName × Nat) : Prop := (q.1.cls ≠ "java/lang/invoke/MethodHandle" ∧ q.1.cls ≠ "java/lang/invoke/VarHandle") ∧ Cond.instantiable q.1.cls q.2 ∈ tables_1 ∧ Cond.privateMethod q.1 ∈ tables_1 ∧ Cond.instanceMethod q.1 ∈ tables_1
theorem lw_p0 : lw_okq (⟨"UndoTrade", "reads", "(I)Z"⟩, 17) := ⟨⟨by decide +kernel, by decide +kernel⟩, List.mem_of_getElem? (i := 25) (by decide +kernel), List.mem_of_getElem? (i := 343) (by decide +kernel), List.mem_of_getElem? (i := 344) (by decide +kernel)⟩
theorem lw_p1 : lw_okq (⟨"UndoTrade$State", "readRules", "(LUndoTrade$Tape;)Z"⟩, 9) := ⟨⟨by decide +kernel, by decide +kernel⟩, List.mem_of_getElem? (i := 55) (by decide +kernel), List.mem_of_getElem? (i := 355) (by decide +kernel), List.mem_of_getElem? (i := 356) (by decide +kernel)⟩
theorem lw_p2 : lw_okq (⟨"UndoTrade$State", "readApprentice", "(LUndoTrade$Tape;)Z"⟩, 9) := ⟨⟨by decide +kernel, by decide +kernel⟩, List.mem_of_getElem? (i := 55) (by decide +kernel), List.mem_of_getElem? (i := 379) (by decide +kernel), List.mem_of_getElem? (i := 380) (by decide +kernel)⟩
theorem lw_p3 : lw_okq (⟨"UndoTrade$LawText", "readClause", "(LUndoTrade$Tape;)Z"⟩, 1) := ⟨⟨by decide +kernel, by decide +kernel⟩, List.mem_of_getElem? (i := 186) (by decide +kernel), List.mem_of_getElem? (i := 387) (by decide +kernel), List.mem_of_getElem? (i := 388) (by decide +kernel)⟩
theorem lw_p4 : lw_okq (⟨"UndoTrade$LawText", "readSum", "(LUndoTrade$Tape;I)Z"⟩, 1) := ⟨⟨by decide +kernel, by decide +kernel⟩, List.mem_of_getElem? (i := 186) (by decide +kernel), List.mem_of_getElem? (i := 393) (by decide +kernel), List.mem_of_getElem? (i := 394) (by decide +kernel)⟩
theorem lw_p5 : lw_okq (⟨"UndoTrade$LawText", "readTerm", "(LUndoTrade$Tape;I)Z"⟩, 1) := ⟨⟨by decide +kernel, by decide +kernel⟩, List.mem_of_getElem? (i := 186) (by decide +kernel), List.mem_of_getElem? (i := 397) (by decide +kernel), List.mem_of_getElem? (i := 398) (by decide +kernel)⟩
theorem lw_p6 : lw_okq (⟨"UndoTrade$LawText", "readAtom", "(LUndoTrade$Tape;I)Z"⟩, 1) := ⟨⟨by decide +kernel, by decide +kernel⟩, List.mem_of_getElem? (i := 186) (by decide +kernel), List.mem_of_getElem? (i := 401) (by decide +kernel), List.mem_of_getElem? (i := 402) (by decide +kernel)⟩
theorem lw_p7 : lw_okq (⟨"UndoTrade$LawText", "readCondition", "(LUndoTrade$Tape;IZ)Z"⟩, 1) := ⟨⟨by decide +kernel, by decide +kernel⟩, List.mem_of_getElem? (i := 186) (by decide +kernel), List.mem_of_getElem? (i := 430) (by decide +kernel), List.mem_of_getElem? (i := 431) (by decide +kernel)⟩
theorem lw_p8 : lw_okq (⟨"UndoTrade$LawText", "readTruth", "(LUndoTrade$Tape;IZ)Z"⟩, 1) := ⟨⟨by decide +kernel, by decide +kernel⟩, List.mem_of_getElem? (i := 186) (by decide +kernel), List.mem_of_getElem? (i := 434) (by decide +kernel), List.mem_of_getElem? (i := 435) (by decide +kernel)⟩
theorem lw_p9 : lw_okq (⟨"UndoTrade$LawText", "readUnit", "(LUndoTrade$Tape;IZ)Z"⟩, 1) := ⟨⟨by decide +kernel, by decide +kernel⟩, List.mem_of_getElem? (i := 186) (by decide +kernel), List.mem_of_getElem? (i := 438) (by decide +kernel), List.mem_of_getElem? (i := 439) (by decide +kernel)⟩
theorem lw_p10 : lw_okq (⟨"UndoTrade$LawText", "readCompared", "(LUndoTrade$Tape;I)Z"⟩, 1) := ⟨⟨by decide +kernel, by decide +kernel⟩, List.mem_of_getElem? (i := 186) (by decide +kernel), List.mem_of_getElem? (i := 442) (by decide +kernel), List.mem_of_getElem? (i := 443) (by decide +kernel)⟩
theorem lw_p11 : lw_okq (⟨"UndoTrade$DeedList", "readDeed", "(LUndoTrade$Tape;)Z"⟩, 4) := ⟨⟨by decide +kernel, by decide +kernel⟩, List.mem_of_getElem? (i := 61) (by decide +kernel), List.mem_of_getElem? (i := 459) (by decide +kernel), List.mem_of_getElem? (i := 460) (by decide +kernel)⟩
theorem lw_p12 : lw_okq (⟨"UndoTrade", "openWorkshop", "()I"⟩, 17) := ⟨⟨by decide +kernel, by decide +kernel⟩, List.mem_of_getElem? (i := 25) (by decide +kernel), List.mem_of_getElem? (i := 480) (by decide +kernel), List.mem_of_getElem? (i := 481) (by decide +kernel)⟩
theorem lw_p13 : lw_okq (⟨"UndoTrade", "keepMaking", "()I"⟩, 17) := ⟨⟨by decide +kernel, by decide +kernel⟩, List.mem_of_getElem? (i := 25) (by decide +kernel), List.mem_of_getElem? (i := 509) (by decide +kernel), List.mem_of_getElem? (i := 510) (by decide +kernel)⟩
theorem lw_p14 : lw_okq (⟨"UndoTrade", "canAct", "()Z"⟩, 17) := ⟨⟨by decide +kernel, by decide +kernel⟩, List.mem_of_getElem? (i := 25) (by decide +kernel), List.mem_of_getElem? (i := 563) (by decide +kernel), List.mem_of_getElem? (i := 564) (by decide +kernel)⟩
theorem lw_p15 : lw_okq (⟨"UndoTrade", "isOpen", "()Z"⟩, 17) := ⟨⟨by decide +kernel, by decide +kernel⟩, List.mem_of_getElem? (i := 25) (by decide +kernel), List.mem_of_getElem? (i := 567) (by decide +kernel), List.mem_of_getElem? (i := 568) (by decide +kernel)⟩
def lw_privs_1 : List (MethodName × Nat) := [(⟨"UndoTrade", "reads", "(I)Z"⟩, 17), (⟨"UndoTrade$State", "readRules", "(LUndoTrade$Tape;)Z"⟩, 9), (⟨"UndoTrade$State", "readApprentice", "(LUndoTrade$Tape;)Z"⟩, 9), (⟨"UndoTrade$LawText", "readClause", "(LUndoTrade$Tape;)Z"⟩, 1), (⟨"UndoTrade$LawText", "readSum", "(LUndoTrade$Tape;I)Z"⟩, 1), (⟨"UndoTrade$LawText", "readTerm", "(LUndoTrade$Tape;I)Z"⟩, 1), (⟨"UndoTrade$LawText", "readAtom", "(LUndoTrade$Tape;I)Z"⟩, 1), (⟨"UndoTrade$LawText", "readCondition", "(LUndoTrade$Tape;IZ)Z"⟩, 1), (⟨"UndoTrade$LawText", "readTruth", "(LUndoTrade$Tape;IZ)Z"⟩, 1), (⟨"UndoTrade$LawText", "readUnit", "(LUndoTrade$Tape;IZ)Z"⟩, 1), (⟨"UndoTrade$LawText", "readCompared", "(LUndoTrade$Tape;I)Z"⟩, 1), (⟨"UndoTrade$DeedList", "readDeed", "(LUndoTrade$Tape;)Z"⟩, 4), (⟨"UndoTrade", "openWorkshop", "()I"⟩, 17), (⟨"UndoTrade", "keepMaking", "()I"⟩, 17), (⟨"UndoTrade", "canAct", "()Z"⟩, 17), (⟨"UndoTrade", "isOpen", "()Z"⟩, 17)]
theorem lw_r1 : ∀ q ∈ lw_privs_1, lw_okq q := List.forall_mem_cons.mpr ⟨lw_p0, List.forall_mem_cons.mpr ⟨lw_p1, List.forall_mem_cons.mpr ⟨lw_p2, List.forall_mem_cons.mpr ⟨lw_p3, List.forall_mem_cons.mpr ⟨lw_p4, List.forall_mem_cons.mpr ⟨lw_p5, List.forall_mem_cons.mpr ⟨lw_p6, List.forall_mem_cons.mpr ⟨lw_p7, List.forall_mem_cons.mpr ⟨lw_p8, List.forall_mem_cons.mpr ⟨lw_p9, List.forall_mem_cons.mpr ⟨lw_p10, List.forall_mem_cons.mpr ⟨lw_p11, List.forall_mem_cons.mpr ⟨lw_p12, List.forall_mem_cons.mpr ⟨lw_p13, List.forall_mem_cons.mpr ⟨lw_p14, List.forall_mem_cons.mpr ⟨lw_p15, fun _ h => absurd h List.not_mem_nil⟩⟩⟩⟩⟩⟩⟩⟩⟩⟩⟩⟩⟩⟩⟩⟩
theorem lw_p16 : lw_okq (⟨"UndoTrade$DeedList", "standsOn", "(II)Z"⟩, 4) := ⟨⟨by decide +kernel, by decide +kernel⟩, List.mem_of_getElem? (i := 61) (by decide +kernel), List.mem_of_getElem? (i := 586) (by decide +kernel), List.mem_of_getElem? (i := 587) (by decide +kernel)⟩
theorem lw_p17 : lw_okq (⟨"UndoTrade", "beginAct", "()V"⟩, 17) := ⟨⟨by decide +kernel, by decide +kernel⟩, List.mem_of_getElem? (i := 25) (by decide +kernel), List.mem_of_getElem? (i := 590) (by decide +kernel), List.mem_of_getElem? (i := 591) (by decide +kernel)⟩
theorem lw_p18 : lw_okq (⟨"UndoTrade", "takeBackByDraw", "()V"⟩, 17) := ⟨⟨by decide +kernel, by decide +kernel⟩, List.mem_of_getElem? (i := 25) (by decide +kernel), List.mem_of_getElem? (i := 670) (by decide +kernel), List.mem_of_getElem? (i := 671) (by decide +kernel)⟩
theorem lw_p19 : lw_okq (⟨"UndoTrade", "doByDraw", "()V"⟩, 17) := ⟨⟨by decide +kernel, by decide +kernel⟩, List.mem_of_getElem? (i := 25) (by decide +kernel), List.mem_of_getElem? (i := 674) (by decide +kernel), List.mem_of_getElem? (i := 675) (by decide +kernel)⟩
theorem lw_p20 : lw_okq (⟨"UndoTrade", "isMaking", "(I)Z"⟩, 17) := ⟨⟨by decide +kernel, by decide +kernel⟩, List.mem_of_getElem? (i := 25) (by decide +kernel), List.mem_of_getElem? (i := 690) (by decide +kernel), List.mem_of_getElem? (i := 691) (by decide +kernel)⟩
theorem lw_p21 : lw_okq (⟨"UndoTrade$DeedList", "coatsAsNumber", "(I)I"⟩, 4) := ⟨⟨by decide +kernel, by decide +kernel⟩, List.mem_of_getElem? (i := 61) (by decide +kernel), List.mem_of_getElem? (i := 732) (by decide +kernel), List.mem_of_getElem? (i := 733) (by decide +kernel)⟩
theorem lw_p22 : lw_okq (⟨"UndoTrade$Order", "markWhole", "()V"⟩, 8) := ⟨⟨by decide +kernel, by decide +kernel⟩, List.mem_of_getElem? (i := 202) (by decide +kernel), List.mem_of_getElem? (i := 774) (by decide +kernel), List.mem_of_getElem? (i := 775) (by decide +kernel)⟩
theorem lw_p23 : lw_okq (⟨"UndoTrade$Order", "everything", "()I"⟩, 8) := ⟨⟨by decide +kernel, by decide +kernel⟩, List.mem_of_getElem? (i := 202) (by decide +kernel), List.mem_of_getElem? (i := 778) (by decide +kernel), List.mem_of_getElem? (i := 779) (by decide +kernel)⟩
theorem lw_p24 : lw_okq (⟨"UndoTrade$Order", "waysFrom", "(I)I"⟩, 8) := ⟨⟨by decide +kernel, by decide +kernel⟩, List.mem_of_getElem? (i := 202) (by decide +kernel), List.mem_of_getElem? (i := 782) (by decide +kernel), List.mem_of_getElem? (i := 783) (by decide +kernel)⟩
theorem lw_p25 : lw_okq (⟨"UndoTrade$Order", "canFollow", "(II)Z"⟩, 8) := ⟨⟨by decide +kernel, by decide +kernel⟩, List.mem_of_getElem? (i := 202) (by decide +kernel), List.mem_of_getElem? (i := 786) (by decide +kernel), List.mem_of_getElem? (i := 787) (by decide +kernel)⟩
theorem lw_p26 : lw_okq (⟨"UndoTrade$Order", "setPrices", "(LUndoTrade$LawBook;II)V"⟩, 8) := ⟨⟨by decide +kernel, by decide +kernel⟩, List.mem_of_getElem? (i := 202) (by decide +kernel), List.mem_of_getElem? (i := 810) (by decide +kernel), List.mem_of_getElem? (i := 811) (by decide +kernel)⟩
theorem lw_p27 : lw_okq (⟨"UndoTrade$Order", "setLeasts", "(I)V"⟩, 8) := ⟨⟨by decide +kernel, by decide +kernel⟩, List.mem_of_getElem? (i := 202) (by decide +kernel), List.mem_of_getElem? (i := 832) (by decide +kernel), List.mem_of_getElem? (i := 833) (by decide +kernel)⟩
theorem lw_p28 : lw_okq (⟨"UndoTrade$Order", "sortsOfLatest", "(I)I"⟩, 8) := ⟨⟨by decide +kernel, by decide +kernel⟩, List.mem_of_getElem? (i := 202) (by decide +kernel), List.mem_of_getElem? (i := 836) (by decide +kernel), List.mem_of_getElem? (i := 837) (by decide +kernel)⟩
theorem lw_p29 : lw_okq (⟨"UndoTrade$Order", "canLeave", "(II)Z"⟩, 8) := ⟨⟨by decide +kernel, by decide +kernel⟩, List.mem_of_getElem? (i := 202) (by decide +kernel), List.mem_of_getElem? (i := 840) (by decide +kernel), List.mem_of_getElem? (i := 841) (by decide +kernel)⟩
theorem lw_p30 : lw_okq (⟨"UndoTrade$Order", "costThrough", "(IIII)I"⟩, 8) := ⟨⟨by decide +kernel, by decide +kernel⟩, List.mem_of_getElem? (i := 202) (by decide +kernel), List.mem_of_getElem? (i := 845) (by decide +kernel), List.mem_of_getElem? (i := 846) (by decide +kernel)⟩
theorem lw_p31 : lw_okq (⟨"UndoTrade$Order", "bestMove", "(I)I"⟩, 8) := ⟨⟨by decide +kernel, by decide +kernel⟩, List.mem_of_getElem? (i := 202) (by decide +kernel), List.mem_of_getElem? (i := 901) (by decide +kernel), List.mem_of_getElem? (i := 902) (by decide +kernel)⟩
def lw_privs_2 : List (MethodName × Nat) := [(⟨"UndoTrade$DeedList", "standsOn", "(II)Z"⟩, 4), (⟨"UndoTrade", "beginAct", "()V"⟩, 17), (⟨"UndoTrade", "takeBackByDraw", "()V"⟩, 17), (⟨"UndoTrade", "doByDraw", "()V"⟩, 17), (⟨"UndoTrade", "isMaking", "(I)Z"⟩, 17), (⟨"UndoTrade$DeedList", "coatsAsNumber", "(I)I"⟩, 4), (⟨"UndoTrade$Order", "markWhole", "()V"⟩, 8), (⟨"UndoTrade$Order", "everything", "()I"⟩, 8), (⟨"UndoTrade$Order", "waysFrom", "(I)I"⟩, 8), (⟨"UndoTrade$Order", "canFollow", "(II)Z"⟩, 8), (⟨"UndoTrade$Order", "setPrices", "(LUndoTrade$LawBook;II)V"⟩, 8), (⟨"UndoTrade$Order", "setLeasts", "(I)V"⟩, 8), (⟨"UndoTrade$Order", "sortsOfLatest", "(I)I"⟩, 8), (⟨"UndoTrade$Order", "canLeave", "(II)Z"⟩, 8), (⟨"UndoTrade$Order", "costThrough", "(IIII)I"⟩, 8), (⟨"UndoTrade$Order", "bestMove", "(I)I"⟩, 8)]
theorem lw_r2 : ∀ q ∈ lw_privs_2, lw_okq q := List.forall_mem_cons.mpr ⟨lw_p16, List.forall_mem_cons.mpr ⟨lw_p17, List.forall_mem_cons.mpr ⟨lw_p18, List.forall_mem_cons.mpr ⟨lw_p19, List.forall_mem_cons.mpr ⟨lw_p20, List.forall_mem_cons.mpr ⟨lw_p21, List.forall_mem_cons.mpr ⟨lw_p22, List.forall_mem_cons.mpr ⟨lw_p23, List.forall_mem_cons.mpr ⟨lw_p24, List.forall_mem_cons.mpr ⟨lw_p25, List.forall_mem_cons.mpr ⟨lw_p26, List.forall_mem_cons.mpr ⟨lw_p27, List.forall_mem_cons.mpr ⟨lw_p28, List.forall_mem_cons.mpr ⟨lw_p29, List.forall_mem_cons.mpr ⟨lw_p30, List.forall_mem_cons.mpr ⟨lw_p31, fun _ h => absurd h List.not_mem_nil⟩⟩⟩⟩⟩⟩⟩⟩⟩⟩⟩⟩⟩⟩⟩⟩
theorem lw_p32 : lw_okq (⟨"UndoTrade$Order", "moveWorth", "(II)I"⟩, 8) := ⟨⟨by decide +kernel, by decide +kernel⟩, List.mem_of_getElem? (i := 202) (by decide +kernel), List.mem_of_getElem? (i := 905) (by decide +kernel), List.mem_of_getElem? (i := 906) (by decide +kernel)⟩
theorem lw_p33 : lw_okq (⟨"UndoTrade$SeenList", "fits", "(II)Z"⟩, 5) := ⟨⟨by decide +kernel, by decide +kernel⟩, List.mem_of_getElem? (i := 238) (by decide +kernel), List.mem_of_getElem? (i := 938) (by decide +kernel), List.mem_of_getElem? (i := 939) (by decide +kernel)⟩
theorem lw_p34 : lw_okq (⟨"UndoTrade$SeenList", "moreThanLess", "(II)I"⟩, 5) := ⟨⟨by decide +kernel, by decide +kernel⟩, List.mem_of_getElem? (i := 238) (by decide +kernel), List.mem_of_getElem? (i := 951) (by decide +kernel), List.mem_of_getElem? (i := 952) (by decide +kernel)⟩
theorem lw_p35 : lw_okq (⟨"UndoTrade$DeedList", "storeys", "(I)I"⟩, 4) := ⟨⟨by decide +kernel, by decide +kernel⟩, List.mem_of_getElem? (i := 61) (by decide +kernel), List.mem_of_getElem? (i := 984) (by decide +kernel), List.mem_of_getElem? (i := 985) (by decide +kernel)⟩
theorem lw_p36 : lw_okq (⟨"java/lang/Throwable", "fillInStackTrace", "(I)Ljava/lang/Throwable;"⟩, 6) := ⟨⟨by decide +kernel, by decide +kernel⟩, List.mem_of_getElem? (i := 1060) (by decide +kernel), List.mem_of_getElem? (i := 1058) (by decide +kernel), List.mem_of_getElem? (i := 1059) (by decide +kernel)⟩
theorem lw_p37 : lw_okq (⟨"UndoTradeModel", "put", "(I)V"⟩, 55) := ⟨⟨by decide +kernel, by decide +kernel⟩, List.mem_of_getElem? (i := 1090) (by decide +kernel), List.mem_of_getElem? (i := 1276) (by decide +kernel), List.mem_of_getElem? (i := 1277) (by decide +kernel)⟩
theorem lw_p38 : lw_okq (⟨"UndoTradeModel", "readWorkshop", "()V"⟩, 55) := ⟨⟨by decide +kernel, by decide +kernel⟩, List.mem_of_getElem? (i := 1090) (by decide +kernel), List.mem_of_getElem? (i := 1292) (by decide +kernel), List.mem_of_getElem? (i := 1293) (by decide +kernel)⟩
theorem lw_p39 : lw_okq (⟨"UndoTradeModel", "starts", "([BII)V"⟩, 55) := ⟨⟨by decide +kernel, by decide +kernel⟩, List.mem_of_getElem? (i := 1090) (by decide +kernel), List.mem_of_getElem? (i := 1296) (by decide +kernel), List.mem_of_getElem? (i := 1297) (by decide +kernel)⟩
theorem lw_p40 : lw_okq (⟨"UndoTradeModel", "readClause", "()V"⟩, 55) := ⟨⟨by decide +kernel, by decide +kernel⟩, List.mem_of_getElem? (i := 1090) (by decide +kernel), List.mem_of_getElem? (i := 1300) (by decide +kernel), List.mem_of_getElem? (i := 1301) (by decide +kernel)⟩
theorem lw_p41 : lw_okq (⟨"UndoTradeModel", "look", "()I"⟩, 55) := ⟨⟨by decide +kernel, by decide +kernel⟩, List.mem_of_getElem? (i := 1090) (by decide +kernel), List.mem_of_getElem? (i := 1304) (by decide +kernel), List.mem_of_getElem? (i := 1305) (by decide +kernel)⟩
theorem lw_p42 : lw_okq (⟨"UndoTradeModel", "fails", "()Z"⟩, 55) := ⟨⟨by decide +kernel, by decide +kernel⟩, List.mem_of_getElem? (i := 1090) (by decide +kernel), List.mem_of_getElem? (i := 1308) (by decide +kernel), List.mem_of_getElem? (i := 1309) (by decide +kernel)⟩
theorem lw_p43 : lw_okq (⟨"UndoTradeModel", "readRules", "()V"⟩, 55) := ⟨⟨by decide +kernel, by decide +kernel⟩, List.mem_of_getElem? (i := 1090) (by decide +kernel), List.mem_of_getElem? (i := 1312) (by decide +kernel), List.mem_of_getElem? (i := 1313) (by decide +kernel)⟩
theorem lw_p44 : lw_okq (⟨"UndoTradeModel", "number", "(II)I"⟩, 55) := ⟨⟨by decide +kernel, by decide +kernel⟩, List.mem_of_getElem? (i := 1090) (by decide +kernel), List.mem_of_getElem? (i := 1316) (by decide +kernel), List.mem_of_getElem? (i := 1317) (by decide +kernel)⟩
theorem lw_p45 : lw_okq (⟨"UndoTradeModel", "isDigit", "()Z"⟩, 55) := ⟨⟨by decide +kernel, by decide +kernel⟩, List.mem_of_getElem? (i := 1090) (by decide +kernel), List.mem_of_getElem? (i := 1320) (by decide +kernel), List.mem_of_getElem? (i := 1321) (by decide +kernel)⟩
theorem lw_p46 : lw_okq (⟨"UndoTradeModel", "here", "()I"⟩, 55) := ⟨⟨by decide +kernel, by decide +kernel⟩, List.mem_of_getElem? (i := 1090) (by decide +kernel), List.mem_of_getElem? (i := 1324) (by decide +kernel), List.mem_of_getElem? (i := 1325) (by decide +kernel)⟩
theorem lw_p47 : lw_okq (⟨"UndoTradeModel", "readApprentice", "()V"⟩, 55) := ⟨⟨by decide +kernel, by decide +kernel⟩, List.mem_of_getElem? (i := 1090) (by decide +kernel), List.mem_of_getElem? (i := 1328) (by decide +kernel), List.mem_of_getElem? (i := 1329) (by decide +kernel)⟩
def lw_privs_3 : List (MethodName × Nat) := [(⟨"UndoTrade$Order", "moveWorth", "(II)I"⟩, 8), (⟨"UndoTrade$SeenList", "fits", "(II)Z"⟩, 5), (⟨"UndoTrade$SeenList", "moreThanLess", "(II)I"⟩, 5), (⟨"UndoTrade$DeedList", "storeys", "(I)I"⟩, 4), (⟨"java/lang/Throwable", "fillInStackTrace", "(I)Ljava/lang/Throwable;"⟩, 6), (⟨"UndoTradeModel", "put", "(I)V"⟩, 55), (⟨"UndoTradeModel", "readWorkshop", "()V"⟩, 55), (⟨"UndoTradeModel", "starts", "([BII)V"⟩, 55), (⟨"UndoTradeModel", "readClause", "()V"⟩, 55), (⟨"UndoTradeModel", "look", "()I"⟩, 55), (⟨"UndoTradeModel", "fails", "()Z"⟩, 55), (⟨"UndoTradeModel", "readRules", "()V"⟩, 55), (⟨"UndoTradeModel", "number", "(II)I"⟩, 55), (⟨"UndoTradeModel", "isDigit", "()Z"⟩, 55), (⟨"UndoTradeModel", "here", "()I"⟩, 55), (⟨"UndoTradeModel", "readApprentice", "()V"⟩, 55)]
theorem lw_r3 : ∀ q ∈ lw_privs_3, lw_okq q := List.forall_mem_cons.mpr ⟨lw_p32, List.forall_mem_cons.mpr ⟨lw_p33, List.forall_mem_cons.mpr ⟨lw_p34, List.forall_mem_cons.mpr ⟨lw_p35, List.forall_mem_cons.mpr ⟨lw_p36, List.forall_mem_cons.mpr ⟨lw_p37, List.forall_mem_cons.mpr ⟨lw_p38, List.forall_mem_cons.mpr ⟨lw_p39, List.forall_mem_cons.mpr ⟨lw_p40, List.forall_mem_cons.mpr ⟨lw_p41, List.forall_mem_cons.mpr ⟨lw_p42, List.forall_mem_cons.mpr ⟨lw_p43, List.forall_mem_cons.mpr ⟨lw_p44, List.forall_mem_cons.mpr ⟨lw_p45, List.forall_mem_cons.mpr ⟨lw_p46, List.forall_mem_cons.mpr ⟨lw_p47, fun _ h => absurd h List.not_mem_nil⟩⟩⟩⟩⟩⟩⟩⟩⟩⟩⟩⟩⟩⟩⟩⟩
theorem lw_p48 : lw_okq (⟨"UndoTradeModel", "goThrough", "([BII)V"⟩, 55) := ⟨⟨by decide +kernel, by decide +kernel⟩, List.mem_of_getElem? (i := 1090) (by decide +kernel), List.mem_of_getElem? (i := 1387) (by decide +kernel), List.mem_of_getElem? (i := 1388) (by decide +kernel)⟩
theorem lw_p49 : lw_okq (⟨"UndoTradeModel", "clause", "()V"⟩, 55) := ⟨⟨by decide +kernel, by decide +kernel⟩, List.mem_of_getElem? (i := 1090) (by decide +kernel), List.mem_of_getElem? (i := 1391) (by decide +kernel), List.mem_of_getElem? (i := 1392) (by decide +kernel)⟩
theorem lw_p50 : lw_okq (⟨"UndoTradeModel", "takes", "(I)Z"⟩, 55) := ⟨⟨by decide +kernel, by decide +kernel⟩, List.mem_of_getElem? (i := 1090) (by decide +kernel), List.mem_of_getElem? (i := 1398) (by decide +kernel), List.mem_of_getElem? (i := 1399) (by decide +kernel)⟩
theorem lw_p51 : lw_okq (⟨"UndoTradeModel", "condition", "(ZI)Z"⟩, 55) := ⟨⟨by decide +kernel, by decide +kernel⟩, List.mem_of_getElem? (i := 1090) (by decide +kernel), List.mem_of_getElem? (i := 1402) (by decide +kernel), List.mem_of_getElem? (i := 1403) (by decide +kernel)⟩
theorem lw_p52 : lw_okq (⟨"UndoTradeModel", "part", "(ZI)Z"⟩, 55) := ⟨⟨by decide +kernel, by decide +kernel⟩, List.mem_of_getElem? (i := 1090) (by decide +kernel), List.mem_of_getElem? (i := 1406) (by decide +kernel), List.mem_of_getElem? (i := 1407) (by decide +kernel)⟩
theorem lw_p53 : lw_okq (⟨"UndoTradeModel", "compares", "(ZI)Z"⟩, 55) := ⟨⟨by decide +kernel, by decide +kernel⟩, List.mem_of_getElem? (i := 1090) (by decide +kernel), List.mem_of_getElem? (i := 1410) (by decide +kernel), List.mem_of_getElem? (i := 1411) (by decide +kernel)⟩
theorem lw_p54 : lw_okq (⟨"UndoTradeModel", "sum", "()I"⟩, 55) := ⟨⟨by decide +kernel, by decide +kernel⟩, List.mem_of_getElem? (i := 1090) (by decide +kernel), List.mem_of_getElem? (i := 1414) (by decide +kernel), List.mem_of_getElem? (i := 1415) (by decide +kernel)⟩
theorem lw_p55 : lw_okq (⟨"UndoTradeModel", "term", "()I"⟩, 55) := ⟨⟨by decide +kernel, by decide +kernel⟩, List.mem_of_getElem? (i := 1090) (by decide +kernel), List.mem_of_getElem? (i := 1418) (by decide +kernel), List.mem_of_getElem? (i := 1419) (by decide +kernel)⟩
theorem lw_p56 : lw_okq (⟨"UndoTradeModel", "atom", "()I"⟩, 55) := ⟨⟨by decide +kernel, by decide +kernel⟩, List.mem_of_getElem? (i := 1090) (by decide +kernel), List.mem_of_getElem? (i := 1422) (by decide +kernel), List.mem_of_getElem? (i := 1423) (by decide +kernel)⟩
theorem lw_p57 : lw_okq (⟨"UndoTradeModel", "goesIn", "()Z"⟩, 55) := ⟨⟨by decide +kernel, by decide +kernel⟩, List.mem_of_getElem? (i := 1090) (by decide +kernel), List.mem_of_getElem? (i := 1426) (by decide +kernel), List.mem_of_getElem? (i := 1427) (by decide +kernel)⟩
theorem lw_p58 : lw_okq (⟨"UndoTradeModel", "unit", "()Z"⟩, 55) := ⟨⟨by decide +kernel, by decide +kernel⟩, List.mem_of_getElem? (i := 1090) (by decide +kernel), List.mem_of_getElem? (i := 1444) (by decide +kernel), List.mem_of_getElem? (i := 1445) (by decide +kernel)⟩
theorem lw_p59 : lw_okq (⟨"UndoTradeModel", "readPlan", "()V"⟩, 55) := ⟨⟨by decide +kernel, by decide +kernel⟩, List.mem_of_getElem? (i := 1090) (by decide +kernel), List.mem_of_getElem? (i := 1448) (by decide +kernel), List.mem_of_getElem? (i := 1449) (by decide +kernel)⟩
theorem lw_p60 : lw_okq (⟨"UndoTradeModel", "readStep", "(I)V"⟩, 55) := ⟨⟨by decide +kernel, by decide +kernel⟩, List.mem_of_getElem? (i := 1090) (by decide +kernel), List.mem_of_getElem? (i := 1452) (by decide +kernel), List.mem_of_getElem? (i := 1453) (by decide +kernel)⟩
theorem lw_p61 : lw_okq (⟨"UndoTradeModel", "digit", "()I"⟩, 55) := ⟨⟨by decide +kernel, by decide +kernel⟩, List.mem_of_getElem? (i := 1090) (by decide +kernel), List.mem_of_getElem? (i := 1457) (by decide +kernel), List.mem_of_getElem? (i := 1458) (by decide +kernel)⟩
theorem lw_p62 : lw_okq (⟨"UndoTradeModel", "isHand", "(I)Z"⟩, 55) := ⟨⟨by decide +kernel, by decide +kernel⟩, List.mem_of_getElem? (i := 1090) (by decide +kernel), List.mem_of_getElem? (i := 1473) (by decide +kernel), List.mem_of_getElem? (i := 1474) (by decide +kernel)⟩
theorem lw_p63 : lw_okq (⟨"UndoTradeModel", "stands", "([I)V"⟩, 55) := ⟨⟨by decide +kernel, by decide +kernel⟩, List.mem_of_getElem? (i := 1090) (by decide +kernel), List.mem_of_getElem? (i := 1481) (by decide +kernel), List.mem_of_getElem? (i := 1482) (by decide +kernel)⟩
def lw_privs_4 : List (MethodName × Nat) := [(⟨"UndoTradeModel", "goThrough", "([BII)V"⟩, 55), (⟨"UndoTradeModel", "clause", "()V"⟩, 55), (⟨"UndoTradeModel", "takes", "(I)Z"⟩, 55), (⟨"UndoTradeModel", "condition", "(ZI)Z"⟩, 55), (⟨"UndoTradeModel", "part", "(ZI)Z"⟩, 55), (⟨"UndoTradeModel", "compares", "(ZI)Z"⟩, 55), (⟨"UndoTradeModel", "sum", "()I"⟩, 55), (⟨"UndoTradeModel", "term", "()I"⟩, 55), (⟨"UndoTradeModel", "atom", "()I"⟩, 55), (⟨"UndoTradeModel", "goesIn", "()Z"⟩, 55), (⟨"UndoTradeModel", "unit", "()Z"⟩, 55), (⟨"UndoTradeModel", "readPlan", "()V"⟩, 55), (⟨"UndoTradeModel", "readStep", "(I)V"⟩, 55), (⟨"UndoTradeModel", "digit", "()I"⟩, 55), (⟨"UndoTradeModel", "isHand", "(I)Z"⟩, 55), (⟨"UndoTradeModel", "stands", "([I)V"⟩, 55)]
theorem lw_r4 : ∀ q ∈ lw_privs_4, lw_okq q := List.forall_mem_cons.mpr ⟨lw_p48, List.forall_mem_cons.mpr ⟨lw_p49, List.forall_mem_cons.mpr ⟨lw_p50, List.forall_mem_cons.mpr ⟨lw_p51, List.forall_mem_cons.mpr ⟨lw_p52, List.forall_mem_cons.mpr ⟨lw_p53, List.forall_mem_cons.mpr ⟨lw_p54, List.forall_mem_cons.mpr ⟨lw_p55, List.forall_mem_cons.mpr ⟨lw_p56, List.forall_mem_cons.mpr ⟨lw_p57, List.forall_mem_cons.mpr ⟨lw_p58, List.forall_mem_cons.mpr ⟨lw_p59, List.forall_mem_cons.mpr ⟨lw_p60, List.forall_mem_cons.mpr ⟨lw_p61, List.forall_mem_cons.mpr ⟨lw_p62, List.forall_mem_cons.mpr ⟨lw_p63, fun _ h => absurd h List.not_mem_nil⟩⟩⟩⟩⟩⟩⟩⟩⟩⟩⟩⟩⟩⟩⟩⟩
theorem lw_p64 : lw_okq (⟨"UndoTradeModel", "isThere", "(I)Z"⟩, 55) := ⟨⟨by decide +kernel, by decide +kernel⟩, List.mem_of_getElem? (i := 1090) (by decide +kernel), List.mem_of_getElem? (i := 1485) (by decide +kernel), List.mem_of_getElem? (i := 1486) (by decide +kernel)⟩
theorem lw_p65 : lw_okq (⟨"UndoTradeModel", "isDeed", "(I)Z"⟩, 55) := ⟨⟨by decide +kernel, by decide +kernel⟩, List.mem_of_getElem? (i := 1090) (by decide +kernel), List.mem_of_getElem? (i := 1497) (by decide +kernel), List.mem_of_getElem? (i := 1498) (by decide +kernel)⟩
theorem lw_p66 : lw_okq (⟨"UndoTradeModel", "isLate", "()Z"⟩, 55) := ⟨⟨by decide +kernel, by decide +kernel⟩, List.mem_of_getElem? (i := 1090) (by decide +kernel), List.mem_of_getElem? (i := 1514) (by decide +kernel), List.mem_of_getElem? (i := 1515) (by decide +kernel)⟩
theorem lw_p67 : lw_okq (⟨"UndoTradeModel", "canDo", "([IIII)Z"⟩, 55) := ⟨⟨by decide +kernel, by decide +kernel⟩, List.mem_of_getElem? (i := 1090) (by decide +kernel), List.mem_of_getElem? (i := 1518) (by decide +kernel), List.mem_of_getElem? (i := 1519) (by decide +kernel)⟩
theorem lw_p68 : lw_okq (⟨"UndoTradeModel", "upon0", "(I)I"⟩, 55) := ⟨⟨by decide +kernel, by decide +kernel⟩, List.mem_of_getElem? (i := 1090) (by decide +kernel), List.mem_of_getElem? (i := 1523) (by decide +kernel), List.mem_of_getElem? (i := 1524) (by decide +kernel)⟩
theorem lw_p69 : lw_okq (⟨"UndoTradeModel", "doesStandOn", "(II)Z"⟩, 55) := ⟨⟨by decide +kernel, by decide +kernel⟩, List.mem_of_getElem? (i := 1090) (by decide +kernel), List.mem_of_getElem? (i := 1527) (by decide +kernel), List.mem_of_getElem? (i := 1528) (by decide +kernel)⟩
theorem lw_p70 : lw_okq (⟨"UndoTradeModel", "begins0", "()V"⟩, 55) := ⟨⟨by decide +kernel, by decide +kernel⟩, List.mem_of_getElem? (i := 1090) (by decide +kernel), List.mem_of_getElem? (i := 1531) (by decide +kernel), List.mem_of_getElem? (i := 1532) (by decide +kernel)⟩
theorem lw_p71 : lw_okq (⟨"UndoTradeModel", "remember", "()V"⟩, 55) := ⟨⟨by decide +kernel, by decide +kernel⟩, List.mem_of_getElem? (i := 1090) (by decide +kernel), List.mem_of_getElem? (i := 1535) (by decide +kernel), List.mem_of_getElem? (i := 1536) (by decide +kernel)⟩
theorem lw_p72 : lw_okq (⟨"UndoTradeModel", "actMake", "(III)V"⟩, 55) := ⟨⟨by decide +kernel, by decide +kernel⟩, List.mem_of_getElem? (i := 1090) (by decide +kernel), List.mem_of_getElem? (i := 1539) (by decide +kernel), List.mem_of_getElem? (i := 1540) (by decide +kernel)⟩
theorem lw_p73 : lw_okq (⟨"UndoTradeModel", "writes", "(I)V"⟩, 55) := ⟨⟨by decide +kernel, by decide +kernel⟩, List.mem_of_getElem? (i := 1090) (by decide +kernel), List.mem_of_getElem? (i := 1546) (by decide +kernel), List.mem_of_getElem? (i := 1547) (by decide +kernel)⟩
theorem lw_p74 : lw_okq (⟨"UndoTradeModel", "canTake", "(I)Z"⟩, 55) := ⟨⟨by decide +kernel, by decide +kernel⟩, List.mem_of_getElem? (i := 1090) (by decide +kernel), List.mem_of_getElem? (i := 1554) (by decide +kernel), List.mem_of_getElem? (i := 1555) (by decide +kernel)⟩
theorem lw_p75 : lw_okq (⟨"UndoTradeModel", "actTake", "(I)V"⟩, 55) := ⟨⟨by decide +kernel, by decide +kernel⟩, List.mem_of_getElem? (i := 1090) (by decide +kernel), List.mem_of_getElem? (i := 1561) (by decide +kernel), List.mem_of_getElem? (i := 1562) (by decide +kernel)⟩
theorem lw_p76 : lw_okq (⟨"UndoTradeModel", "happens", "()V"⟩, 55) := ⟨⟨by decide +kernel, by decide +kernel⟩, List.mem_of_getElem? (i := 1090) (by decide +kernel), List.mem_of_getElem? (i := 1592) (by decide +kernel), List.mem_of_getElem? (i := 1593) (by decide +kernel)⟩
theorem lw_p77 : lw_okq (⟨"UndoTradeModel", "draw", "(I)I"⟩, 55) := ⟨⟨by decide +kernel, by decide +kernel⟩, List.mem_of_getElem? (i := 1090) (by decide +kernel), List.mem_of_getElem? (i := 1596) (by decide +kernel), List.mem_of_getElem? (i := 1597) (by decide +kernel)⟩
theorem lw_p78 : lw_okq (⟨"UndoTradeModel", "isPlan", "(I)Z"⟩, 55) := ⟨⟨by decide +kernel, by decide +kernel⟩, List.mem_of_getElem? (i := 1090) (by decide +kernel), List.mem_of_getElem? (i := 1614) (by decide +kernel), List.mem_of_getElem? (i := 1615) (by decide +kernel)⟩
theorem lw_p79 : lw_okq (⟨"UndoTradeModel", "goPlan", "([II)I"⟩, 55) := ⟨⟨by decide +kernel, by decide +kernel⟩, List.mem_of_getElem? (i := 1090) (by decide +kernel), List.mem_of_getElem? (i := 1626) (by decide +kernel), List.mem_of_getElem? (i := 1627) (by decide +kernel)⟩
def lw_privs_5 : List (MethodName × Nat) := [(⟨"UndoTradeModel", "isThere", "(I)Z"⟩, 55), (⟨"UndoTradeModel", "isDeed", "(I)Z"⟩, 55), (⟨"UndoTradeModel", "isLate", "()Z"⟩, 55), (⟨"UndoTradeModel", "canDo", "([IIII)Z"⟩, 55), (⟨"UndoTradeModel", "upon0", "(I)I"⟩, 55), (⟨"UndoTradeModel", "doesStandOn", "(II)Z"⟩, 55), (⟨"UndoTradeModel", "begins0", "()V"⟩, 55), (⟨"UndoTradeModel", "remember", "()V"⟩, 55), (⟨"UndoTradeModel", "actMake", "(III)V"⟩, 55), (⟨"UndoTradeModel", "writes", "(I)V"⟩, 55), (⟨"UndoTradeModel", "canTake", "(I)Z"⟩, 55), (⟨"UndoTradeModel", "actTake", "(I)V"⟩, 55), (⟨"UndoTradeModel", "happens", "()V"⟩, 55), (⟨"UndoTradeModel", "draw", "(I)I"⟩, 55), (⟨"UndoTradeModel", "isPlan", "(I)Z"⟩, 55), (⟨"UndoTradeModel", "goPlan", "([II)I"⟩, 55)]
theorem lw_r5 : ∀ q ∈ lw_privs_5, lw_okq q := List.forall_mem_cons.mpr ⟨lw_p64, List.forall_mem_cons.mpr ⟨lw_p65, List.forall_mem_cons.mpr ⟨lw_p66, List.forall_mem_cons.mpr ⟨lw_p67, List.forall_mem_cons.mpr ⟨lw_p68, List.forall_mem_cons.mpr ⟨lw_p69, List.forall_mem_cons.mpr ⟨lw_p70, List.forall_mem_cons.mpr ⟨lw_p71, List.forall_mem_cons.mpr ⟨lw_p72, List.forall_mem_cons.mpr ⟨lw_p73, List.forall_mem_cons.mpr ⟨lw_p74, List.forall_mem_cons.mpr ⟨lw_p75, List.forall_mem_cons.mpr ⟨lw_p76, List.forall_mem_cons.mpr ⟨lw_p77, List.forall_mem_cons.mpr ⟨lw_p78, List.forall_mem_cons.mpr ⟨lw_p79, fun _ h => absurd h List.not_mem_nil⟩⟩⟩⟩⟩⟩⟩⟩⟩⟩⟩⟩⟩⟩⟩⟩
theorem lw_p80 : lw_okq (⟨"UndoTradeModel", "laysMade", "(I[I)V"⟩, 55) := ⟨⟨by decide +kernel, by decide +kernel⟩, List.mem_of_getElem? (i := 1090) (by decide +kernel), List.mem_of_getElem? (i := 1638) (by decide +kernel), List.mem_of_getElem? (i := 1639) (by decide +kernel)⟩
theorem lw_p81 : lw_okq (⟨"UndoTradeModel", "costAt", "(III)I"⟩, 55) := ⟨⟨by decide +kernel, by decide +kernel⟩, List.mem_of_getElem? (i := 1090) (by decide +kernel), List.mem_of_getElem? (i := 1647) (by decide +kernel), List.mem_of_getElem? (i := 1648) (by decide +kernel)⟩
theorem lw_p82 : lw_okq (⟨"UndoTradeModel", "costOf", "(IIIIII)I"⟩, 55) := ⟨⟨by decide +kernel, by decide +kernel⟩, List.mem_of_getElem? (i := 1090) (by decide +kernel), List.mem_of_getElem? (i := 1651) (by decide +kernel), List.mem_of_getElem? (i := 1652) (by decide +kernel)⟩
theorem lw_p83 : lw_okq (⟨"UndoTradeModel", "laysWays", "()I"⟩, 55) := ⟨⟨by decide +kernel, by decide +kernel⟩, List.mem_of_getElem? (i := 1090) (by decide +kernel), List.mem_of_getElem? (i := 1666) (by decide +kernel), List.mem_of_getElem? (i := 1667) (by decide +kernel)⟩
theorem lw_p84 : lw_okq (⟨"UndoTradeModel", "laysNeeds", "()V"⟩, 55) := ⟨⟨by decide +kernel, by decide +kernel⟩, List.mem_of_getElem? (i := 1090) (by decide +kernel), List.mem_of_getElem? (i := 1670) (by decide +kernel), List.mem_of_getElem? (i := 1671) (by decide +kernel)⟩
theorem lw_p85 : lw_okq (⟨"UndoTradeModel", "canLay", "(II)Z"⟩, 55) := ⟨⟨by decide +kernel, by decide +kernel⟩, List.mem_of_getElem? (i := 1090) (by decide +kernel), List.mem_of_getElem? (i := 1674) (by decide +kernel), List.mem_of_getElem? (i := 1675) (by decide +kernel)⟩
theorem lw_p86 : lw_okq (⟨"UndoTradeModel", "picks", "(I)V"⟩, 55) := ⟨⟨by decide +kernel, by decide +kernel⟩, List.mem_of_getElem? (i := 1090) (by decide +kernel), List.mem_of_getElem? (i := 1682) (by decide +kernel), List.mem_of_getElem? (i := 1683) (by decide +kernel)⟩
theorem lw_p87 : lw_okq (⟨"UndoTradeModel", "laysCosts", "()V"⟩, 55) := ⟨⟨by decide +kernel, by decide +kernel⟩, List.mem_of_getElem? (i := 1090) (by decide +kernel), List.mem_of_getElem? (i := 1695) (by decide +kernel), List.mem_of_getElem? (i := 1696) (by decide +kernel)⟩
theorem lw_p88 : lw_okq (⟨"UndoTradeModel", "areHands", "(I)Z"⟩, 55) := ⟨⟨by decide +kernel, by decide +kernel⟩, List.mem_of_getElem? (i := 1090) (by decide +kernel), List.mem_of_getElem? (i := 1717) (by decide +kernel), List.mem_of_getElem? (i := 1718) (by decide +kernel)⟩
theorem lw_p89 : lw_okq (⟨"UndoTradeModel", "takenBy", "(I)I"⟩, 55) := ⟨⟨by decide +kernel, by decide +kernel⟩, List.mem_of_getElem? (i := 1090) (by decide +kernel), List.mem_of_getElem? (i := 1721) (by decide +kernel), List.mem_of_getElem? (i := 1722) (by decide +kernel)⟩
theorem lw_p90 : lw_okq (⟨"UndoTradeModel", "knownBy", "(I)I"⟩, 55) := ⟨⟨by decide +kernel, by decide +kernel⟩, List.mem_of_getElem? (i := 1090) (by decide +kernel), List.mem_of_getElem? (i := 1725) (by decide +kernel), List.mem_of_getElem? (i := 1726) (by decide +kernel)⟩
theorem lw_p91 : lw_okq (⟨"UndoTradeModel", "leftBy", "(I)I"⟩, 55) := ⟨⟨by decide +kernel, by decide +kernel⟩, List.mem_of_getElem? (i := 1090) (by decide +kernel), List.mem_of_getElem? (i := 1729) (by decide +kernel), List.mem_of_getElem? (i := 1730) (by decide +kernel)⟩
theorem lw_p92 : lw_okq (⟨"UndoTradeModel", "laysGame", "()V"⟩, 55) := ⟨⟨by decide +kernel, by decide +kernel⟩, List.mem_of_getElem? (i := 1090) (by decide +kernel), List.mem_of_getElem? (i := 1749) (by decide +kernel), List.mem_of_getElem? (i := 1750) (by decide +kernel)⟩
theorem lw_p93 : lw_okq (⟨"UndoTradeModel", "argsOf", "(I)I"⟩, 55) := ⟨⟨by decide +kernel, by decide +kernel⟩, List.mem_of_getElem? (i := 1090) (by decide +kernel), List.mem_of_getElem? (i := 1768) (by decide +kernel), List.mem_of_getElem? (i := 1769) (by decide +kernel)⟩
theorem lw_p94 : lw_okq (⟨"UndoTradeModel", "firstCost", "(II)I"⟩, 55) := ⟨⟨by decide +kernel, by decide +kernel⟩, List.mem_of_getElem? (i := 1090) (by decide +kernel), List.mem_of_getElem? (i := 1772) (by decide +kernel), List.mem_of_getElem? (i := 1773) (by decide +kernel)⟩
theorem lw_p95 : lw_okq (⟨"UndoTradeModel", "ends0", "(I)I"⟩, 55) := ⟨⟨by decide +kernel, by decide +kernel⟩, List.mem_of_getElem? (i := 1090) (by decide +kernel), List.mem_of_getElem? (i := 1789) (by decide +kernel), List.mem_of_getElem? (i := 1790) (by decide +kernel)⟩
def lw_privs_6 : List (MethodName × Nat) := [(⟨"UndoTradeModel", "laysMade", "(I[I)V"⟩, 55), (⟨"UndoTradeModel", "costAt", "(III)I"⟩, 55), (⟨"UndoTradeModel", "costOf", "(IIIIII)I"⟩, 55), (⟨"UndoTradeModel", "laysWays", "()I"⟩, 55), (⟨"UndoTradeModel", "laysNeeds", "()V"⟩, 55), (⟨"UndoTradeModel", "canLay", "(II)Z"⟩, 55), (⟨"UndoTradeModel", "picks", "(I)V"⟩, 55), (⟨"UndoTradeModel", "laysCosts", "()V"⟩, 55), (⟨"UndoTradeModel", "areHands", "(I)Z"⟩, 55), (⟨"UndoTradeModel", "takenBy", "(I)I"⟩, 55), (⟨"UndoTradeModel", "knownBy", "(I)I"⟩, 55), (⟨"UndoTradeModel", "leftBy", "(I)I"⟩, 55), (⟨"UndoTradeModel", "laysGame", "()V"⟩, 55), (⟨"UndoTradeModel", "argsOf", "(I)I"⟩, 55), (⟨"UndoTradeModel", "firstCost", "(II)I"⟩, 55), (⟨"UndoTradeModel", "ends0", "(I)I"⟩, 55)]
theorem lw_r6 : ∀ q ∈ lw_privs_6, lw_okq q := List.forall_mem_cons.mpr ⟨lw_p80, List.forall_mem_cons.mpr ⟨lw_p81, List.forall_mem_cons.mpr ⟨lw_p82, List.forall_mem_cons.mpr ⟨lw_p83, List.forall_mem_cons.mpr ⟨lw_p84, List.forall_mem_cons.mpr ⟨lw_p85, List.forall_mem_cons.mpr ⟨lw_p86, List.forall_mem_cons.mpr ⟨lw_p87, List.forall_mem_cons.mpr ⟨lw_p88, List.forall_mem_cons.mpr ⟨lw_p89, List.forall_mem_cons.mpr ⟨lw_p90, List.forall_mem_cons.mpr ⟨lw_p91, List.forall_mem_cons.mpr ⟨lw_p92, List.forall_mem_cons.mpr ⟨lw_p93, List.forall_mem_cons.mpr ⟨lw_p94, List.forall_mem_cons.mpr ⟨lw_p95, fun _ h => absurd h List.not_mem_nil⟩⟩⟩⟩⟩⟩⟩⟩⟩⟩⟩⟩⟩⟩⟩⟩
theorem lw_p96 : lw_okq (⟨"UndoTradeModel", "high", "()I"⟩, 55) := ⟨⟨by decide +kernel, by decide +kernel⟩, List.mem_of_getElem? (i := 1090) (by decide +kernel), List.mem_of_getElem? (i := 1793) (by decide +kernel), List.mem_of_getElem? (i := 1794) (by decide +kernel)⟩
theorem lw_p97 : lw_okq (⟨"UndoTradeModel", "partsOf", "(Z)I"⟩, 55) := ⟨⟨by decide +kernel, by decide +kernel⟩, List.mem_of_getElem? (i := 1090) (by decide +kernel), List.mem_of_getElem? (i := 1797) (by decide +kernel), List.mem_of_getElem? (i := 1798) (by decide +kernel)⟩
def lw_privs_7 : List (MethodName × Nat) := [(⟨"UndoTradeModel", "high", "()I"⟩, 55), (⟨"UndoTradeModel", "partsOf", "(Z)I"⟩, 55)]
theorem lw_r7 : ∀ q ∈ lw_privs_7, lw_okq q := List.forall_mem_cons.mpr ⟨lw_p96, List.forall_mem_cons.mpr ⟨lw_p97, fun _ h => absurd h List.not_mem_nil⟩⟩
def lw_privs : List (MethodName × Nat) := lw_privs_1 ++ (lw_privs_2 ++ (lw_privs_3 ++ (lw_privs_4 ++ (lw_privs_5 ++ (lw_privs_6 ++ (lw_privs_7))))))
def lw_tbl : List Cond := k2_sels lw_privs ++ tables_1
theorem lw_privs_ok : ∀ q ∈ lw_privs, lw_okq q := by
  show ∀ q ∈ lw_privs_1 ++ (lw_privs_2 ++ (lw_privs_3 ++ (lw_privs_4 ++ (lw_privs_5 ++ (lw_privs_6 ++ (lw_privs_7)))))), lw_okq q
  exact List.forall_mem_append.mpr ⟨lw_r1, List.forall_mem_append.mpr ⟨lw_r2, List.forall_mem_append.mpr ⟨lw_r3, List.forall_mem_append.mpr ⟨lw_r4, List.forall_mem_append.mpr ⟨lw_r5, List.forall_mem_append.mpr ⟨lw_r6, lw_r7⟩⟩⟩⟩⟩⟩

def lw_good (ws : List Cond) : List Cond := ws.filter goodWord
def am_tb : List Cond := lw_good lw_tbl
theorem am_tb_in {w : Cond} (h : w ∈ am_tb) : w ∈ lw_tbl := (List.mem_filter.mp h).1
theorem am_tb_good {w : Cond} (h : w ∈ am_tb) : goodWord w = true := (List.mem_filter.mp h).2
theorem am_tb_at {w : Cond} (i : Nat) (h : lw_tbl[i]? = some w) (g : goodWord w = true) : w ∈ am_tb := List.mem_filter.mpr ⟨List.mem_of_getElem? h, g⟩

def RX0 : String := "UndoTrade$DeedList"
def TX0 : u_T := fun k => match k with
  | 0 => ("UndoTrade$DeedList", "sorts", "[I", true)
  | 1 => ("UndoTrade$DeedList", "parts", "[I", true)
  | 2 => ("UndoTrade$DeedList", "xs", "[I", true)
  | _ => ("UndoTrade$DeedList", "size", "I", false)
def tyX0 : Nat → FieldType := fun k => match k with
  | 0 => .array .int
  | 1 => .array .int
  | 2 => .array .int
  | _ => .int
theorem nmX0 : ∀ a, a < 4 → ∀ b, b < 4 → a ≠ b → (TX0 a).2.1 ≠ (TX0 b).2.1 := by decide +kernel
theorem tyX0_ok : ∀ k, k < 4 → parseFieldDescriptor (TX0 k).2.2.1 = some (tyX0 k) := by decide +kernel
abbrev cX0_init : ByteArray := prog_2_method_1_code
def yX0_init : MethodName := ⟨RX0, "<init>", "()V"⟩
abbrev cX0_copyFrom : ByteArray := prog_2_method_2_code
def yX0_copyFrom : MethodName := ⟨RX0, "copyFrom", "(LUndoTrade$DeedList;)V"⟩
abbrev cX0_has : ByteArray := prog_2_method_3_code
def yX0_has : MethodName := ⟨RX0, "has", "(I)Z"⟩
abbrev cX0_tell : ByteArray := prog_2_method_4_code
def yX0_tell : MethodName := ⟨RX0, "tell", "(II)I"⟩
abbrev cX0_add : ByteArray := prog_2_method_5_code
def yX0_add : MethodName := ⟨RX0, "add", "(III)V"⟩
abbrev cX0_drop : ByteArray := prog_2_method_6_code
def yX0_drop : MethodName := ⟨RX0, "drop", "(I)V"⟩
abbrev cX0_tellsX : ByteArray := prog_2_method_7_code
def yX0_tellsX : MethodName := ⟨RX0, "tellsX", "(I)Z"⟩
abbrev cX0_readFrom : ByteArray := prog_2_method_8_code
def yX0_readFrom : MethodName := ⟨RX0, "readFrom", "(LUndoTrade$Tape;)Z"⟩
abbrev cX0_readDeed : ByteArray := prog_2_method_9_code
def yX0_readDeed : MethodName := ⟨RX0, "readDeed", "(LUndoTrade$Tape;)Z"⟩
abbrev cX0_sortOf : ByteArray := prog_2_method_10_code
def yX0_sortOf : MethodName := ⟨RX0, "sortOf", "(I)I"⟩
abbrev cX0_lastOf : ByteArray := prog_2_method_11_code
def yX0_lastOf : MethodName := ⟨RX0, "lastOf", "(II)I"⟩
abbrev cX0_timesOf : ByteArray := prog_2_method_12_code
def yX0_timesOf : MethodName := ⟨RX0, "timesOf", "(II)I"⟩
abbrev cX0_isThere : ByteArray := prog_2_method_13_code
def yX0_isThere : MethodName := ⟨RX0, "isThere", "(I)Z"⟩
abbrev cX0_isHidden : ByteArray := prog_2_method_14_code
def yX0_isHidden : MethodName := ⟨RX0, "isHidden", "(I)Z"⟩
abbrev cX0_kind : ByteArray := prog_2_method_15_code
def yX0_kind : MethodName := ⟨RX0, "kind", "(I)I"⟩
abbrev cX0_lastColour : ByteArray := prog_2_method_16_code
def yX0_lastColour : MethodName := ⟨RX0, "lastColour", "(I)I"⟩
abbrev cX0_under : ByteArray := prog_2_method_17_code
def yX0_under : MethodName := ⟨RX0, "under", "(I)I"⟩
abbrev cX0_over : ByteArray := prog_2_method_18_code
def yX0_over : MethodName := ⟨RX0, "over", "(I)I"⟩
abbrev cX0_storeys : ByteArray := prog_2_method_19_code
def yX0_storeys : MethodName := ⟨RX0, "storeys", "(I)I"⟩
abbrev cX0_height : ByteArray := prog_2_method_20_code
def yX0_height : MethodName := ⟨RX0, "height", "()I"⟩
abbrev cX0_partsThere : ByteArray := prog_2_method_21_code
def yX0_partsThere : MethodName := ⟨RX0, "partsThere", "()I"⟩
abbrev cX0_looseParts : ByteArray := prog_2_method_22_code
def yX0_looseParts : MethodName := ⟨RX0, "looseParts", "()I"⟩
abbrev cX0_canBe : ByteArray := prog_2_method_23_code
def yX0_canBe : MethodName := ⟨RX0, "canBe", "(IIII)Z"⟩
abbrev cX0_standsOn : ByteArray := prog_2_method_24_code
def yX0_standsOn : MethodName := ⟨RX0, "standsOn", "(II)Z"⟩
abbrev cX0_leansOn : ByteArray := prog_2_method_25_code
def yX0_leansOn : MethodName := ⟨RX0, "leansOn", "(II)Z"⟩
abbrev cX0_canBeTakenBack : ByteArray := prog_2_method_26_code
def yX0_canBeTakenBack : MethodName := ⟨RX0, "canBeTakenBack", "(I)Z"⟩
abbrev cX0_follow : ByteArray := prog_2_method_27_code
def yX0_follow : MethodName := ⟨RX0, "follow", "(LUndoTrade$DeedList;I)I"⟩
abbrev cX0_looksLike : ByteArray := prog_2_method_28_code
def yX0_looksLike : MethodName := ⟨RX0, "looksLike", "(LUndoTrade$DeedList;)Z"⟩
abbrev cX0_coatsAsNumber : ByteArray := prog_2_method_29_code
def yX0_coatsAsNumber : MethodName := ⟨RX0, "coatsAsNumber", "(I)I"⟩
def RX1 : String := "UndoTrade$Draws"
def TX1 : u_T := fun k => match k with
  | _ => ("UndoTrade$Draws", "x", "J", false)
def tyX1 : Nat → FieldType := fun k => match k with
  | _ => .long
theorem nmX1 : ∀ a, a < 1 → ∀ b, b < 1 → a ≠ b → (TX1 a).2.1 ≠ (TX1 b).2.1 := by decide +kernel
theorem tyX1_ok : ∀ k, k < 1 → parseFieldDescriptor (TX1 k).2.2.1 = some (tyX1 k) := by decide +kernel
abbrev cX1_init : ByteArray := prog_3_method_1_code
def yX1_init : MethodName := ⟨RX1, "<init>", "()V"⟩
abbrev cX1_below : ByteArray := prog_3_method_2_code
def yX1_below : MethodName := ⟨RX1, "below", "(I)I"⟩
def RX2 : String := "UndoTrade$Law"
def TX2 : u_T := fun k => match k with
  | 0 => ("UndoTrade$Law", "code", "[I", true)
  | 1 => ("UndoTrade$Law", "stack", "[I", true)
  | _ => ("UndoTrade$Law", "size", "I", false)
def tyX2 : Nat → FieldType := fun k => match k with
  | 0 => .array .int
  | 1 => .array .int
  | _ => .int
theorem nmX2 : ∀ a, a < 3 → ∀ b, b < 3 → a ≠ b → (TX2 a).2.1 ≠ (TX2 b).2.1 := by decide +kernel
theorem tyX2_ok : ∀ k, k < 3 → parseFieldDescriptor (TX2 k).2.2.1 = some (tyX2 k) := by decide +kernel
abbrev cX2_init : ByteArray := prog_4_method_1_code
def yX2_init : MethodName := ⟨RX2, "<init>", "()V"⟩
abbrev cX2_copyFrom : ByteArray := prog_4_method_2_code
def yX2_copyFrom : MethodName := ⟨RX2, "copyFrom", "(LUndoTrade$Law;)V"⟩
abbrev cX2_addNumber : ByteArray := prog_4_method_3_code
def yX2_addNumber : MethodName := ⟨RX2, "addNumber", "(I)V"⟩
abbrev cX2_addLetter : ByteArray := prog_4_method_4_code
def yX2_addLetter : MethodName := ⟨RX2, "addLetter", "(I)V"⟩
abbrev cX2_addSign : ByteArray := prog_4_method_5_code
def yX2_addSign : MethodName := ⟨RX2, "addSign", "(I)V"⟩
abbrev cX2_addStop : ByteArray := prog_4_method_6_code
def yX2_addStop : MethodName := ⟨RX2, "addStop", "()V"⟩
abbrev cX2_addQuestion : ByteArray := prog_4_method_7_code
def yX2_addQuestion : MethodName := ⟨RX2, "addQuestion", "()I"⟩
abbrev cX2_setNextClause : ByteArray := prog_4_method_8_code
def yX2_setNextClause : MethodName := ⟨RX2, "setNextClause", "(I)V"⟩
abbrev cX2_worth : ByteArray := prog_4_method_9_code
def yX2_worth : MethodName := ⟨RX2, "worth", "([I)I"⟩
abbrev cX2_letterOf : ByteArray := prog_4_method_10_code
def yX2_letterOf : MethodName := ⟨RX2, "letterOf", "([II)I"⟩
abbrev cX2_joined : ByteArray := prog_4_method_11_code
def yX2_joined : MethodName := ⟨RX2, "joined", "(III)I"⟩
def RX3 : String := "UndoTrade$LawBook"
def TX3 : u_T := fun k => match k with
  | 0 => ("UndoTrade$LawBook", "laws", "[LUndoTrade$Law;", true)
  | 1 => ("UndoTrade$LawBook", "letters", "[I", true)
  | 2 => ("UndoTrade$LawBook", "told", "I", false)
  | _ => ("UndoTrade$LawBook", "holds", "I", false)
def tyX3 : Nat → FieldType := fun k => match k with
  | 0 => .array (.object "UndoTrade$Law")
  | 1 => .array .int
  | 2 => .int
  | _ => .int
theorem nmX3 : ∀ a, a < 4 → ∀ b, b < 4 → a ≠ b → (TX3 a).2.1 ≠ (TX3 b).2.1 := by decide +kernel
theorem tyX3_ok : ∀ k, k < 4 → parseFieldDescriptor (TX3 k).2.2.1 = some (tyX3 k) := by decide +kernel
abbrev cX3_init : ByteArray := prog_5_method_1_code
def yX3_init : MethodName := ⟨RX3, "<init>", "()V"⟩
abbrev cX3_keep : ByteArray := prog_5_method_2_code
def yX3_keep : MethodName := ⟨RX3, "keep", "(LUndoTrade$Law;)I"⟩
abbrev cX3_priceOf : ByteArray := prog_5_method_3_code
def yX3_priceOf : MethodName := ⟨RX3, "priceOf", "(IIIIII)I"⟩
def RX4 : String := "UndoTrade$LawText"
def TX4 : u_T := fun k => match k with
  | _ => ("UndoTrade$LawText", "law", "LUndoTrade$Law;", true)
def tyX4 : Nat → FieldType := fun k => match k with
  | _ => .object "UndoTrade$Law"
theorem nmX4 : ∀ a, a < 1 → ∀ b, b < 1 → a ≠ b → (TX4 a).2.1 ≠ (TX4 b).2.1 := by decide +kernel
theorem tyX4_ok : ∀ k, k < 1 → parseFieldDescriptor (TX4 k).2.2.1 = some (tyX4 k) := by decide +kernel
abbrev cX4_init : ByteArray := prog_6_method_1_code
def yX4_init : MethodName := ⟨RX4, "<init>", "()V"⟩
abbrev cX4_readFrom : ByteArray := prog_6_method_2_code
def yX4_readFrom : MethodName := ⟨RX4, "readFrom", "(LUndoTrade$Tape;)Z"⟩
abbrev cX4_readClause : ByteArray := prog_6_method_3_code
def yX4_readClause : MethodName := ⟨RX4, "readClause", "(LUndoTrade$Tape;)Z"⟩
abbrev cX4_readCondition : ByteArray := prog_6_method_4_code
def yX4_readCondition : MethodName := ⟨RX4, "readCondition", "(LUndoTrade$Tape;IZ)Z"⟩
abbrev cX4_readTruth : ByteArray := prog_6_method_5_code
def yX4_readTruth : MethodName := ⟨RX4, "readTruth", "(LUndoTrade$Tape;IZ)Z"⟩
abbrev cX4_readUnit : ByteArray := prog_6_method_6_code
def yX4_readUnit : MethodName := ⟨RX4, "readUnit", "(LUndoTrade$Tape;IZ)Z"⟩
abbrev cX4_readCompared : ByteArray := prog_6_method_7_code
def yX4_readCompared : MethodName := ⟨RX4, "readCompared", "(LUndoTrade$Tape;I)Z"⟩
abbrev cX4_isCompare : ByteArray := prog_6_method_8_code
def yX4_isCompare : MethodName := ⟨RX4, "isCompare", "(I)Z"⟩
abbrev cX4_readSum : ByteArray := prog_6_method_9_code
def yX4_readSum : MethodName := ⟨RX4, "readSum", "(LUndoTrade$Tape;I)Z"⟩
abbrev cX4_readTerm : ByteArray := prog_6_method_10_code
def yX4_readTerm : MethodName := ⟨RX4, "readTerm", "(LUndoTrade$Tape;I)Z"⟩
abbrev cX4_readAtom : ByteArray := prog_6_method_11_code
def yX4_readAtom : MethodName := ⟨RX4, "readAtom", "(LUndoTrade$Tape;I)Z"⟩
abbrev cX4_letterOf : ByteArray := prog_6_method_12_code
def yX4_letterOf : MethodName := ⟨RX4, "letterOf", "(I)I"⟩
def RX5 : String := "UndoTrade$Order"
def TX5 : u_T := fun k => match k with
  | 0 => ("UndoTrade$Order", "deeds", "LUndoTrade$DeedList;", false)
  | 1 => ("UndoTrade$Order", "size", "I", false)
  | 2 => ("UndoTrade$Order", "below", "[I", true)
  | 3 => ("UndoTrade$Order", "above", "[I", true)
  | 4 => ("UndoTrade$Order", "whole", "[Z", true)
  | 5 => ("UndoTrade$Order", "worths", "[I", true)
  | 6 => ("UndoTrade$Order", "leasts", "[I", true)
  | _ => ("UndoTrade$Order", "prices", "[I", true)
def tyX5 : Nat → FieldType := fun k => match k with
  | 0 => .object "UndoTrade$DeedList"
  | 1 => .int
  | 2 => .array .int
  | 3 => .array .int
  | 4 => .array .boolean
  | 5 => .array .int
  | 6 => .array .int
  | _ => .array .int
theorem nmX5 : ∀ a, a < 8 → ∀ b, b < 8 → a ≠ b → (TX5 a).2.1 ≠ (TX5 b).2.1 := by decide +kernel
theorem tyX5_ok : ∀ k, k < 8 → parseFieldDescriptor (TX5 k).2.2.1 = some (tyX5 k) := by decide +kernel
abbrev cX5_init : ByteArray := prog_7_method_1_code
def yX5_init : MethodName := ⟨RX5, "<init>", "()V"⟩
abbrev cX5_look : ByteArray := prog_7_method_2_code
def yX5_look : MethodName := ⟨RX5, "look", "(LUndoTrade$DeedList;)V"⟩
abbrev cX5_everything : ByteArray := prog_7_method_3_code
def yX5_everything : MethodName := ⟨RX5, "everything", "()I"⟩
abbrev cX5_lasts : ByteArray := prog_7_method_4_code
def yX5_lasts : MethodName := ⟨RX5, "lasts", "()I"⟩
abbrev cX5_firsts : ByteArray := prog_7_method_5_code
def yX5_firsts : MethodName := ⟨RX5, "firsts", "()I"⟩
abbrev cX5_fixed : ByteArray := prog_7_method_6_code
def yX5_fixed : MethodName := ⟨RX5, "fixed", "()I"⟩
abbrev cX5_earliest : ByteArray := prog_7_method_7_code
def yX5_earliest : MethodName := ⟨RX5, "earliest", "(I)I"⟩
abbrev cX5_latest : ByteArray := prog_7_method_8_code
def yX5_latest : MethodName := ⟨RX5, "latest", "(I)I"⟩
abbrev cX5_leftBy : ByteArray := prog_7_method_9_code
def yX5_leftBy : MethodName := ⟨RX5, "leftBy", "(I)I"⟩
abbrev cX5_canFollow : ByteArray := prog_7_method_10_code
def yX5_canFollow : MethodName := ⟨RX5, "canFollow", "(II)Z"⟩
abbrev cX5_canLeave : ByteArray := prog_7_method_11_code
def yX5_canLeave : MethodName := ⟨RX5, "canLeave", "(II)Z"⟩
abbrev cX5_markWhole : ByteArray := prog_7_method_12_code
def yX5_markWhole : MethodName := ⟨RX5, "markWhole", "()V"⟩
abbrev cX5_countWays : ByteArray := prog_7_method_13_code
def yX5_countWays : MethodName := ⟨RX5, "countWays", "()I"⟩
abbrev cX5_waysFrom : ByteArray := prog_7_method_14_code
def yX5_waysFrom : MethodName := ⟨RX5, "waysFrom", "(I)I"⟩
abbrev cX5_deedOfWay : ByteArray := prog_7_method_15_code
def yX5_deedOfWay : MethodName := ⟨RX5, "deedOfWay", "(II)I"⟩
abbrev cX5_findLeast : ByteArray := prog_7_method_16_code
def yX5_findLeast : MethodName := ⟨RX5, "findLeast", "(LUndoTrade$LawBook;I)I"⟩
abbrev cX5_setPrices : ByteArray := prog_7_method_17_code
def yX5_setPrices : MethodName := ⟨RX5, "setPrices", "(LUndoTrade$LawBook;II)V"⟩
abbrev cX5_priceAt : ByteArray := prog_7_method_18_code
def yX5_priceAt : MethodName := ⟨RX5, "priceAt", "(III)I"⟩
abbrev cX5_setLeasts : ByteArray := prog_7_method_19_code
def yX5_setLeasts : MethodName := ⟨RX5, "setLeasts", "(I)V"⟩
abbrev cX5_sortsOfLatest : ByteArray := prog_7_method_20_code
def yX5_sortsOfLatest : MethodName := ⟨RX5, "sortsOfLatest", "(I)I"⟩
abbrev cX5_costThrough : ByteArray := prog_7_method_21_code
def yX5_costThrough : MethodName := ⟨RX5, "costThrough", "(IIII)I"⟩
abbrev cX5_deedOfLeast : ByteArray := prog_7_method_22_code
def yX5_deedOfLeast : MethodName := ⟨RX5, "deedOfLeast", "(I)I"⟩
abbrev cX5_playGame : ByteArray := prog_7_method_23_code
def yX5_playGame : MethodName := ⟨RX5, "playGame", "(LUndoTrade$LawBook;I)I"⟩
abbrev cX5_firstMove : ByteArray := prog_7_method_24_code
def yX5_firstMove : MethodName := ⟨RX5, "firstMove", "()I"⟩
abbrev cX5_bestMove : ByteArray := prog_7_method_25_code
def yX5_bestMove : MethodName := ⟨RX5, "bestMove", "(I)I"⟩
abbrev cX5_moveWorth : ByteArray := prog_7_method_26_code
def yX5_moveWorth : MethodName := ⟨RX5, "moveWorth", "(II)I"⟩
def RX6 : String := "UndoTrade$Past"
def TX6 : u_T := fun k => match k with
  | 0 => ("UndoTrade$Past", "states", "[LUndoTrade$State;", true)
  | 1 => ("UndoTrade$Past", "oldest", "I", false)
  | _ => ("UndoTrade$Past", "held", "I", false)
def tyX6 : Nat → FieldType := fun k => match k with
  | 0 => .array (.object "UndoTrade$State")
  | 1 => .int
  | _ => .int
theorem nmX6 : ∀ a, a < 3 → ∀ b, b < 3 → a ≠ b → (TX6 a).2.1 ≠ (TX6 b).2.1 := by decide +kernel
theorem tyX6_ok : ∀ k, k < 3 → parseFieldDescriptor (TX6 k).2.2.1 = some (tyX6 k) := by decide +kernel
abbrev cX6_init : ByteArray := prog_8_method_1_code
def yX6_init : MethodName := ⟨RX6, "<init>", "()V"⟩
abbrev cX6_clear : ByteArray := prog_8_method_2_code
def yX6_clear : MethodName := ⟨RX6, "clear", "()V"⟩
abbrev cX6_save : ByteArray := prog_8_method_3_code
def yX6_save : MethodName := ⟨RX6, "save", "(LUndoTrade$State;)V"⟩
abbrev cX6_restore : ByteArray := prog_8_method_4_code
def yX6_restore : MethodName := ⟨RX6, "restore", "(LUndoTrade$State;)I"⟩
def RX7 : String := "UndoTrade$SeenList"
def TX7 : u_T := fun k => match k with
  | 0 => ("UndoTrade$SeenList", "sorts", "[I", true)
  | 1 => ("UndoTrade$SeenList", "bounds", "[I", true)
  | 2 => ("UndoTrade$SeenList", "reached", "[Z", true)
  | 3 => ("UndoTrade$SeenList", "costs", "[I", true)
  | _ => ("UndoTrade$SeenList", "held", "I", false)
def tyX7 : Nat → FieldType := fun k => match k with
  | 0 => .array .int
  | 1 => .array .int
  | 2 => .array .boolean
  | 3 => .array .int
  | _ => .int
theorem nmX7 : ∀ a, a < 5 → ∀ b, b < 5 → a ≠ b → (TX7 a).2.1 ≠ (TX7 b).2.1 := by decide +kernel
theorem tyX7_ok : ∀ k, k < 5 → parseFieldDescriptor (TX7 k).2.2.1 = some (tyX7 k) := by decide +kernel
abbrev cX7_init : ByteArray := prog_9_method_1_code
def yX7_init : MethodName := ⟨RX7, "<init>", "()V"⟩
abbrev cX7_add : ByteArray := prog_9_method_2_code
def yX7_add : MethodName := ⟨RX7, "add", "(IIZ)V"⟩
abbrev cX7_fitting : ByteArray := prog_9_method_3_code
def yX7_fitting : MethodName := ⟨RX7, "fitting", "(LUndoTrade$LawBook;I)I"⟩
abbrev cX7_fits : ByteArray := prog_9_method_4_code
def yX7_fits : MethodName := ⟨RX7, "fits", "(II)Z"⟩
abbrev cX7_bestQuestion : ByteArray := prog_9_method_5_code
def yX7_bestQuestion : MethodName := ⟨RX7, "bestQuestion", "(LUndoTrade$LawBook;I)I"⟩
abbrev cX7_moreThanLess : ByteArray := prog_9_method_6_code
def yX7_moreThanLess : MethodName := ⟨RX7, "moreThanLess", "(II)I"⟩
def RX8 : String := "UndoTrade$State"
def TX8 : u_T := fun k => match k with
  | 0 => ("UndoTrade$State", "piece", "LUndoTrade$DeedList;", true)
  | 1 => ("UndoTrade$State", "known", "[I", true)
  | 2 => ("UndoTrade$State", "inRoom", "[I", true)
  | 3 => ("UndoTrade$State", "apprentices", "I", false)
  | 4 => ("UndoTrade$State", "limit", "I", false)
  | 5 => ("UndoTrade$State", "time", "I", false)
  | 6 => ("UndoTrade$State", "logWhat", "[I", true)
  | 7 => ("UndoTrade$State", "logDeeds", "[I", true)
  | _ => ("UndoTrade$State", "logged", "I", false)
def tyX8 : Nat → FieldType := fun k => match k with
  | 0 => .object "UndoTrade$DeedList"
  | 1 => .array .int
  | 2 => .array .int
  | 3 => .int
  | 4 => .int
  | 5 => .int
  | 6 => .array .int
  | 7 => .array .int
  | _ => .int
theorem nmX8 : ∀ a, a < 9 → ∀ b, b < 9 → a ≠ b → (TX8 a).2.1 ≠ (TX8 b).2.1 := by decide +kernel
theorem tyX8_ok : ∀ k, k < 9 → parseFieldDescriptor (TX8 k).2.2.1 = some (tyX8 k) := by decide +kernel
abbrev cX8_init : ByteArray := prog_10_method_1_code
def yX8_init : MethodName := ⟨RX8, "<init>", "()V"⟩
abbrev cX8_copyFrom : ByteArray := prog_10_method_2_code
def yX8_copyFrom : MethodName := ⟨RX8, "copyFrom", "(LUndoTrade$State;)V"⟩
abbrev cX8_readFrom : ByteArray := prog_10_method_3_code
def yX8_readFrom : MethodName := ⟨RX8, "readFrom", "(LUndoTrade$Tape;)Z"⟩
abbrev cX8_readRules : ByteArray := prog_10_method_4_code
def yX8_readRules : MethodName := ⟨RX8, "readRules", "(LUndoTrade$Tape;)Z"⟩
abbrev cX8_readApprentice : ByteArray := prog_10_method_5_code
def yX8_readApprentice : MethodName := ⟨RX8, "readApprentice", "(LUndoTrade$Tape;)Z"⟩
abbrev cX8_hasApprentice : ByteArray := prog_10_method_6_code
def yX8_hasApprentice : MethodName := ⟨RX8, "hasApprentice", "(I)Z"⟩
abbrev cX8_knows : ByteArray := prog_10_method_7_code
def yX8_knows : MethodName := ⟨RX8, "knows", "(II)Z"⟩
abbrev cX8_knownTogether : ByteArray := prog_10_method_8_code
def yX8_knownTogether : MethodName := ⟨RX8, "knownTogether", "(I)I"⟩
abbrev cX8_thoseInRoom : ByteArray := prog_10_method_9_code
def yX8_thoseInRoom : MethodName := ⟨RX8, "thoseInRoom", "()I"⟩
abbrev cX8_doDeed : ByteArray := prog_10_method_10_code
def yX8_doDeed : MethodName := ⟨RX8, "doDeed", "(III)V"⟩
abbrev cX8_takeBack : ByteArray := prog_10_method_11_code
def yX8_takeBack : MethodName := ⟨RX8, "takeBack", "(I)V"⟩
abbrev cX8_note : ByteArray := prog_10_method_12_code
def yX8_note : MethodName := ⟨RX8, "note", "(I)V"⟩
abbrev cX8_logLength : ByteArray := prog_10_method_13_code
def yX8_logLength : MethodName := ⟨RX8, "logLength", "()I"⟩
def RX9 : String := "UndoTrade$Tape"
def TX9 : u_T := fun k => match k with
  | 0 => ("UndoTrade$Tape", "signs", "[I", true)
  | 1 => ("UndoTrade$Tape", "length", "I", false)
  | _ => ("UndoTrade$Tape", "at", "I", false)
def tyX9 : Nat → FieldType := fun k => match k with
  | 0 => .array .int
  | 1 => .int
  | _ => .int
theorem nmX9 : ∀ a, a < 3 → ∀ b, b < 3 → a ≠ b → (TX9 a).2.1 ≠ (TX9 b).2.1 := by decide +kernel
theorem tyX9_ok : ∀ k, k < 3 → parseFieldDescriptor (TX9 k).2.2.1 = some (tyX9 k) := by decide +kernel
abbrev cX9_init : ByteArray := prog_11_method_1_code
def yX9_init : MethodName := ⟨RX9, "<init>", "()V"⟩
abbrev cX9_signsOf : ByteArray := prog_11_method_2_code
def yX9_signsOf : MethodName := ⟨RX9, "signsOf", "(I)I"⟩
abbrev cX9_append : ByteArray := prog_11_method_3_code
def yX9_append : MethodName := ⟨RX9, "append", "(I)V"⟩
abbrev cX9_peek : ByteArray := prog_11_method_4_code
def yX9_peek : MethodName := ⟨RX9, "peek", "()I"⟩
abbrev cX9_accept : ByteArray := prog_11_method_5_code
def yX9_accept : MethodName := ⟨RX9, "accept", "(I)Z"⟩
abbrev cX9_isDigit : ByteArray := prog_11_method_6_code
def yX9_isDigit : MethodName := ⟨RX9, "isDigit", "(I)Z"⟩
abbrev cX9_readDigit : ByteArray := prog_11_method_7_code
def yX9_readDigit : MethodName := ⟨RX9, "readDigit", "()I"⟩
abbrev cX9_readNumber : ByteArray := prog_11_method_8_code
def yX9_readNumber : MethodName := ⟨RX9, "readNumber", "(I)I"⟩
abbrev cX9_readBounded : ByteArray := prog_11_method_9_code
def yX9_readBounded : MethodName := ⟨RX9, "readBounded", "(II)I"⟩
def RX10 : String := "UndoTrade"
def TX10 : u_T := fun k => match k with
  | 0 => ("UndoTrade", "tape", "LUndoTrade$Tape;", true)
  | 1 => ("UndoTrade", "now", "LUndoTrade$State;", true)
  | 2 => ("UndoTrade", "draft", "LUndoTrade$State;", true)
  | 3 => ("UndoTrade", "kept", "LUndoTrade$State;", true)
  | 4 => ("UndoTrade", "keeps", "Z", false)
  | 5 => ("UndoTrade", "past", "LUndoTrade$Past;", true)
  | 6 => ("UndoTrade", "book", "LUndoTrade$LawBook;", true)
  | 7 => ("UndoTrade", "lawText", "LUndoTrade$LawText;", true)
  | 8 => ("UndoTrade", "makings", "[LUndoTrade$DeedList;", true)
  | 9 => ("UndoTrade", "makingsTold", "I", false)
  | 10 => ("UndoTrade", "draftMaking", "LUndoTrade$DeedList;", true)
  | 11 => ("UndoTrade", "trial", "LUndoTrade$DeedList;", true)
  | 12 => ("UndoTrade", "otherTrial", "LUndoTrade$DeedList;", true)
  | 13 => ("UndoTrade", "order", "LUndoTrade$Order;", true)
  | 14 => ("UndoTrade", "sights", "LUndoTrade$SeenList;", true)
  | 15 => ("UndoTrade", "draws", "LUndoTrade$Draws;", true)
  | _ => ("UndoTrade", "hasteNow", "I", false)
def tyX10 : Nat → FieldType := fun k => match k with
  | 0 => .object "UndoTrade$Tape"
  | 1 => .object "UndoTrade$State"
  | 2 => .object "UndoTrade$State"
  | 3 => .object "UndoTrade$State"
  | 4 => .boolean
  | 5 => .object "UndoTrade$Past"
  | 6 => .object "UndoTrade$LawBook"
  | 7 => .object "UndoTrade$LawText"
  | 8 => .array (.object "UndoTrade$DeedList")
  | 9 => .int
  | 10 => .object "UndoTrade$DeedList"
  | 11 => .object "UndoTrade$DeedList"
  | 12 => .object "UndoTrade$DeedList"
  | 13 => .object "UndoTrade$Order"
  | 14 => .object "UndoTrade$SeenList"
  | 15 => .object "UndoTrade$Draws"
  | _ => .int
theorem nmX10 : ∀ a, a < 17 → ∀ b, b < 17 → a ≠ b → (TX10 a).2.1 ≠ (TX10 b).2.1 := by decide +kernel
theorem tyX10_ok : ∀ k, k < 17 → parseFieldDescriptor (TX10 k).2.2.1 = some (tyX10 k) := by decide +kernel
abbrev cX10_init : ByteArray := prog_1_method_1_code
def yX10_init : MethodName := ⟨RX10, "<init>", "()V"⟩
abbrev cX10_feed : ByteArray := prog_1_method_2_code
def yX10_feed : MethodName := ⟨RX10, "feed", "(IIIII)I"⟩
abbrev cX10_end : ByteArray := prog_1_method_3_code
def yX10_end : MethodName := ⟨RX10, "end", "(I)Z"⟩
abbrev cX10_fault : ByteArray := prog_1_method_4_code
def yX10_fault : MethodName := ⟨RX10, "fault", "(I)I"⟩
abbrev cX10_text : ByteArray := prog_1_method_5_code
def yX10_text : MethodName := ⟨RX10, "text", "(I)I"⟩
abbrev cX10_reads : ByteArray := prog_1_method_6_code
def yX10_reads : MethodName := ⟨RX10, "reads", "(I)Z"⟩
abbrev cX10_openWorkshop : ByteArray := prog_1_method_7_code
def yX10_openWorkshop : MethodName := ⟨RX10, "openWorkshop", "()I"⟩
abbrev cX10_keepMaking : ByteArray := prog_1_method_8_code
def yX10_keepMaking : MethodName := ⟨RX10, "keepMaking", "()I"⟩
abbrev cX10_apprentice : ByteArray := prog_1_method_9_code
def yX10_apprentice : MethodName := ⟨RX10, "apprentice", "(II)I"⟩
abbrev cX10_shape : ByteArray := prog_1_method_10_code
def yX10_shape : MethodName := ⟨RX10, "shape", "(II)I"⟩
abbrev cX10_deed : ByteArray := prog_1_method_11_code
def yX10_deed : MethodName := ⟨RX10, "deed", "(II)I"⟩
abbrev cX10_law : ByteArray := prog_1_method_12_code
def yX10_law : MethodName := ⟨RX10, "law", "(I)Z"⟩
abbrev cX10_haste : ByteArray := prog_1_method_13_code
def yX10_haste : MethodName := ⟨RX10, "haste", "(I)Z"⟩
abbrev cX10_make : ByteArray := prog_1_method_14_code
def yX10_make : MethodName := ⟨RX10, "make", "(III)I"⟩
abbrev cX10_undoes : ByteArray := prog_1_method_15_code
def yX10_undoes : MethodName := ⟨RX10, "undoes", "(I)I"⟩
abbrev cX10_takes : ByteArray := prog_1_method_16_code
def yX10_takes : MethodName := ⟨RX10, "takes", "(II)I"⟩
abbrev cX10_enter : ByteArray := prog_1_method_17_code
def yX10_enter : MethodName := ⟨RX10, "enter", "(I)I"⟩
abbrev cX10_forgets : ByteArray := prog_1_method_18_code
def yX10_forgets : MethodName := ⟨RX10, "forgets", "(II)I"⟩
abbrev cX10_sell : ByteArray := prog_1_method_19_code
def yX10_sell : MethodName := ⟨RX10, "sell", "()I"⟩
abbrev cX10_years : ByteArray := prog_1_method_20_code
def yX10_years : MethodName := ⟨RX10, "years", "(IJ)I"⟩
abbrev cX10_undo : ByteArray := prog_1_method_21_code
def yX10_undo : MethodName := ⟨RX10, "undo", "()I"⟩
abbrev cX10_perform : ByteArray := prog_1_method_22_code
def yX10_perform : MethodName := ⟨RX10, "perform", "(I)I"⟩
abbrev cX10_isOpen : ByteArray := prog_1_method_23_code
def yX10_isOpen : MethodName := ⟨RX10, "isOpen", "()Z"⟩
abbrev cX10_canAct : ByteArray := prog_1_method_24_code
def yX10_canAct : MethodName := ⟨RX10, "canAct", "()Z"⟩
abbrev cX10_beginAct : ByteArray := prog_1_method_25_code
def yX10_beginAct : MethodName := ⟨RX10, "beginAct", "()V"⟩
abbrev cX10_takeBackByDraw : ByteArray := prog_1_method_26_code
def yX10_takeBackByDraw : MethodName := ⟨RX10, "takeBackByDraw", "()V"⟩
abbrev cX10_doByDraw : ByteArray := prog_1_method_27_code
def yX10_doByDraw : MethodName := ⟨RX10, "doByDraw", "()V"⟩
abbrev cX10_within : ByteArray := prog_1_method_28_code
def yX10_within : MethodName := ⟨RX10, "within", "(IJI)I"⟩
abbrev cX10_isSort : ByteArray := prog_1_method_29_code
def yX10_isSort : MethodName := ⟨RX10, "isSort", "(I)Z"⟩
abbrev cX10_isMaking : ByteArray := prog_1_method_30_code
def yX10_isMaking : MethodName := ⟨RX10, "isMaking", "(I)Z"⟩
abbrev cX10_log : ByteArray := prog_1_method_31_code
def yX10_log : MethodName := ⟨RX10, "log", "(II)I"⟩
abbrev cX10_step : ByteArray := prog_1_method_32_code
def yX10_step : MethodName := ⟨RX10, "step", "(III)I"⟩
abbrev cX10_run : ByteArray := prog_1_method_33_code
def yX10_run : MethodName := ⟨RX10, "run", "(II)I"⟩
abbrev cX10_alike : ByteArray := prog_1_method_34_code
def yX10_alike : MethodName := ⟨RX10, "alike", "(II)I"⟩
abbrev cX10_cost : ByteArray := prog_1_method_35_code
def yX10_cost : MethodName := ⟨RX10, "cost", "(III)I"⟩
abbrev cX10_rows : ByteArray := prog_1_method_36_code
def yX10_rows : MethodName := ⟨RX10, "rows", "()I"⟩
abbrev cX10_row : ByteArray := prog_1_method_37_code
def yX10_row : MethodName := ⟨RX10, "row", "(II)I"⟩
abbrev cX10_drawn : ByteArray := prog_1_method_38_code
def yX10_drawn : MethodName := ⟨RX10, "drawn", "(JI)I"⟩
abbrev cX10_cheapest : ByteArray := prog_1_method_39_code
def yX10_cheapest : MethodName := ⟨RX10, "cheapest", "(I)I"⟩
abbrev cX10_places : ByteArray := prog_1_method_40_code
def yX10_places : MethodName := ⟨RX10, "places", "(II)I"⟩
abbrev cX10_needs : ByteArray := prog_1_method_41_code
def yX10_needs : MethodName := ⟨RX10, "needs", "(II)I"⟩
abbrev cX10_sure : ByteArray := prog_1_method_42_code
def yX10_sure : MethodName := ⟨RX10, "sure", "(II)I"⟩
abbrev cX10_alone : ByteArray := prog_1_method_43_code
def yX10_alone : MethodName := ⟨RX10, "alone", "(I)I"⟩
abbrev cX10_stuck : ByteArray := prog_1_method_44_code
def yX10_stuck : MethodName := ⟨RX10, "stuck", "(I)I"⟩
abbrev cX10_team : ByteArray := prog_1_method_45_code
def yX10_team : MethodName := ⟨RX10, "team", "()I"⟩
abbrev cX10_lesson : ByteArray := prog_1_method_46_code
def yX10_lesson : MethodName := ⟨RX10, "lesson", "(I)I"⟩
abbrev cX10_game : ByteArray := prog_1_method_47_code
def yX10_game : MethodName := ⟨RX10, "game", "(I)I"⟩
abbrev cX10_odds : ByteArray := prog_1_method_48_code
def yX10_odds : MethodName := ⟨RX10, "odds", "(II)I"⟩
abbrev cX10_seen : ByteArray := prog_1_method_49_code
def yX10_seen : MethodName := ⟨RX10, "seen", "(IIZ)I"⟩
abbrev cX10_args : ByteArray := prog_1_method_50_code
def yX10_args : MethodName := ⟨RX10, "args", "(I)I"⟩
abbrev cX10_ask : ByteArray := prog_1_method_51_code
def yX10_ask : MethodName := ⟨RX10, "ask", "(I)I"⟩
abbrev cX10_upon : ByteArray := prog_1_method_52_code
def yX10_upon : MethodName := ⟨RX10, "upon", "(I)I"⟩
abbrev cX10_all : ByteArray := prog_1_method_53_code
def yX10_all : MethodName := ⟨RX10, "all", "(I)I"⟩
abbrev cX10_image : ByteArray := prog_1_method_54_code
def yX10_image : MethodName := ⟨RX10, "image", "()I"⟩
abbrev cX10_back : ByteArray := prog_1_method_55_code
def yX10_back : MethodName := ⟨RX10, "back", "()I"⟩
abbrev cX10_count : ByteArray := prog_1_method_56_code
def yX10_count : MethodName := ⟨RX10, "count", "(I)I"⟩
def RX11 : String := "UndoTradeModel"
def TX11 : u_T := fun k => match k with
  | 0 => ("UndoTradeModel", "thrown", "I", false)
  | 1 => ("UndoTradeModel", "tape", "[B", true)
  | 2 => ("UndoTradeModel", "texts", "[B", true)
  | 3 => ("UndoTradeModel", "textLong", "[I", true)
  | 4 => ("UndoTradeModel", "letters", "[I", true)
  | 5 => ("UndoTradeModel", "text", "[B", false)
  | 6 => ("UndoTradeModel", "length", "I", false)
  | 7 => ("UndoTradeModel", "lawMany", "I", false)
  | 8 => ("UndoTradeModel", "begins", "I", false)
  | 9 => ("UndoTradeModel", "ends", "I", false)
  | 10 => ("UndoTradeModel", "at", "I", false)
  | 11 => ("UndoTradeModel", "fault", "I", false)
  | 12 => ("UndoTradeModel", "deep", "I", false)
  | 13 => ("UndoTradeModel", "label", "I", false)
  | 14 => ("UndoTradeModel", "found", "I", false)
  | 15 => ("UndoTradeModel", "labels", "Ljava/lang/String;", true)
  | 16 => ("UndoTradeModel", "allowed", "Ljava/lang/String;", true)
  | 17 => ("UndoTradeModel", "hasFound", "Z", false)
  | 18 => ("UndoTradeModel", "folkRead", "[I", true)
  | 19 => ("UndoTradeModel", "plan", "[I", true)
  | 20 => ("UndoTradeModel", "planLong", "[I", true)
  | 21 => ("UndoTradeModel", "most", "I", false)
  | 22 => ("UndoTradeModel", "mostRead", "I", false)
  | 23 => ("UndoTradeModel", "folk", "I", false)
  | 24 => ("UndoTradeModel", "folkMany", "I", false)
  | 25 => ("UndoTradeModel", "plans", "I", false)
  | 26 => ("UndoTradeModel", "hasRules", "Z", false)
  | 27 => ("UndoTradeModel", "now", "[I", true)
  | 28 => ("UndoTradeModel", "trial", "[I", true)
  | 29 => ("UndoTradeModel", "law", "I", false)
  | 30 => ("UndoTradeModel", "hasty", "I", false)
  | 31 => ("UndoTradeModel", "kind", "[I", true)
  | 32 => ("UndoTradeModel", "turns", "[I", true)
  | 33 => ("UndoTradeModel", "coats", "[I", true)
  | 34 => ("UndoTradeModel", "coated", "[I", true)
  | 35 => ("UndoTradeModel", "onto", "[I", true)
  | 36 => ("UndoTradeModel", "hidden", "[I", true)
  | 37 => ("UndoTradeModel", "need", "[I", true)
  | 38 => ("UndoTradeModel", "all", "[I", true)
  | 39 => ("UndoTradeModel", "needed", "[I", true)
  | 40 => ("UndoTradeModel", "undoRow", "[I", true)
  | 41 => ("UndoTradeModel", "acts", "I", false)
  | 42 => ("UndoTradeModel", "x", "J", false)
  | 43 => ("UndoTradeModel", "first0", "[I", true)
  | 44 => ("UndoTradeModel", "second0", "[I", true)
  | 45 => ("UndoTradeModel", "memoKey", "[J", true)
  | 46 => ("UndoTradeModel", "memoWorth", "[I", true)
  | 47 => ("UndoTradeModel", "ways", "[I", true)
  | 48 => ("UndoTradeModel", "total", "[I", true)
  | 49 => ("UndoTradeModel", "picked", "[I", true)
  | 50 => ("UndoTradeModel", "least", "[I", true)
  | 51 => ("UndoTradeModel", "sight", "[I", true)
  | 52 => ("UndoTradeModel", "sights", "I", false)
  | 53 => ("UndoTradeModel", "imageRow", "[I", true)
  | _ => ("UndoTradeModel", "hasImage", "Z", false)
def tyX11 : Nat → FieldType := fun k => match k with
  | 0 => .int
  | 1 => .array .byte
  | 2 => .array .byte
  | 3 => .array .int
  | 4 => .array .int
  | 5 => .array .byte
  | 6 => .int
  | 7 => .int
  | 8 => .int
  | 9 => .int
  | 10 => .int
  | 11 => .int
  | 12 => .int
  | 13 => .int
  | 14 => .int
  | 15 => .object "java/lang/String"
  | 16 => .object "java/lang/String"
  | 17 => .boolean
  | 18 => .array .int
  | 19 => .array .int
  | 20 => .array .int
  | 21 => .int
  | 22 => .int
  | 23 => .int
  | 24 => .int
  | 25 => .int
  | 26 => .boolean
  | 27 => .array .int
  | 28 => .array .int
  | 29 => .int
  | 30 => .int
  | 31 => .array .int
  | 32 => .array .int
  | 33 => .array .int
  | 34 => .array .int
  | 35 => .array .int
  | 36 => .array .int
  | 37 => .array .int
  | 38 => .array .int
  | 39 => .array .int
  | 40 => .array .int
  | 41 => .int
  | 42 => .long
  | 43 => .array .int
  | 44 => .array .int
  | 45 => .array .long
  | 46 => .array .int
  | 47 => .array .int
  | 48 => .array .int
  | 49 => .array .int
  | 50 => .array .int
  | 51 => .array .int
  | 52 => .int
  | 53 => .array .int
  | _ => .boolean
theorem nmX11 : ∀ a, a < 55 → ∀ b, b < 55 → a ≠ b → (TX11 a).2.1 ≠ (TX11 b).2.1 := by decide +kernel
theorem tyX11_ok : ∀ k, k < 55 → parseFieldDescriptor (TX11 k).2.2.1 = some (tyX11 k) := by decide +kernel
abbrev cX11_init : ByteArray := prog_13_method_1_code
def yX11_init : MethodName := ⟨RX11, "<init>", "()V"⟩
abbrev cX11_thrown : ByteArray := prog_13_method_2_code
def yX11_thrown : MethodName := ⟨RX11, "thrown", "()I"⟩
abbrev cX11_isIn : ByteArray := prog_13_method_3_code
def yX11_isIn : MethodName := ⟨RX11, "isIn", "(JJJ)Z"⟩
abbrev cX11_has : ByteArray := prog_13_method_4_code
def yX11_has : MethodName := ⟨RX11, "has", "(II)Z"⟩
abbrev cX11_isAmong : ByteArray := prog_13_method_5_code
def yX11_isAmong : MethodName := ⟨RX11, "isAmong", "(Ljava/lang/String;I)Z"⟩
abbrev cX11_bytesIn : ByteArray := prog_13_method_6_code
def yX11_bytesIn : MethodName := ⟨RX11, "bytesIn", "(I)I"⟩
abbrev cX11_put : ByteArray := prog_13_method_7_code
def yX11_put : MethodName := ⟨RX11, "put", "(I)V"⟩
abbrev cX11_feed : ByteArray := prog_13_method_8_code
def yX11_feed : MethodName := ⟨RX11, "feed", "(IIIII)I"⟩
abbrev cX11_end : ByteArray := prog_13_method_9_code
def yX11_end : MethodName := ⟨RX11, "end", "(I)Z"⟩
abbrev cX11_look : ByteArray := prog_13_method_10_code
def yX11_look : MethodName := ⟨RX11, "look", "()I"⟩
abbrev cX11_fails : ByteArray := prog_13_method_11_code
def yX11_fails : MethodName := ⟨RX11, "fails", "()Z"⟩
abbrev cX11_goesIn : ByteArray := prog_13_method_12_code
def yX11_goesIn : MethodName := ⟨RX11, "goesIn", "()Z"⟩
abbrev cX11_takes : ByteArray := prog_13_method_13_code
def yX11_takes : MethodName := ⟨RX11, "takes", "(I)Z"⟩
abbrev cX11_isDigit : ByteArray := prog_13_method_14_code
def yX11_isDigit : MethodName := ⟨RX11, "isDigit", "()Z"⟩
abbrev cX11_within : ByteArray := prog_13_method_15_code
def yX11_within : MethodName := ⟨RX11, "within", "(J)I"⟩
abbrev cX11_atom : ByteArray := prog_13_method_16_code
def yX11_atom : MethodName := ⟨RX11, "atom", "()I"⟩
abbrev cX11_term : ByteArray := prog_13_method_17_code
def yX11_term : MethodName := ⟨RX11, "term", "()I"⟩
abbrev cX11_sum : ByteArray := prog_13_method_18_code
def yX11_sum : MethodName := ⟨RX11, "sum", "()I"⟩
abbrev cX11_isSign : ByteArray := prog_13_method_19_code
def yX11_isSign : MethodName := ⟨RX11, "isSign", "(I)Z"⟩
abbrev cX11_compares : ByteArray := prog_13_method_20_code
def yX11_compares : MethodName := ⟨RX11, "compares", "(ZI)Z"⟩
abbrev cX11_unit : ByteArray := prog_13_method_21_code
def yX11_unit : MethodName := ⟨RX11, "unit", "()Z"⟩
abbrev cX11_part : ByteArray := prog_13_method_22_code
def yX11_part : MethodName := ⟨RX11, "part", "(ZI)Z"⟩
abbrev cX11_condition : ByteArray := prog_13_method_23_code
def yX11_condition : MethodName := ⟨RX11, "condition", "(ZI)Z"⟩
abbrev cX11_clause : ByteArray := prog_13_method_24_code
def yX11_clause : MethodName := ⟨RX11, "clause", "()V"⟩
abbrev cX11_starts : ByteArray := prog_13_method_25_code
def yX11_starts : MethodName := ⟨RX11, "starts", "([BII)V"⟩
abbrev cX11_goThrough : ByteArray := prog_13_method_26_code
def yX11_goThrough : MethodName := ⟨RX11, "goThrough", "([BII)V"⟩
abbrev cX11_here : ByteArray := prog_13_method_27_code
def yX11_here : MethodName := ⟨RX11, "here", "()I"⟩
abbrev cX11_spotOf : ByteArray := prog_13_method_28_code
def yX11_spotOf : MethodName := ⟨RX11, "spotOf", "(Ljava/lang/String;I)I"⟩
abbrev cX11_number : ByteArray := prog_13_method_29_code
def yX11_number : MethodName := ⟨RX11, "number", "(II)I"⟩
abbrev cX11_readRules : ByteArray := prog_13_method_30_code
def yX11_readRules : MethodName := ⟨RX11, "readRules", "()V"⟩
abbrev cX11_readApprentice : ByteArray := prog_13_method_31_code
def yX11_readApprentice : MethodName := ⟨RX11, "readApprentice", "()V"⟩
abbrev cX11_readClause : ByteArray := prog_13_method_32_code
def yX11_readClause : MethodName := ⟨RX11, "readClause", "()V"⟩
abbrev cX11_readWorkshop : ByteArray := prog_13_method_33_code
def yX11_readWorkshop : MethodName := ⟨RX11, "readWorkshop", "()V"⟩
abbrev cX11_digit : ByteArray := prog_13_method_34_code
def yX11_digit : MethodName := ⟨RX11, "digit", "()I"⟩
abbrev cX11_hasX : ByteArray := prog_13_method_35_code
def yX11_hasX : MethodName := ⟨RX11, "hasX", "(I)Z"⟩
abbrev cX11_readStep : ByteArray := prog_13_method_36_code
def yX11_readStep : MethodName := ⟨RX11, "readStep", "(I)V"⟩
abbrev cX11_readPlan : ByteArray := prog_13_method_37_code
def yX11_readPlan : MethodName := ⟨RX11, "readPlan", "()V"⟩
abbrev cX11_fault : ByteArray := prog_13_method_38_code
def yX11_fault : MethodName := ⟨RX11, "fault", "(I)I"⟩
abbrev cX11_text : ByteArray := prog_13_method_39_code
def yX11_text : MethodName := ⟨RX11, "text", "(I)I"⟩
abbrev cX11_stands : ByteArray := prog_13_method_40_code
def yX11_stands : MethodName := ⟨RX11, "stands", "([I)V"⟩
abbrev cX11_upon0 : ByteArray := prog_13_method_41_code
def yX11_upon0 : MethodName := ⟨RX11, "upon0", "(I)I"⟩
abbrev cX11_isPart : ByteArray := prog_13_method_42_code
def yX11_isPart : MethodName := ⟨RX11, "isPart", "(I)Z"⟩
abbrev cX11_isThere : ByteArray := prog_13_method_43_code
def yX11_isThere : MethodName := ⟨RX11, "isThere", "(I)Z"⟩
abbrev cX11_doesStandOn : ByteArray := prog_13_method_44_code
def yX11_doesStandOn : MethodName := ⟨RX11, "doesStandOn", "(II)Z"⟩
abbrev cX11_canDo : ByteArray := prog_13_method_45_code
def yX11_canDo : MethodName := ⟨RX11, "canDo", "([IIII)Z"⟩
abbrev cX11_does : ByteArray := prog_13_method_46_code
def yX11_does : MethodName := ⟨RX11, "does", "([IIII)V"⟩
abbrev cX11_gone : ByteArray := prog_13_method_47_code
def yX11_gone : MethodName := ⟨RX11, "gone", "([II)V"⟩
abbrev cX11_needs0 : ByteArray := prog_13_method_48_code
def yX11_needs0 : MethodName := ⟨RX11, "needs0", "([III)Z"⟩
abbrev cX11_laysNeeds : ByteArray := prog_13_method_49_code
def yX11_laysNeeds : MethodName := ⟨RX11, "laysNeeds", "()V"⟩
abbrev cX11_isDeed : ByteArray := prog_13_method_50_code
def yX11_isDeed : MethodName := ⟨RX11, "isDeed", "(I)Z"⟩
abbrev cX11_isHand : ByteArray := prog_13_method_51_code
def yX11_isHand : MethodName := ⟨RX11, "isHand", "(I)Z"⟩
abbrev cX11_isSort : ByteArray := prog_13_method_52_code
def yX11_isSort : MethodName := ⟨RX11, "isSort", "(I)Z"⟩
abbrev cX11_apprentice : ByteArray := prog_13_method_53_code
def yX11_apprentice : MethodName := ⟨RX11, "apprentice", "(II)I"⟩
abbrev cX11_shape : ByteArray := prog_13_method_54_code
def yX11_shape : MethodName := ⟨RX11, "shape", "(II)I"⟩
abbrev cX11_deed : ByteArray := prog_13_method_55_code
def yX11_deed : MethodName := ⟨RX11, "deed", "(II)I"⟩
abbrev cX11_law : ByteArray := prog_13_method_56_code
def yX11_law : MethodName := ⟨RX11, "law", "(I)Z"⟩
abbrev cX11_haste : ByteArray := prog_13_method_57_code
def yX11_haste : MethodName := ⟨RX11, "haste", "(I)Z"⟩
abbrev cX11_remember : ByteArray := prog_13_method_58_code
def yX11_remember : MethodName := ⟨RX11, "remember", "()V"⟩
abbrev cX11_begins0 : ByteArray := prog_13_method_59_code
def yX11_begins0 : MethodName := ⟨RX11, "begins0", "()V"⟩
abbrev cX11_writes : ByteArray := prog_13_method_60_code
def yX11_writes : MethodName := ⟨RX11, "writes", "(I)V"⟩
abbrev cX11_isLate : ByteArray := prog_13_method_61_code
def yX11_isLate : MethodName := ⟨RX11, "isLate", "()Z"⟩
abbrev cX11_actMake : ByteArray := prog_13_method_62_code
def yX11_actMake : MethodName := ⟨RX11, "actMake", "(III)V"⟩
abbrev cX11_actTake : ByteArray := prog_13_method_63_code
def yX11_actTake : MethodName := ⟨RX11, "actTake", "(I)V"⟩
abbrev cX11_canTake : ByteArray := prog_13_method_64_code
def yX11_canTake : MethodName := ⟨RX11, "canTake", "(I)Z"⟩
abbrev cX11_make : ByteArray := prog_13_method_65_code
def yX11_make : MethodName := ⟨RX11, "make", "(III)I"⟩
abbrev cX11_undoes : ByteArray := prog_13_method_66_code
def yX11_undoes : MethodName := ⟨RX11, "undoes", "(I)I"⟩
abbrev cX11_takes_ : ByteArray := prog_13_method_67_code
def yX11_takes_ : MethodName := ⟨RX11, "takes", "(II)I"⟩
abbrev cX11_enter : ByteArray := prog_13_method_68_code
def yX11_enter : MethodName := ⟨RX11, "enter", "(I)I"⟩
abbrev cX11_forgets : ByteArray := prog_13_method_69_code
def yX11_forgets : MethodName := ⟨RX11, "forgets", "(II)I"⟩
abbrev cX11_sell : ByteArray := prog_13_method_70_code
def yX11_sell : MethodName := ⟨RX11, "sell", "()I"⟩
abbrev cX11_draw : ByteArray := prog_13_method_71_code
def yX11_draw : MethodName := ⟨RX11, "draw", "(I)I"⟩
abbrev cX11_happens : ByteArray := prog_13_method_72_code
def yX11_happens : MethodName := ⟨RX11, "happens", "()V"⟩
abbrev cX11_years : ByteArray := prog_13_method_73_code
def yX11_years : MethodName := ⟨RX11, "years", "(IJ)I"⟩
abbrev cX11_undo : ByteArray := prog_13_method_74_code
def yX11_undo : MethodName := ⟨RX11, "undo", "()I"⟩
abbrev cX11_log : ByteArray := prog_13_method_75_code
def yX11_log : MethodName := ⟨RX11, "log", "(II)I"⟩
abbrev cX11_isPlan : ByteArray := prog_13_method_76_code
def yX11_isPlan : MethodName := ⟨RX11, "isPlan", "(I)Z"⟩
abbrev cX11_step : ByteArray := prog_13_method_77_code
def yX11_step : MethodName := ⟨RX11, "step", "(III)I"⟩
abbrev cX11_goPlan : ByteArray := prog_13_method_78_code
def yX11_goPlan : MethodName := ⟨RX11, "goPlan", "([II)I"⟩
abbrev cX11_copy : ByteArray := prog_13_method_79_code
def yX11_copy : MethodName := ⟨RX11, "copy", "([I[I)V"⟩
abbrev cX11_run : ByteArray := prog_13_method_80_code
def yX11_run : MethodName := ⟨RX11, "run", "(II)I"⟩
abbrev cX11_perform : ByteArray := prog_13_method_81_code
def yX11_perform : MethodName := ⟨RX11, "perform", "(I)I"⟩
abbrev cX11_laysMade : ByteArray := prog_13_method_82_code
def yX11_laysMade : MethodName := ⟨RX11, "laysMade", "(I[I)V"⟩
abbrev cX11_alike : ByteArray := prog_13_method_83_code
def yX11_alike : MethodName := ⟨RX11, "alike", "(II)I"⟩
abbrev cX11_costOf : ByteArray := prog_13_method_84_code
def yX11_costOf : MethodName := ⟨RX11, "costOf", "(IIIIII)I"⟩
abbrev cX11_costAt : ByteArray := prog_13_method_85_code
def yX11_costAt : MethodName := ⟨RX11, "costAt", "(III)I"⟩
abbrev cX11_cost : ByteArray := prog_13_method_86_code
def yX11_cost : MethodName := ⟨RX11, "cost", "(III)I"⟩
abbrev cX11_canLay : ByteArray := prog_13_method_87_code
def yX11_canLay : MethodName := ⟨RX11, "canLay", "(II)Z"⟩
abbrev cX11_laysWays : ByteArray := prog_13_method_88_code
def yX11_laysWays : MethodName := ⟨RX11, "laysWays", "()I"⟩
abbrev cX11_picks : ByteArray := prog_13_method_89_code
def yX11_picks : MethodName := ⟨RX11, "picks", "(I)V"⟩
abbrev cX11_rows : ByteArray := prog_13_method_90_code
def yX11_rows : MethodName := ⟨RX11, "rows", "()I"⟩
abbrev cX11_row : ByteArray := prog_13_method_91_code
def yX11_row : MethodName := ⟨RX11, "row", "(II)I"⟩
abbrev cX11_drawn : ByteArray := prog_13_method_92_code
def yX11_drawn : MethodName := ⟨RX11, "drawn", "(JI)I"⟩
abbrev cX11_laysCosts : ByteArray := prog_13_method_93_code
def yX11_laysCosts : MethodName := ⟨RX11, "laysCosts", "()V"⟩
abbrev cX11_cheapest : ByteArray := prog_13_method_94_code
def yX11_cheapest : MethodName := ⟨RX11, "cheapest", "(I)I"⟩
abbrev cX11_places : ByteArray := prog_13_method_95_code
def yX11_places : MethodName := ⟨RX11, "places", "(II)I"⟩
abbrev cX11_needs : ByteArray := prog_13_method_96_code
def yX11_needs : MethodName := ⟨RX11, "needs", "(II)I"⟩
abbrev cX11_sure : ByteArray := prog_13_method_97_code
def yX11_sure : MethodName := ⟨RX11, "sure", "(II)I"⟩
abbrev cX11_leftBy : ByteArray := prog_13_method_98_code
def yX11_leftBy : MethodName := ⟨RX11, "leftBy", "(I)I"⟩
abbrev cX11_knownBy : ByteArray := prog_13_method_99_code
def yX11_knownBy : MethodName := ⟨RX11, "knownBy", "(I)I"⟩
abbrev cX11_takenBy : ByteArray := prog_13_method_100_code
def yX11_takenBy : MethodName := ⟨RX11, "takenBy", "(I)I"⟩
abbrev cX11_areHands : ByteArray := prog_13_method_101_code
def yX11_areHands : MethodName := ⟨RX11, "areHands", "(I)Z"⟩
abbrev cX11_alone : ByteArray := prog_13_method_102_code
def yX11_alone : MethodName := ⟨RX11, "alone", "(I)I"⟩
abbrev cX11_stuck : ByteArray := prog_13_method_103_code
def yX11_stuck : MethodName := ⟨RX11, "stuck", "(I)I"⟩
abbrev cX11_team : ByteArray := prog_13_method_104_code
def yX11_team : MethodName := ⟨RX11, "team", "()I"⟩
abbrev cX11_lesson : ByteArray := prog_13_method_105_code
def yX11_lesson : MethodName := ⟨RX11, "lesson", "(I)I"⟩
abbrev cX11_laysGame : ByteArray := prog_13_method_106_code
def yX11_laysGame : MethodName := ⟨RX11, "laysGame", "()V"⟩
abbrev cX11_game : ByteArray := prog_13_method_107_code
def yX11_game : MethodName := ⟨RX11, "game", "(I)I"⟩
abbrev cX11_odds : ByteArray := prog_13_method_108_code
def yX11_odds : MethodName := ⟨RX11, "odds", "(II)I"⟩
abbrev cX11_seen : ByteArray := prog_13_method_109_code
def yX11_seen : MethodName := ⟨RX11, "seen", "(IIZ)I"⟩
abbrev cX11_firstCost : ByteArray := prog_13_method_110_code
def yX11_firstCost : MethodName := ⟨RX11, "firstCost", "(II)I"⟩
abbrev cX11_argsOf : ByteArray := prog_13_method_111_code
def yX11_argsOf : MethodName := ⟨RX11, "argsOf", "(I)I"⟩
abbrev cX11_args : ByteArray := prog_13_method_112_code
def yX11_args : MethodName := ⟨RX11, "args", "(I)I"⟩
abbrev cX11_ask : ByteArray := prog_13_method_113_code
def yX11_ask : MethodName := ⟨RX11, "ask", "(I)I"⟩
abbrev cX11_upon : ByteArray := prog_13_method_114_code
def yX11_upon : MethodName := ⟨RX11, "upon", "(I)I"⟩
abbrev cX11_high : ByteArray := prog_13_method_115_code
def yX11_high : MethodName := ⟨RX11, "high", "()I"⟩
abbrev cX11_partsOf : ByteArray := prog_13_method_116_code
def yX11_partsOf : MethodName := ⟨RX11, "partsOf", "(Z)I"⟩
abbrev cX11_ends0 : ByteArray := prog_13_method_117_code
def yX11_ends0 : MethodName := ⟨RX11, "ends0", "(I)I"⟩
abbrev cX11_all : ByteArray := prog_13_method_118_code
def yX11_all : MethodName := ⟨RX11, "all", "(I)I"⟩
abbrev cX11_image : ByteArray := prog_13_method_119_code
def yX11_image : MethodName := ⟨RX11, "image", "()I"⟩
abbrev cX11_back : ByteArray := prog_13_method_120_code
def yX11_back : MethodName := ⟨RX11, "back", "()I"⟩
abbrev cX11_count : ByteArray := prog_13_method_121_code
def yX11_count : MethodName := ⟨RX11, "count", "(I)I"⟩
def RJ6 : String := "java/lang/Integer"
def TJ6 : u_T := fun k => match k with
  | _ => ("", "", "", false)
def tyJ6 : Nat → FieldType := fun k => match k with
  | _ => .int
theorem nmJ6 : ∀ a, a < 0 → ∀ b, b < 0 → a ≠ b → (TJ6 a).2.1 ≠ (TJ6 b).2.1 := by decide +kernel
theorem tyJ6_ok : ∀ k, k < 0 → parseFieldDescriptor (TJ6 k).2.2.1 = some (tyJ6 k) := by decide +kernel
abbrev cJ6_bitCount_0f7a4 : ByteArray := prog_18_method_49_code
def yJ6_bitCount_0f7a4 : MethodName := ⟨RJ6, "bitCount", "(I)I"⟩
def RJ9 : String := "java/lang/Math"
def TJ9 : u_T := fun k => match k with
  | _ => ("", "", "", false)
def tyJ9 : Nat → FieldType := fun k => match k with
  | _ => .int
theorem nmJ9 : ∀ a, a < 0 → ∀ b, b < 0 → a ≠ b → (TJ9 a).2.1 ≠ (TJ9 b).2.1 := by decide +kernel
theorem tyJ9_ok : ∀ k, k < 0 → parseFieldDescriptor (TJ9 k).2.2.1 = some (tyJ9 k) := by decide +kernel
abbrev cJ9_abs_0f7a4 : ByteArray := prog_19_method_59_code
def yJ9_abs_0f7a4 : MethodName := ⟨RJ9, "abs", "(I)I"⟩
abbrev cJ9_max_7cf53 : ByteArray := prog_19_method_65_code
def yJ9_max_7cf53 : MethodName := ⟨RJ9, "max", "(II)I"⟩
abbrev cJ9_max_f86c9 : ByteArray := prog_19_method_66_code
def yJ9_max_f86c9 : MethodName := ⟨RJ9, "max", "(JJ)J"⟩
abbrev cJ9_min_7cf53 : ByteArray := prog_19_method_69_code
def yJ9_min_7cf53 : MethodName := ⟨RJ9, "min", "(II)I"⟩
abbrev cJ9_min_f86c9 : ByteArray := prog_19_method_70_code
def yJ9_min_f86c9 : MethodName := ⟨RJ9, "min", "(JJ)J"⟩
def RL : String := "UndoTradeLaw"
abbrev cL_apprentice : ByteArray := method_3_code
def yL_apprentice : MethodName := ⟨RL, "apprentice", "(LUndoTrade;II[J)I"⟩
abbrev cL_law : ByteArray := code
def yL_law : MethodName := ⟨RL, "law", "([I)Z"⟩
abbrev vwCl : List vw_C := [(RX0, TX0, 4), (RX1, TX1, 1), (RX2, TX2, 3), (RX3, TX3, 4), (RX4, TX4, 1), (RX5, TX5, 8), (RX6, TX6, 3), (RX7, TX7, 5), (RX8, TX8, 9), (RX9, TX9, 3), (RX10, TX10, 17), (RX11, TX11, 55)]
