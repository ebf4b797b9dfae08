section
-- ===== PART A: goes FIRST, ahead of the names: the tables' words, and 'selects' of the private methods out of them =====
/-- a private method of a class that the tables say can be made, by its rows of tables_1 -/
def lw_okq (q : MethodName × Nat) : Prop := (q.1.cls ≠ "java/lang/invoke/MethodHandle" ∧ q.1.cls ≠ "java/lang/invoke/VarHandle") ∧ Cond.instantiable q.1.cls q.2 ∈ tables_1 ∧ Cond.privateMethod q.1 ∈ tables_1 ∧ Cond.instanceMethod q.1 ∈ tables_1
theorem lw_p0 : lw_okq (⟨"HeadYear$ValleyReader", "readClause", "(LHeadYear$Tape;)Z"⟩, 2) := ⟨⟨by decide +kernel, by decide +kernel⟩, List.mem_of_getElem? (i := 56) (by decide +kernel), List.mem_of_getElem? (i := 436) (by decide +kernel), List.mem_of_getElem? (i := 437) (by decide +kernel)⟩
theorem lw_p1 : lw_okq (⟨"HeadYear$ValleyReader", "readItems", "(LHeadYear$Tape;I)Z"⟩, 2) := ⟨⟨by decide +kernel, by decide +kernel⟩, List.mem_of_getElem? (i := 56) (by decide +kernel), List.mem_of_getElem? (i := 444) (by decide +kernel), List.mem_of_getElem? (i := 445) (by decide +kernel)⟩
theorem lw_p2 : lw_okq (⟨"HeadYear$Tape", "isDigitHere", "()Z"⟩, 4) := ⟨⟨by decide +kernel, by decide +kernel⟩, List.mem_of_getElem? (i := 30) (by decide +kernel), List.mem_of_getElem? (i := 468) (by decide +kernel), List.mem_of_getElem? (i := 469) (by decide +kernel)⟩
theorem lw_p3 : lw_okq (⟨"HeadYear$Valley", "firstFamiliesAt", "(I)I"⟩, 10) := ⟨⟨by decide +kernel, by decide +kernel⟩, List.mem_of_getElem? (i := 62) (by decide +kernel), List.mem_of_getElem? (i := 488) (by decide +kernel), List.mem_of_getElem? (i := 489) (by decide +kernel)⟩
theorem lw_p4 : lw_okq (⟨"HeadYear$LawReader", "readClause", "(LHeadYear$Tape;)Z"⟩, 1) := ⟨⟨by decide +kernel, by decide +kernel⟩, List.mem_of_getElem? (i := 136) (by decide +kernel), List.mem_of_getElem? (i := 496) (by decide +kernel), List.mem_of_getElem? (i := 497) (by decide +kernel)⟩
theorem lw_p5 : lw_okq (⟨"HeadYear$LawReader", "readChain", "(LHeadYear$Tape;IIZ)Z"⟩, 1) := ⟨⟨by decide +kernel, by decide +kernel⟩, List.mem_of_getElem? (i := 136) (by decide +kernel), List.mem_of_getElem? (i := 502) (by decide +kernel), List.mem_of_getElem? (i := 503) (by decide +kernel)⟩
theorem lw_p6 : lw_okq (⟨"HeadYear$LawReader", "readUnit", "(LHeadYear$Tape;IZ)Z"⟩, 1) := ⟨⟨by decide +kernel, by decide +kernel⟩, List.mem_of_getElem? (i := 136) (by decide +kernel), List.mem_of_getElem? (i := 506) (by decide +kernel), List.mem_of_getElem? (i := 507) (by decide +kernel)⟩
theorem lw_p7 : lw_okq (⟨"HeadYear$LawReader", "readNested", "(LHeadYear$Tape;II)Z"⟩, 1) := ⟨⟨by decide +kernel, by decide +kernel⟩, List.mem_of_getElem? (i := 136) (by decide +kernel), List.mem_of_getElem? (i := 510) (by decide +kernel), List.mem_of_getElem? (i := 511) (by decide +kernel)⟩
theorem lw_p8 : lw_okq (⟨"HeadYear$LawReader", "readAtom", "(LHeadYear$Tape;I)Z"⟩, 1) := ⟨⟨by decide +kernel, by decide +kernel⟩, List.mem_of_getElem? (i := 136) (by decide +kernel), List.mem_of_getElem? (i := 518) (by decide +kernel), List.mem_of_getElem? (i := 519) (by decide +kernel)⟩
theorem lw_p9 : lw_okq (⟨"HeadYear", "tellValley", "()I"⟩, 16) := ⟨⟨by decide +kernel, by decide +kernel⟩, List.mem_of_getElem? (i := 22) (by decide +kernel), List.mem_of_getElem? (i := 537) (by decide +kernel), List.mem_of_getElem? (i := 538) (by decide +kernel)⟩
theorem lw_p10 : lw_okq (⟨"HeadYear", "tellLaw", "()I"⟩, 16) := ⟨⟨by decide +kernel, by decide +kernel⟩, List.mem_of_getElem? (i := 22) (by decide +kernel), List.mem_of_getElem? (i := 557) (by decide +kernel), List.mem_of_getElem? (i := 558) (by decide +kernel)⟩
theorem lw_p11 : lw_okq (⟨"HeadYear", "isFamily", "(I)Z"⟩, 16) := ⟨⟨by decide +kernel, by decide +kernel⟩, List.mem_of_getElem? (i := 22) (by decide +kernel), List.mem_of_getElem? (i := 566) (by decide +kernel), List.mem_of_getElem? (i := 567) (by decide +kernel)⟩
theorem lw_p12 : lw_okq (⟨"HeadYear", "isLevel", "(I)Z"⟩, 16) := ⟨⟨by decide +kernel, by decide +kernel⟩, List.mem_of_getElem? (i := 22) (by decide +kernel), List.mem_of_getElem? (i := 585) (by decide +kernel), List.mem_of_getElem? (i := 586) (by decide +kernel)⟩
theorem lw_p13 : lw_okq (⟨"HeadYear", "isLaw", "(I)Z"⟩, 16) := ⟨⟨by decide +kernel, by decide +kernel⟩, List.mem_of_getElem? (i := 22) (by decide +kernel), List.mem_of_getElem? (i := 594) (by decide +kernel), List.mem_of_getElem? (i := 595) (by decide +kernel)⟩
theorem lw_p14 : lw_okq (⟨"HeadYear", "hasValley", "()Z"⟩, 16) := ⟨⟨by decide +kernel, by decide +kernel⟩, List.mem_of_getElem? (i := 22) (by decide +kernel), List.mem_of_getElem? (i := 610) (by decide +kernel), List.mem_of_getElem? (i := 611) (by decide +kernel)⟩
theorem lw_p15 : lw_okq (⟨"HeadYear", "lawOf", "(I)LHeadYear$Law;"⟩, 16) := ⟨⟨by decide +kernel, by decide +kernel⟩, List.mem_of_getElem? (i := 22) (by decide +kernel), List.mem_of_getElem? (i := 614) (by decide +kernel), List.mem_of_getElem? (i := 615) (by decide +kernel)⟩
def lw_privs_1 : List (MethodName × Nat) := [(⟨"HeadYear$ValleyReader", "readClause", "(LHeadYear$Tape;)Z"⟩, 2), (⟨"HeadYear$ValleyReader", "readItems", "(LHeadYear$Tape;I)Z"⟩, 2), (⟨"HeadYear$Tape", "isDigitHere", "()Z"⟩, 4), (⟨"HeadYear$Valley", "firstFamiliesAt", "(I)I"⟩, 10), (⟨"HeadYear$LawReader", "readClause", "(LHeadYear$Tape;)Z"⟩, 1), (⟨"HeadYear$LawReader", "readChain", "(LHeadYear$Tape;IIZ)Z"⟩, 1), (⟨"HeadYear$LawReader", "readUnit", "(LHeadYear$Tape;IZ)Z"⟩, 1), (⟨"HeadYear$LawReader", "readNested", "(LHeadYear$Tape;II)Z"⟩, 1), (⟨"HeadYear$LawReader", "readAtom", "(LHeadYear$Tape;I)Z"⟩, 1), (⟨"HeadYear", "tellValley", "()I"⟩, 16), (⟨"HeadYear", "tellLaw", "()I"⟩, 16), (⟨"HeadYear", "isFamily", "(I)Z"⟩, 16), (⟨"HeadYear", "isLevel", "(I)Z"⟩, 16), (⟨"HeadYear", "isLaw", "(I)Z"⟩, 16), (⟨"HeadYear", "hasValley", "()Z"⟩, 16), (⟨"HeadYear", "lawOf", "(I)LHeadYear$Law;"⟩, 16)]
theorem lw_r1 : ∀ q ∈ lw_privs_1, lw_okq q := List.forall_mem_cons.mpr ⟨lw_p0, List.forall_mem_cons.mpr ⟨lw_p1, List.forall_mem_cons.mpr ⟨lw_p2, List.forall_mem_cons.mpr ⟨lw_p3, List.forall_mem_cons.mpr ⟨lw_p4, List.forall_mem_cons.mpr ⟨lw_p5, List.forall_mem_cons.mpr ⟨lw_p6, List.forall_mem_cons.mpr ⟨lw_p7, List.forall_mem_cons.mpr ⟨lw_p8, List.forall_mem_cons.mpr ⟨lw_p9, List.forall_mem_cons.mpr ⟨lw_p10, List.forall_mem_cons.mpr ⟨lw_p11, List.forall_mem_cons.mpr ⟨lw_p12, List.forall_mem_cons.mpr ⟨lw_p13, List.forall_mem_cons.mpr ⟨lw_p14, List.forall_mem_cons.mpr ⟨lw_p15, fun _ h => absurd h List.not_mem_nil⟩⟩⟩⟩⟩⟩⟩⟩⟩⟩⟩⟩⟩⟩⟩⟩
theorem lw_p16 : lw_okq (⟨"HeadYear$Seasons", "winterOf", "(LHeadYear$Folk;LHeadYear$Law;I)V"⟩, 5) := ⟨⟨by decide +kernel, by decide +kernel⟩, List.mem_of_getElem? (i := 296) (by decide +kernel), List.mem_of_getElem? (i := 630) (by decide +kernel), List.mem_of_getElem? (i := 631) (by decide +kernel)⟩
theorem lw_p17 : lw_okq (⟨"HeadYear$Seasons", "drawDead", "(LHeadYear$Folk;I)I"⟩, 5) := ⟨⟨by decide +kernel, by decide +kernel⟩, List.mem_of_getElem? (i := 296) (by decide +kernel), List.mem_of_getElem? (i := 643) (by decide +kernel), List.mem_of_getElem? (i := 644) (by decide +kernel)⟩
theorem lw_p18 : lw_okq (⟨"HeadYear$Seasons", "drawCounted", "(LHeadYear$Folk;II)I"⟩, 5) := ⟨⟨by decide +kernel, by decide +kernel⟩, List.mem_of_getElem? (i := 296) (by decide +kernel), List.mem_of_getElem? (i := 647) (by decide +kernel), List.mem_of_getElem? (i := 648) (by decide +kernel)⟩
theorem lw_p19 : lw_okq (⟨"HeadYear$Seasons", "moveIntoEmpty", "(LHeadYear$Folk;)I"⟩, 5) := ⟨⟨by decide +kernel, by decide +kernel⟩, List.mem_of_getElem? (i := 296) (by decide +kernel), List.mem_of_getElem? (i := 678) (by decide +kernel), List.mem_of_getElem? (i := 679) (by decide +kernel)⟩
theorem lw_p20 : lw_okq (⟨"HeadYear$Seasons", "changeRing", "(LHeadYear$Folk;)I"⟩, 5) := ⟨⟨by decide +kernel, by decide +kernel⟩, List.mem_of_getElem? (i := 296) (by decide +kernel), List.mem_of_getElem? (i := 695) (by decide +kernel), List.mem_of_getElem? (i := 696) (by decide +kernel)⟩
theorem lw_p21 : lw_okq (⟨"HeadYear$Seasons", "changeHuts", "(LHeadYear$Folk;I)I"⟩, 5) := ⟨⟨by decide +kernel, by decide +kernel⟩, List.mem_of_getElem? (i := 296) (by decide +kernel), List.mem_of_getElem? (i := 705) (by decide +kernel), List.mem_of_getElem? (i := 706) (by decide +kernel)⟩
theorem lw_p22 : lw_okq (⟨"HeadYear", "lives", "(I)Z"⟩, 16) := ⟨⟨by decide +kernel, by decide +kernel⟩, List.mem_of_getElem? (i := 22) (by decide +kernel), List.mem_of_getElem? (i := 725) (by decide +kernel), List.mem_of_getElem? (i := 726) (by decide +kernel)⟩
theorem lw_p23 : lw_okq (⟨"HeadYear$Moves", "isRoomFor", "(LHeadYear$Folk;I)Z"⟩, 1) := ⟨⟨by decide +kernel, by decide +kernel⟩, List.mem_of_getElem? (i := 320) (by decide +kernel), List.mem_of_getElem? (i := 778) (by decide +kernel), List.mem_of_getElem? (i := 779) (by decide +kernel)⟩
theorem lw_p24 : lw_okq (⟨"HeadYear$Odds", "pass", "(II)V"⟩, 7) := ⟨⟨by decide +kernel, by decide +kernel⟩, List.mem_of_getElem? (i := 330) (by decide +kernel), List.mem_of_getElem? (i := 817) (by decide +kernel), List.mem_of_getElem? (i := 818) (by decide +kernel)⟩
theorem lw_p25 : lw_okq (⟨"HeadYear$Odds", "spread", "(IIIJ)V"⟩, 7) := ⟨⟨by decide +kernel, by decide +kernel⟩, List.mem_of_getElem? (i := 330) (by decide +kernel), List.mem_of_getElem? (i := 822) (by decide +kernel), List.mem_of_getElem? (i := 823) (by decide +kernel)⟩
theorem lw_p26 : lw_okq (⟨"HeadYear$Odds", "land", "(IIII)V"⟩, 7) := ⟨⟨by decide +kernel, by decide +kernel⟩, List.mem_of_getElem? (i := 330) (by decide +kernel), List.mem_of_getElem? (i := 827) (by decide +kernel), List.mem_of_getElem? (i := 828) (by decide +kernel)⟩
theorem lw_p27 : lw_okq (⟨"HeadYear", "triedSum", "(IIII)I"⟩, 16) := ⟨⟨by decide +kernel, by decide +kernel⟩, List.mem_of_getElem? (i := 22) (by decide +kernel), List.mem_of_getElem? (i := 845) (by decide +kernel), List.mem_of_getElem? (i := 846) (by decide +kernel)⟩
theorem lw_p28 : lw_okq (⟨"HeadYear", "startTrial", "(I)V"⟩, 16) := ⟨⟨by decide +kernel, by decide +kernel⟩, List.mem_of_getElem? (i := 22) (by decide +kernel), List.mem_of_getElem? (i := 849) (by decide +kernel), List.mem_of_getElem? (i := 850) (by decide +kernel)⟩
theorem lw_p29 : lw_okq (⟨"HeadYear", "passTrial", "(II)V"⟩, 16) := ⟨⟨by decide +kernel, by decide +kernel⟩, List.mem_of_getElem? (i := 22) (by decide +kernel), List.mem_of_getElem? (i := 857) (by decide +kernel), List.mem_of_getElem? (i := 858) (by decide +kernel)⟩
theorem lw_p30 : lw_okq (⟨"HeadYear", "ownHeads", "(IIII)I"⟩, 16) := ⟨⟨by decide +kernel, by decide +kernel⟩, List.mem_of_getElem? (i := 22) (by decide +kernel), List.mem_of_getElem? (i := 942) (by decide +kernel), List.mem_of_getElem? (i := 943) (by decide +kernel)⟩
theorem lw_p31 : lw_okq (⟨"java/lang/Throwable", "fillInStackTrace", "(I)Ljava/lang/Throwable;"⟩, 6) := ⟨⟨by decide +kernel, by decide +kernel⟩, List.mem_of_getElem? (i := 1002) (by decide +kernel), List.mem_of_getElem? (i := 1000) (by decide +kernel), List.mem_of_getElem? (i := 1001) (by decide +kernel)⟩
def lw_privs_2 : List (MethodName × Nat) := [(⟨"HeadYear$Seasons", "winterOf", "(LHeadYear$Folk;LHeadYear$Law;I)V"⟩, 5), (⟨"HeadYear$Seasons", "drawDead", "(LHeadYear$Folk;I)I"⟩, 5), (⟨"HeadYear$Seasons", "drawCounted", "(LHeadYear$Folk;II)I"⟩, 5), (⟨"HeadYear$Seasons", "moveIntoEmpty", "(LHeadYear$Folk;)I"⟩, 5), (⟨"HeadYear$Seasons", "changeRing", "(LHeadYear$Folk;)I"⟩, 5), (⟨"HeadYear$Seasons", "changeHuts", "(LHeadYear$Folk;I)I"⟩, 5), (⟨"HeadYear", "lives", "(I)Z"⟩, 16), (⟨"HeadYear$Moves", "isRoomFor", "(LHeadYear$Folk;I)Z"⟩, 1), (⟨"HeadYear$Odds", "pass", "(II)V"⟩, 7), (⟨"HeadYear$Odds", "spread", "(IIIJ)V"⟩, 7), (⟨"HeadYear$Odds", "land", "(IIII)V"⟩, 7), (⟨"HeadYear", "triedSum", "(IIII)I"⟩, 16), (⟨"HeadYear", "startTrial", "(I)V"⟩, 16), (⟨"HeadYear", "passTrial", "(II)V"⟩, 16), (⟨"HeadYear", "ownHeads", "(IIII)I"⟩, 16), (⟨"java/lang/Throwable", "fillInStackTrace", "(I)Ljava/lang/Throwable;"⟩, 6)]
theorem lw_r2 : ∀ q ∈ lw_privs_2, lw_okq q := List.forall_mem_cons.mpr ⟨lw_p16, List.forall_mem_cons.mpr ⟨lw_p17, List.forall_mem_cons.mpr ⟨lw_p18, List.forall_mem_cons.mpr ⟨lw_p19, List.forall_mem_cons.mpr ⟨lw_p20, List.forall_mem_cons.mpr ⟨lw_p21, List.forall_mem_cons.mpr ⟨lw_p22, List.forall_mem_cons.mpr ⟨lw_p23, List.forall_mem_cons.mpr ⟨lw_p24, List.forall_mem_cons.mpr ⟨lw_p25, List.forall_mem_cons.mpr ⟨lw_p26, List.forall_mem_cons.mpr ⟨lw_p27, List.forall_mem_cons.mpr ⟨lw_p28, List.forall_mem_cons.mpr ⟨lw_p29, List.forall_mem_cons.mpr ⟨lw_p30, List.forall_mem_cons.mpr ⟨lw_p31, fun _ h => absurd h List.not_mem_nil⟩⟩⟩⟩⟩⟩⟩⟩⟩⟩⟩⟩⟩⟩⟩⟩
theorem lw_p32 : lw_okq (⟨"HeadYearModel", "readValley", "()I"⟩, 54) := ⟨⟨by decide +kernel, by decide +kernel⟩, List.mem_of_getElem? (i := 1029) (by decide +kernel), List.mem_of_getElem? (i := 1217) (by decide +kernel), List.mem_of_getElem? (i := 1218) (by decide +kernel)⟩
theorem lw_p33 : lw_okq (⟨"HeadYearModel", "clauseText", "()V"⟩, 54) := ⟨⟨by decide +kernel, by decide +kernel⟩, List.mem_of_getElem? (i := 1029) (by decide +kernel), List.mem_of_getElem? (i := 1221) (by decide +kernel), List.mem_of_getElem? (i := 1222) (by decide +kernel)⟩
theorem lw_p34 : lw_okq (⟨"HeadYearModel", "look", "()I"⟩, 54) := ⟨⟨by decide +kernel, by decide +kernel⟩, List.mem_of_getElem? (i := 1029) (by decide +kernel), List.mem_of_getElem? (i := 1225) (by decide +kernel), List.mem_of_getElem? (i := 1226) (by decide +kernel)⟩
theorem lw_p35 : lw_okq (⟨"HeadYearModel", "here", "()I"⟩, 54) := ⟨⟨by decide +kernel, by decide +kernel⟩, List.mem_of_getElem? (i := 1029) (by decide +kernel), List.mem_of_getElem? (i := 1229) (by decide +kernel), List.mem_of_getElem? (i := 1230) (by decide +kernel)⟩
theorem lw_p36 : lw_okq (⟨"HeadYearModel", "bad", "()V"⟩, 54) := ⟨⟨by decide +kernel, by decide +kernel⟩, List.mem_of_getElem? (i := 1029) (by decide +kernel), List.mem_of_getElem? (i := 1233) (by decide +kernel), List.mem_of_getElem? (i := 1234) (by decide +kernel)⟩
theorem lw_p37 : lw_okq (⟨"HeadYearModel", "items", "(Z[II)V"⟩, 54) := ⟨⟨by decide +kernel, by decide +kernel⟩, List.mem_of_getElem? (i := 1029) (by decide +kernel), List.mem_of_getElem? (i := 1237) (by decide +kernel), List.mem_of_getElem? (i := 1238) (by decide +kernel)⟩
theorem lw_p38 : lw_okq (⟨"HeadYearModel", "itemNow", "(Z)I"⟩, 54) := ⟨⟨by decide +kernel, by decide +kernel⟩, List.mem_of_getElem? (i := 1029) (by decide +kernel), List.mem_of_getElem? (i := 1244) (by decide +kernel), List.mem_of_getElem? (i := 1245) (by decide +kernel)⟩
theorem lw_p39 : lw_okq (⟨"HeadYearModel", "number", "(II)I"⟩, 54) := ⟨⟨by decide +kernel, by decide +kernel⟩, List.mem_of_getElem? (i := 1029) (by decide +kernel), List.mem_of_getElem? (i := 1263) (by decide +kernel), List.mem_of_getElem? (i := 1264) (by decide +kernel)⟩
theorem lw_p40 : lw_okq (⟨"HeadYearModel", "areHoused", "()Z"⟩, 54) := ⟨⟨by decide +kernel, by decide +kernel⟩, List.mem_of_getElem? (i := 1029) (by decide +kernel), List.mem_of_getElem? (i := 1273) (by decide +kernel), List.mem_of_getElem? (i := 1274) (by decide +kernel)⟩
theorem lw_p41 : lw_okq (⟨"HeadYearModel", "readLaw", "(I)I"⟩, 54) := ⟨⟨by decide +kernel, by decide +kernel⟩, List.mem_of_getElem? (i := 1029) (by decide +kernel), List.mem_of_getElem? (i := 1277) (by decide +kernel), List.mem_of_getElem? (i := 1278) (by decide +kernel)⟩
theorem lw_p42 : lw_okq (⟨"HeadYearModel", "open", "(I)V"⟩, 54) := ⟨⟨by decide +kernel, by decide +kernel⟩, List.mem_of_getElem? (i := 1029) (by decide +kernel), List.mem_of_getElem? (i := 1281) (by decide +kernel), List.mem_of_getElem? (i := 1282) (by decide +kernel)⟩
theorem lw_p43 : lw_okq (⟨"HeadYearModel", "clause", "()V"⟩, 54) := ⟨⟨by decide +kernel, by decide +kernel⟩, List.mem_of_getElem? (i := 1029) (by decide +kernel), List.mem_of_getElem? (i := 1285) (by decide +kernel), List.mem_of_getElem? (i := 1286) (by decide +kernel)⟩
theorem lw_p44 : lw_okq (⟨"HeadYearModel", "condition", "()V"⟩, 54) := ⟨⟨by decide +kernel, by decide +kernel⟩, List.mem_of_getElem? (i := 1029) (by decide +kernel), List.mem_of_getElem? (i := 1289) (by decide +kernel), List.mem_of_getElem? (i := 1290) (by decide +kernel)⟩
theorem lw_p45 : lw_okq (⟨"HeadYearModel", "unit", "()V"⟩, 54) := ⟨⟨by decide +kernel, by decide +kernel⟩, List.mem_of_getElem? (i := 1029) (by decide +kernel), List.mem_of_getElem? (i := 1293) (by decide +kernel), List.mem_of_getElem? (i := 1294) (by decide +kernel)⟩
theorem lw_p46 : lw_okq (⟨"HeadYearModel", "opens", "()V"⟩, 54) := ⟨⟨by decide +kernel, by decide +kernel⟩, List.mem_of_getElem? (i := 1029) (by decide +kernel), List.mem_of_getElem? (i := 1297) (by decide +kernel), List.mem_of_getElem? (i := 1298) (by decide +kernel)⟩
theorem lw_p47 : lw_okq (⟨"HeadYearModel", "put", "(II)V"⟩, 54) := ⟨⟨by decide +kernel, by decide +kernel⟩, List.mem_of_getElem? (i := 1029) (by decide +kernel), List.mem_of_getElem? (i := 1301) (by decide +kernel), List.mem_of_getElem? (i := 1302) (by decide +kernel)⟩
def lw_privs_3 : List (MethodName × Nat) := [(⟨"HeadYearModel", "readValley", "()I"⟩, 54), (⟨"HeadYearModel", "clauseText", "()V"⟩, 54), (⟨"HeadYearModel", "look", "()I"⟩, 54), (⟨"HeadYearModel", "here", "()I"⟩, 54), (⟨"HeadYearModel", "bad", "()V"⟩, 54), (⟨"HeadYearModel", "items", "(Z[II)V"⟩, 54), (⟨"HeadYearModel", "itemNow", "(Z)I"⟩, 54), (⟨"HeadYearModel", "number", "(II)I"⟩, 54), (⟨"HeadYearModel", "areHoused", "()Z"⟩, 54), (⟨"HeadYearModel", "readLaw", "(I)I"⟩, 54), (⟨"HeadYearModel", "open", "(I)V"⟩, 54), (⟨"HeadYearModel", "clause", "()V"⟩, 54), (⟨"HeadYearModel", "condition", "()V"⟩, 54), (⟨"HeadYearModel", "unit", "()V"⟩, 54), (⟨"HeadYearModel", "opens", "()V"⟩, 54), (⟨"HeadYearModel", "put", "(II)V"⟩, 54)]
theorem lw_r3 : ∀ q ∈ lw_privs_3, lw_okq q := List.forall_mem_cons.mpr ⟨lw_p32, List.forall_mem_cons.mpr ⟨lw_p33, List.forall_mem_cons.mpr ⟨lw_p34, List.forall_mem_cons.mpr ⟨lw_p35, List.forall_mem_cons.mpr ⟨lw_p36, List.forall_mem_cons.mpr ⟨lw_p37, List.forall_mem_cons.mpr ⟨lw_p38, List.forall_mem_cons.mpr ⟨lw_p39, List.forall_mem_cons.mpr ⟨lw_p40, List.forall_mem_cons.mpr ⟨lw_p41, List.forall_mem_cons.mpr ⟨lw_p42, List.forall_mem_cons.mpr ⟨lw_p43, List.forall_mem_cons.mpr ⟨lw_p44, List.forall_mem_cons.mpr ⟨lw_p45, List.forall_mem_cons.mpr ⟨lw_p46, List.forall_mem_cons.mpr ⟨lw_p47, fun _ h => absurd h List.not_mem_nil⟩⟩⟩⟩⟩⟩⟩⟩⟩⟩⟩⟩⟩⟩⟩⟩
theorem lw_p48 : lw_okq (⟨"HeadYearModel", "closes", "(I)V"⟩, 54) := ⟨⟨by decide +kernel, by decide +kernel⟩, List.mem_of_getElem? (i := 1029) (by decide +kernel), List.mem_of_getElem? (i := 1305) (by decide +kernel), List.mem_of_getElem? (i := 1306) (by decide +kernel)⟩
theorem lw_p49 : lw_okq (⟨"HeadYearModel", "sum", "()V"⟩, 54) := ⟨⟨by decide +kernel, by decide +kernel⟩, List.mem_of_getElem? (i := 1029) (by decide +kernel), List.mem_of_getElem? (i := 1309) (by decide +kernel), List.mem_of_getElem? (i := 1310) (by decide +kernel)⟩
theorem lw_p50 : lw_okq (⟨"HeadYearModel", "term", "()V"⟩, 54) := ⟨⟨by decide +kernel, by decide +kernel⟩, List.mem_of_getElem? (i := 1029) (by decide +kernel), List.mem_of_getElem? (i := 1313) (by decide +kernel), List.mem_of_getElem? (i := 1314) (by decide +kernel)⟩
theorem lw_p51 : lw_okq (⟨"HeadYearModel", "atom", "()V"⟩, 54) := ⟨⟨by decide +kernel, by decide +kernel⟩, List.mem_of_getElem? (i := 1029) (by decide +kernel), List.mem_of_getElem? (i := 1317) (by decide +kernel), List.mem_of_getElem? (i := 1318) (by decide +kernel)⟩
theorem lw_p52 : lw_okq (⟨"HeadYearModel", "plainNumber", "()I"⟩, 54) := ⟨⟨by decide +kernel, by decide +kernel⟩, List.mem_of_getElem? (i := 1029) (by decide +kernel), List.mem_of_getElem? (i := 1321) (by decide +kernel), List.mem_of_getElem? (i := 1322) (by decide +kernel)⟩
theorem lw_p53 : lw_okq (⟨"HeadYearModel", "compare", "()V"⟩, 54) := ⟨⟨by decide +kernel, by decide +kernel⟩, List.mem_of_getElem? (i := 1029) (by decide +kernel), List.mem_of_getElem? (i := 1328) (by decide +kernel), List.mem_of_getElem? (i := 1329) (by decide +kernel)⟩
theorem lw_p54 : lw_okq (⟨"HeadYearModel", "goOnAnd", "()V"⟩, 54) := ⟨⟨by decide +kernel, by decide +kernel⟩, List.mem_of_getElem? (i := 1029) (by decide +kernel), List.mem_of_getElem? (i := 1335) (by decide +kernel), List.mem_of_getElem? (i := 1336) (by decide +kernel)⟩
theorem lw_p55 : lw_okq (⟨"HeadYearModel", "goOnOr", "()V"⟩, 54) := ⟨⟨by decide +kernel, by decide +kernel⟩, List.mem_of_getElem? (i := 1029) (by decide +kernel), List.mem_of_getElem? (i := 1339) (by decide +kernel), List.mem_of_getElem? (i := 1340) (by decide +kernel)⟩
theorem lw_p56 : lw_okq (⟨"HeadYearModel", "atEnd", "()I"⟩, 54) := ⟨⟨by decide +kernel, by decide +kernel⟩, List.mem_of_getElem? (i := 1029) (by decide +kernel), List.mem_of_getElem? (i := 1343) (by decide +kernel), List.mem_of_getElem? (i := 1344) (by decide +kernel)⟩
theorem lw_p57 : lw_okq (⟨"HeadYearModel", "takeValley", "()I"⟩, 54) := ⟨⟨by decide +kernel, by decide +kernel⟩, List.mem_of_getElem? (i := 1029) (by decide +kernel), List.mem_of_getElem? (i := 1351) (by decide +kernel), List.mem_of_getElem? (i := 1352) (by decide +kernel)⟩
theorem lw_p58 : lw_okq (⟨"HeadYearModel", "tell", "(III)V"⟩, 54) := ⟨⟨by decide +kernel, by decide +kernel⟩, List.mem_of_getElem? (i := 1029) (by decide +kernel), List.mem_of_getElem? (i := 1355) (by decide +kernel), List.mem_of_getElem? (i := 1356) (by decide +kernel)⟩
theorem lw_p59 : lw_okq (⟨"HeadYearModel", "emptyHut", "(II)I"⟩, 54) := ⟨⟨by decide +kernel, by decide +kernel⟩, List.mem_of_getElem? (i := 1029) (by decide +kernel), List.mem_of_getElem? (i := 1359) (by decide +kernel), List.mem_of_getElem? (i := 1360) (by decide +kernel)⟩
theorem lw_p60 : lw_okq (⟨"HeadYearModel", "levelOf", "(II)I"⟩, 54) := ⟨⟨by decide +kernel, by decide +kernel⟩, List.mem_of_getElem? (i := 1029) (by decide +kernel), List.mem_of_getElem? (i := 1363) (by decide +kernel), List.mem_of_getElem? (i := 1364) (by decide +kernel)⟩
theorem lw_p61 : lw_okq (⟨"HeadYearModel", "inHut", "(II)I"⟩, 54) := ⟨⟨by decide +kernel, by decide +kernel⟩, List.mem_of_getElem? (i := 1029) (by decide +kernel), List.mem_of_getElem? (i := 1367) (by decide +kernel), List.mem_of_getElem? (i := 1368) (by decide +kernel)⟩
theorem lw_p62 : lw_okq (⟨"HeadYearModel", "of", "(II)I"⟩, 54) := ⟨⟨by decide +kernel, by decide +kernel⟩, List.mem_of_getElem? (i := 1029) (by decide +kernel), List.mem_of_getElem? (i := 1371) (by decide +kernel), List.mem_of_getElem? (i := 1372) (by decide +kernel)⟩
theorem lw_p63 : lw_okq (⟨"HeadYearModel", "isLevel", "(I)Z"⟩, 54) := ⟨⟨by decide +kernel, by decide +kernel⟩, List.mem_of_getElem? (i := 1029) (by decide +kernel), List.mem_of_getElem? (i := 1379) (by decide +kernel), List.mem_of_getElem? (i := 1380) (by decide +kernel)⟩
def lw_privs_4 : List (MethodName × Nat) := [(⟨"HeadYearModel", "closes", "(I)V"⟩, 54), (⟨"HeadYearModel", "sum", "()V"⟩, 54), (⟨"HeadYearModel", "term", "()V"⟩, 54), (⟨"HeadYearModel", "atom", "()V"⟩, 54), (⟨"HeadYearModel", "plainNumber", "()I"⟩, 54), (⟨"HeadYearModel", "compare", "()V"⟩, 54), (⟨"HeadYearModel", "goOnAnd", "()V"⟩, 54), (⟨"HeadYearModel", "goOnOr", "()V"⟩, 54), (⟨"HeadYearModel", "atEnd", "()I"⟩, 54), (⟨"HeadYearModel", "takeValley", "()I"⟩, 54), (⟨"HeadYearModel", "tell", "(III)V"⟩, 54), (⟨"HeadYearModel", "emptyHut", "(II)I"⟩, 54), (⟨"HeadYearModel", "levelOf", "(II)I"⟩, 54), (⟨"HeadYearModel", "inHut", "(II)I"⟩, 54), (⟨"HeadYearModel", "of", "(II)I"⟩, 54), (⟨"HeadYearModel", "isLevel", "(I)Z"⟩, 54)]
theorem lw_r4 : ∀ q ∈ lw_privs_4, lw_okq q := List.forall_mem_cons.mpr ⟨lw_p48, List.forall_mem_cons.mpr ⟨lw_p49, List.forall_mem_cons.mpr ⟨lw_p50, List.forall_mem_cons.mpr ⟨lw_p51, List.forall_mem_cons.mpr ⟨lw_p52, List.forall_mem_cons.mpr ⟨lw_p53, List.forall_mem_cons.mpr ⟨lw_p54, List.forall_mem_cons.mpr ⟨lw_p55, List.forall_mem_cons.mpr ⟨lw_p56, List.forall_mem_cons.mpr ⟨lw_p57, List.forall_mem_cons.mpr ⟨lw_p58, List.forall_mem_cons.mpr ⟨lw_p59, List.forall_mem_cons.mpr ⟨lw_p60, List.forall_mem_cons.mpr ⟨lw_p61, List.forall_mem_cons.mpr ⟨lw_p62, List.forall_mem_cons.mpr ⟨lw_p63, fun _ h => absurd h List.not_mem_nil⟩⟩⟩⟩⟩⟩⟩⟩⟩⟩⟩⟩⟩⟩⟩⟩
theorem lw_p64 : lw_okq (⟨"HeadYearModel", "headsAt", "(I)I"⟩, 54) := ⟨⟨by decide +kernel, by decide +kernel⟩, List.mem_of_getElem? (i := 1029) (by decide +kernel), List.mem_of_getElem? (i := 1383) (by decide +kernel), List.mem_of_getElem? (i := 1384) (by decide +kernel)⟩
theorem lw_p65 : lw_okq (⟨"HeadYearModel", "empties", "(I)I"⟩, 54) := ⟨⟨by decide +kernel, by decide +kernel⟩, List.mem_of_getElem? (i := 1029) (by decide +kernel), List.mem_of_getElem? (i := 1387) (by decide +kernel), List.mem_of_getElem? (i := 1388) (by decide +kernel)⟩
theorem lw_p66 : lw_okq (⟨"HeadYearModel", "lackAt", "(I)I"⟩, 54) := ⟨⟨by decide +kernel, by decide +kernel⟩, List.mem_of_getElem? (i := 1029) (by decide +kernel), List.mem_of_getElem? (i := 1391) (by decide +kernel), List.mem_of_getElem? (i := 1392) (by decide +kernel)⟩
theorem lw_p67 : lw_okq (⟨"HeadYearModel", "isFamily", "(I)Z"⟩, 54) := ⟨⟨by decide +kernel, by decide +kernel⟩, List.mem_of_getElem? (i := 1029) (by decide +kernel), List.mem_of_getElem? (i := 1400) (by decide +kernel), List.mem_of_getElem? (i := 1401) (by decide +kernel)⟩
theorem lw_p68 : lw_okq (⟨"HeadYearModel", "isGone", "(I)Z"⟩, 54) := ⟨⟨by decide +kernel, by decide +kernel⟩, List.mem_of_getElem? (i := 1029) (by decide +kernel), List.mem_of_getElem? (i := 1405) (by decide +kernel), List.mem_of_getElem? (i := 1406) (by decide +kernel)⟩
theorem lw_p69 : lw_okq (⟨"HeadYearModel", "want", "(I)I"⟩, 54) := ⟨⟨by decide +kernel, by decide +kernel⟩, List.mem_of_getElem? (i := 1029) (by decide +kernel), List.mem_of_getElem? (i := 1409) (by decide +kernel), List.mem_of_getElem? (i := 1410) (by decide +kernel)⟩
theorem lw_p70 : lw_okq (⟨"HeadYearModel", "wantBy", "(II)I"⟩, 54) := ⟨⟨by decide +kernel, by decide +kernel⟩, List.mem_of_getElem? (i := 1029) (by decide +kernel), List.mem_of_getElem? (i := 1413) (by decide +kernel), List.mem_of_getElem? (i := 1414) (by decide +kernel)⟩
theorem lw_p71 : lw_okq (⟨"HeadYearModel", "winter", "(II)V"⟩, 54) := ⟨⟨by decide +kernel, by decide +kernel⟩, List.mem_of_getElem? (i := 1029) (by decide +kernel), List.mem_of_getElem? (i := 1438) (by decide +kernel), List.mem_of_getElem? (i := 1439) (by decide +kernel)⟩
theorem lw_p72 : lw_okq (⟨"HeadYearModel", "winterOf", "(IIII)V"⟩, 54) := ⟨⟨by decide +kernel, by decide +kernel⟩, List.mem_of_getElem? (i := 1029) (by decide +kernel), List.mem_of_getElem? (i := 1442) (by decide +kernel), List.mem_of_getElem? (i := 1443) (by decide +kernel)⟩
theorem lw_p73 : lw_okq (⟨"HeadYearModel", "draw", "(I)I"⟩, 54) := ⟨⟨by decide +kernel, by decide +kernel⟩, List.mem_of_getElem? (i := 1029) (by decide +kernel), List.mem_of_getElem? (i := 1446) (by decide +kernel), List.mem_of_getElem? (i := 1447) (by decide +kernel)⟩
theorem lw_p74 : lw_okq (⟨"HeadYearModel", "worthBy", "(IIIIIII)I"⟩, 54) := ⟨⟨by decide +kernel, by decide +kernel⟩, List.mem_of_getElem? (i := 1029) (by decide +kernel), List.mem_of_getElem? (i := 1452) (by decide +kernel), List.mem_of_getElem? (i := 1453) (by decide +kernel)⟩
theorem lw_p75 : lw_okq (⟨"HeadYearModel", "worthOf", "(I)I"⟩, 54) := ⟨⟨by decide +kernel, by decide +kernel⟩, List.mem_of_getElem? (i := 1029) (by decide +kernel), List.mem_of_getElem? (i := 1456) (by decide +kernel), List.mem_of_getElem? (i := 1457) (by decide +kernel)⟩
theorem lw_p76 : lw_okq (⟨"HeadYearModel", "workOut", "(III)I"⟩, 54) := ⟨⟨by decide +kernel, by decide +kernel⟩, List.mem_of_getElem? (i := 1029) (by decide +kernel), List.mem_of_getElem? (i := 1460) (by decide +kernel), List.mem_of_getElem? (i := 1461) (by decide +kernel)⟩
theorem lw_p77 : lw_okq (⟨"HeadYearModel", "springs", "()I"⟩, 54) := ⟨⟨by decide +kernel, by decide +kernel⟩, List.mem_of_getElem? (i := 1029) (by decide +kernel), List.mem_of_getElem? (i := 1478) (by decide +kernel), List.mem_of_getElem? (i := 1479) (by decide +kernel)⟩
theorem lw_p78 : lw_okq (⟨"HeadYearModel", "goer", "()I"⟩, 54) := ⟨⟨by decide +kernel, by decide +kernel⟩, List.mem_of_getElem? (i := 1029) (by decide +kernel), List.mem_of_getElem? (i := 1482) (by decide +kernel), List.mem_of_getElem? (i := 1483) (by decide +kernel)⟩
theorem lw_p79 : lw_okq (⟨"HeadYearModel", "wants", "(I)Z"⟩, 54) := ⟨⟨by decide +kernel, by decide +kernel⟩, List.mem_of_getElem? (i := 1029) (by decide +kernel), List.mem_of_getElem? (i := 1486) (by decide +kernel), List.mem_of_getElem? (i := 1487) (by decide +kernel)⟩
def lw_privs_5 : List (MethodName × Nat) := [(⟨"HeadYearModel", "headsAt", "(I)I"⟩, 54), (⟨"HeadYearModel", "empties", "(I)I"⟩, 54), (⟨"HeadYearModel", "lackAt", "(I)I"⟩, 54), (⟨"HeadYearModel", "isFamily", "(I)Z"⟩, 54), (⟨"HeadYearModel", "isGone", "(I)Z"⟩, 54), (⟨"HeadYearModel", "want", "(I)I"⟩, 54), (⟨"HeadYearModel", "wantBy", "(II)I"⟩, 54), (⟨"HeadYearModel", "winter", "(II)V"⟩, 54), (⟨"HeadYearModel", "winterOf", "(IIII)V"⟩, 54), (⟨"HeadYearModel", "draw", "(I)I"⟩, 54), (⟨"HeadYearModel", "worthBy", "(IIIIIII)I"⟩, 54), (⟨"HeadYearModel", "worthOf", "(I)I"⟩, 54), (⟨"HeadYearModel", "workOut", "(III)I"⟩, 54), (⟨"HeadYearModel", "springs", "()I"⟩, 54), (⟨"HeadYearModel", "goer", "()I"⟩, 54), (⟨"HeadYearModel", "wants", "(I)Z"⟩, 54)]
theorem lw_r5 : ∀ q ∈ lw_privs_5, lw_okq q := List.forall_mem_cons.mpr ⟨lw_p64, List.forall_mem_cons.mpr ⟨lw_p65, List.forall_mem_cons.mpr ⟨lw_p66, List.forall_mem_cons.mpr ⟨lw_p67, List.forall_mem_cons.mpr ⟨lw_p68, List.forall_mem_cons.mpr ⟨lw_p69, List.forall_mem_cons.mpr ⟨lw_p70, List.forall_mem_cons.mpr ⟨lw_p71, List.forall_mem_cons.mpr ⟨lw_p72, List.forall_mem_cons.mpr ⟨lw_p73, List.forall_mem_cons.mpr ⟨lw_p74, List.forall_mem_cons.mpr ⟨lw_p75, List.forall_mem_cons.mpr ⟨lw_p76, List.forall_mem_cons.mpr ⟨lw_p77, List.forall_mem_cons.mpr ⟨lw_p78, List.forall_mem_cons.mpr ⟨lw_p79, fun _ h => absurd h List.not_mem_nil⟩⟩⟩⟩⟩⟩⟩⟩⟩⟩⟩⟩⟩⟩⟩⟩
theorem lw_p80 : lw_okq (⟨"HeadYearModel", "ring", "()I"⟩, 54) := ⟨⟨by decide +kernel, by decide +kernel⟩, List.mem_of_getElem? (i := 1029) (by decide +kernel), List.mem_of_getElem? (i := 1490) (by decide +kernel), List.mem_of_getElem? (i := 1491) (by decide +kernel)⟩
theorem lw_p81 : lw_okq (⟨"HeadYearModel", "ringFrom", "(I)I"⟩, 54) := ⟨⟨by decide +kernel, by decide +kernel⟩, List.mem_of_getElem? (i := 1029) (by decide +kernel), List.mem_of_getElem? (i := 1494) (by decide +kernel), List.mem_of_getElem? (i := 1495) (by decide +kernel)⟩
theorem lw_p82 : lw_okq (⟨"HeadYearModel", "nextOf", "(I)I"⟩, 54) := ⟨⟨by decide +kernel, by decide +kernel⟩, List.mem_of_getElem? (i := 1029) (by decide +kernel), List.mem_of_getElem? (i := 1498) (by decide +kernel), List.mem_of_getElem? (i := 1499) (by decide +kernel)⟩
theorem lw_p83 : lw_okq (⟨"HeadYearModel", "turn", "(I)I"⟩, 54) := ⟨⟨by decide +kernel, by decide +kernel⟩, List.mem_of_getElem? (i := 1029) (by decide +kernel), List.mem_of_getElem? (i := 1502) (by decide +kernel), List.mem_of_getElem? (i := 1503) (by decide +kernel)⟩
theorem lw_p84 : lw_okq (⟨"HeadYearModel", "headsOfAll", "()I"⟩, 54) := ⟨⟨by decide +kernel, by decide +kernel⟩, List.mem_of_getElem? (i := 1029) (by decide +kernel), List.mem_of_getElem? (i := 1507) (by decide +kernel), List.mem_of_getElem? (i := 1508) (by decide +kernel)⟩
theorem lw_p85 : lw_okq (⟨"HeadYearModel", "waiters", "()I"⟩, 54) := ⟨⟨by decide +kernel, by decide +kernel⟩, List.mem_of_getElem? (i := 1029) (by decide +kernel), List.mem_of_getElem? (i := 1532) (by decide +kernel), List.mem_of_getElem? (i := 1533) (by decide +kernel)⟩
theorem lw_p86 : lw_okq (⟨"HeadYearModel", "canGo", "(I)Z"⟩, 54) := ⟨⟨by decide +kernel, by decide +kernel⟩, List.mem_of_getElem? (i := 1029) (by decide +kernel), List.mem_of_getElem? (i := 1540) (by decide +kernel), List.mem_of_getElem? (i := 1541) (by decide +kernel)⟩
theorem lw_p87 : lw_okq (⟨"HeadYearModel", "oneWinter", "(II)V"⟩, 54) := ⟨⟨by decide +kernel, by decide +kernel⟩, List.mem_of_getElem? (i := 1029) (by decide +kernel), List.mem_of_getElem? (i := 1556) (by decide +kernel), List.mem_of_getElem? (i := 1557) (by decide +kernel)⟩
theorem lw_p88 : lw_okq (⟨"HeadYearModel", "goOn", "(IIIJI)V"⟩, 54) := ⟨⟨by decide +kernel, by decide +kernel⟩, List.mem_of_getElem? (i := 1029) (by decide +kernel), List.mem_of_getElem? (i := 1561) (by decide +kernel), List.mem_of_getElem? (i := 1562) (by decide +kernel)⟩
theorem lw_p89 : lw_okq (⟨"HeadYearModel", "isTrial", "(II)Z"⟩, 54) := ⟨⟨by decide +kernel, by decide +kernel⟩, List.mem_of_getElem? (i := 1029) (by decide +kernel), List.mem_of_getElem? (i := 1569) (by decide +kernel), List.mem_of_getElem? (i := 1570) (by decide +kernel)⟩
theorem lw_p90 : lw_okq (⟨"HeadYearModel", "triedBy", "(IIII)I"⟩, 54) := ⟨⟨by decide +kernel, by decide +kernel⟩, List.mem_of_getElem? (i := 1029) (by decide +kernel), List.mem_of_getElem? (i := 1573) (by decide +kernel), List.mem_of_getElem? (i := 1574) (by decide +kernel)⟩
theorem lw_p91 : lw_okq (⟨"HeadYearModel", "headsIn", "(I)I"⟩, 54) := ⟨⟨by decide +kernel, by decide +kernel⟩, List.mem_of_getElem? (i := 1029) (by decide +kernel), List.mem_of_getElem? (i := 1616) (by decide +kernel), List.mem_of_getElem? (i := 1617) (by decide +kernel)⟩
theorem lw_p92 : lw_okq (⟨"HeadYearModel", "headsBy", "(IIII)I"⟩, 54) := ⟨⟨by decide +kernel, by decide +kernel⟩, List.mem_of_getElem? (i := 1029) (by decide +kernel), List.mem_of_getElem? (i := 1629) (by decide +kernel), List.mem_of_getElem? (i := 1630) (by decide +kernel)⟩
theorem lw_p93 : lw_okq (⟨"HeadYearModel", "gones", "()I"⟩, 54) := ⟨⟨by decide +kernel, by decide +kernel⟩, List.mem_of_getElem? (i := 1029) (by decide +kernel), List.mem_of_getElem? (i := 1645) (by decide +kernel), List.mem_of_getElem? (i := 1646) (by decide +kernel)⟩
def lw_privs_6 : List (MethodName × Nat) := [(⟨"HeadYearModel", "ring", "()I"⟩, 54), (⟨"HeadYearModel", "ringFrom", "(I)I"⟩, 54), (⟨"HeadYearModel", "nextOf", "(I)I"⟩, 54), (⟨"HeadYearModel", "turn", "(I)I"⟩, 54), (⟨"HeadYearModel", "headsOfAll", "()I"⟩, 54), (⟨"HeadYearModel", "waiters", "()I"⟩, 54), (⟨"HeadYearModel", "canGo", "(I)Z"⟩, 54), (⟨"HeadYearModel", "oneWinter", "(II)V"⟩, 54), (⟨"HeadYearModel", "goOn", "(IIIJI)V"⟩, 54), (⟨"HeadYearModel", "isTrial", "(II)Z"⟩, 54), (⟨"HeadYearModel", "triedBy", "(IIII)I"⟩, 54), (⟨"HeadYearModel", "headsIn", "(I)I"⟩, 54), (⟨"HeadYearModel", "headsBy", "(IIII)I"⟩, 54), (⟨"HeadYearModel", "gones", "()I"⟩, 54)]
theorem lw_r6 : ∀ q ∈ lw_privs_6, lw_okq q := List.forall_mem_cons.mpr ⟨lw_p80, List.forall_mem_cons.mpr ⟨lw_p81, List.forall_mem_cons.mpr ⟨lw_p82, List.forall_mem_cons.mpr ⟨lw_p83, List.forall_mem_cons.mpr ⟨lw_p84, List.forall_mem_cons.mpr ⟨lw_p85, List.forall_mem_cons.mpr ⟨lw_p86, List.forall_mem_cons.mpr ⟨lw_p87, List.forall_mem_cons.mpr ⟨lw_p88, List.forall_mem_cons.mpr ⟨lw_p89, List.forall_mem_cons.mpr ⟨lw_p90, List.forall_mem_cons.mpr ⟨lw_p91, List.forall_mem_cons.mpr ⟨lw_p92, List.forall_mem_cons.mpr ⟨lw_p93, fun _ h => absurd h List.not_mem_nil⟩⟩⟩⟩⟩⟩⟩⟩⟩⟩⟩⟩⟩⟩
def lw_privs : List (MethodName × Nat) := lw_privs_1 ++ (lw_privs_2 ++ (lw_privs_3 ++ (lw_privs_4 ++ (lw_privs_5 ++ (lw_privs_6)))))
def lw_tbl : List Cond := k2_sels lw_privs ++ tables_1
theorem lw_privs_ok : ∀ q ∈ lw_privs, lw_okq q := by
  show ∀ q ∈ lw_privs_1 ++ (lw_privs_2 ++ (lw_privs_3 ++ (lw_privs_4 ++ (lw_privs_5 ++ (lw_privs_6))))), lw_okq q
  exact List.forall_mem_append.mpr ⟨lw_r1, List.forall_mem_append.mpr ⟨lw_r2, List.forall_mem_append.mpr ⟨lw_r3, List.forall_mem_append.mpr ⟨lw_r4, List.forall_mem_append.mpr ⟨lw_r5, lw_r6⟩⟩⟩⟩⟩
-- ===== end of PART A; then your names; then what follows =====
end
section
/-! ===== BEGIN words of one list among another's, by their places ===== -/
theorem goodIn_r {big : List Cond} (ws : List Cond) (ps : List Nat) (hp : ws = ps.filterMap (fun i => big[i]?)) (h : ws.all goodWord = true) : GoodIn big ws := by
  intro w hw
  have h1 := List.all_eq_true.mp h w hw
  rw [hp] at hw
  obtain ⟨i, -, hi⟩ := List.mem_filterMap.mp hw
  have hm : w ∈ big := by first | exact List.mem_of_getElem? hi | exact List.getElem?_mem hi
  exact ⟨hm, good_of_word h1⟩
theorem goodIn_app {big a b : List Cond} (ha : GoodIn big a) (hb : GoodIn big b) : GoodIn big (a ++ b) := fun w h => (List.mem_append.mp h).elim (ha w) (hb w)
theorem goodIn_ca {big a b : List Cond} {c : Cond} (ha : GoodIn big (c :: a)) (hb : GoodIn big b) : GoodIn big (c :: (a ++ b)) := fun w h => (List.mem_cons.mp h).elim (fun e => ha w (List.mem_cons.mpr (Or.inl e))) (fun h => (List.mem_append.mp h).elim (fun h => ha w (List.mem_cons.mpr (Or.inr h))) (hb w))
theorem goodIn_sub {big ws : List Cond} (hm : ∀ w ∈ ws, w ∈ big) (h : ws.all goodWord = true) : GoodIn big ws := fun w hw => ⟨hm w hw, good_of_word (List.all_eq_true.mp h w hw)⟩
/-! ===== END ===== -/

/-! ===== BEGIN exceptions that leave a method, and their catching by the caller (launches without stack traces) ===== -/
section VXA
/-! The laws vx_back, vx_callV, vx_callS, vx_callSW, vx_throw0, vx_throwS follow proofs of the library, with one case more: JvmDerived/Free/Laws.lean (Back.of_free), Shelf42/LK1.lean (callV, callS), Shelf/KitTraced.lean (throwNew0V, throwNewS). -/
/-- where a method has thrown q: the class by its name, the cell, what was written, the world -/
def vx_T (XC : String → State → State → Prop) (st : State) (q : Addr) (t : State) (mc ms : Nat) (free : Addr → Prop) : Prop :=
  ∃ (E : String) (ce : Cell) (L : List Loc), XC E st t ∧ t.heap[q]? = some ce ∧ ce.vm = .none ∧ st.vm.findClass E = some ce.cls ∧ st.WarmedH t.vm ∧ st.sameButNew ({ t with vm := st.vm } : State) L mc ms ∧ ∀ z ∈ L, free z.base
def vx_Q (Qc : Array Value → State → Outcome → State → Prop) (XC : String → State → State → Prop) (mc ms : Nat) (free : Addr → Prop) : Array Value → State → Outcome → State → Prop := fun a st o t =>
  (Qc a st o t ∧ ∃ L, FrameEnd st o t L mc ms ∧ ∀ q ∈ L, free q.base) ∨ ∃ q, o = .threw q ∧ vx_T XC st q t mc ms free
/-- a callee that returns or throws -/
def vx_Met (l : Launch) (y : MethodName) (ws : List Cond) (rm : Room) (Pc : Array Value → State → Prop) (Qc : Array Value → State → Outcome → State → Prop) (XC : String → State → State → Prop) (mc ms : Nat) (free : Addr → Prop) : Prop :=
  MetFree l y (headSpec ws rm) Pc (fun _ _ _ _ _ => True) (vx_Q Qc XC mc ms free)
def vx_Post (XC : String → State → State → Prop) (mc ms : Nat) (free : Addr → Prop) : Pt → Array Value → Addr → Pt → Prop := fun A a q B =>
  ∃ (g : JFrame) (mk : MethodId) (t : State) (L : List Loc) (E : String) (ce : Cell), B.U.heap = t.heap ∧ B.U.vm = t.vm ∧ XC E (A.U.calling g mk a) t ∧ t.heap[q]? = some ce ∧ ce.vm = .none ∧ A.U.vm.findClass E = some ce.cls ∧ B.locs = A.locs ++ L ∧ (∀ z ∈ L, free z.base) ∧ B.cells = A.cells + mc ∧ B.slots = A.slots + ms
def vx_Back (l : Launch) (R : Room) (p : Program) (e : Env) (below : List Frame) (s : State) (sargs : Array Value) (y : MethodName) (len W9 : Nat)
    (Pre : Pt → Array Value → Prop) (Post : Pt → Array Value → Option Value → Pt → Prop) (PostX : Pt → Array Value → Addr → Pt → Prop) : Prop :=
  ∀ (m : MethodId) (meth : Method) (c : Code) (A : Pt) (g : JFrame) (ig : Instr) (mk : MethodId) (a : Array Value),
    Stand p l e R s m sargs below meth c A.U A.locs A.cells A.slots → g.method = m → g.locals.size = c.maxLocals → decode c.code g.pc = .ok (ig, len) →
    2 * g.monitorRoom + (g.stack.map fun v => v.category).sum ≤ W9 → A.U.methodNamed? y = some mk → Pre A a →
    (∃ (v : Option Value) (B : Pt), Stand p l e R s m sargs below meth c B.U B.locs B.cells B.slots ∧ Post A a v B ∧
      Steps p.tables e below (doInvoke e (A.U.setTop g) [] mk a).1 (B.U.setTop { g with pc := g.pc + len, stack := v.toList ++ g.stack })) ∨
    (∃ (q : Addr) (B : Pt), Stand p l e R s m sargs below meth c B.U B.locs B.cells B.slots ∧ PostX A a q B ∧
      Steps p.tables e below (doInvoke e (A.U.setTop g) [] mk a).1 ((B.U.setTop g).pushFrame (.throwing q)))
section Payer
variable {l : Launch} {R : Room} {p : Program} {e : Env} {below : List Frame} {s : State} {sargs : Array Value} {y : MethodName} {len W9 : Nat}
theorem vx_back {ws : List Cond} {rm : Room} {Pc : Array Value → State → Prop} {Qc : Array Value → State → Outcome → State → Prop} {XC : String → State → State → Prop} {mc ms : Nat} {free : Addr → Prop} {bytes : ByteArray} {maxL : Nat} {ret : Option FieldType}
    (hM : vx_Met l y ws rm Pc Qc XC mc ms free) (hblind : FrameBlind Pc) (hrc : rm.cells = mc) (hrs : rm.slots = ms)
    (hframes : rm.frames + 1 ≤ R.frames) (hlocals : W9 + (maxL + 11) + rm.locals ≤ R.locals)
    (hws : ∀ w ∈ ws, ∀ a' U, s.WarmedH U.vm → w.before a' U = true) (hcode : Cond.code y bytes maxL ret ∈ ws) (hinit : ∀ a' U, s.WarmedH U.vm → (Cond.initialized y.cls).before a' U = true) :
    vx_Back l R p e below s sargs y len W9 (PreOf R mc ms Pc) (PostOf Qc mc ms free) (vx_Post XC mc ms free) := by
  intro m meth c A g ig mk a X hg hsize hdg hW hn hp
  have h1 : (headSpec ws rm).pre.before a A.U = true := atoms_intro fun w hw => hws w hw _ _ X.warmed
  have h2 : (Cond.code y bytes maxL ret).before a A.U = true := hws _ hcode _ _ X.warmed
  have h3 : (Cond.initialized y.cls).before a A.U = true := hinit _ _ X.warmed
  have h4 : A.cells + (headSpec ws rm).room.cells ≤ R.cells := by rw [show (headSpec ws rm).room.cells = mc from hrc]; exact hp.1
  have h5 : A.slots + (headSpec ws rm).room.slots ≤ R.slots := by rw [show (headSpec ws rm).room.slots = ms from hrs]; exact hp.2.1
  have hPc : Pc a (A.U.calling g mk a) := hblind _ _ _ _ hp.2.2
  obtain ⟨U, Ls, c0, s0⟩ := A
  dsimp only [Pt.U, Pt.locs, Pt.cells, Pt.slots] at h1 h2 h3 h4 h5 X hn hPc ⊢
  obtain ⟨methY, cY, hmY, hcY, -, hlY, -, -, -, -⟩ := Cond.code_spec hn h2
  obtain ⟨kY, hkY, -⟩ := className_of_methodNamed hn
  have hinitY : kY.init = .initialized := Cond.initialized_spec (findClass_of_methodNamed hn) hkY h3
  have h : At U g.method c below := by rw [hg]; exact X.here
  have hlocals9 : W9 + (maxL + 11) + (headSpec ws rm).room.locals ≤ R.locals := hlocals
  have happ : (headSpec ws rm).appliesLoose y e.platform (U.calling g mk a) = true :=
    Spec.appliesLoose_calling (g := g) h hdg hn hkY hinitY
      (X.room_calling (g := g) (R' := (headSpec ws rm).room) hsize hmY hcY hframes (by rw [hlY]; omega) h4 h5) h1
  obtain ⟨mid, hmid⟩ := h.above
  have hfr : (U.setTop g).frames = (.java g :: mid) ++ below := by rw [State.frames_setTop' g h.top, hmid]; rfl
  obtain ⟨o, s₂, hsteps, -, hend, hq⟩ := Steps.callFree hM p X.admits X.cas X.clock (acts := []) hfr happ hPc trivial
  have hq' : vx_Q Qc XC mc ms free a (U.calling g mk a) o s₂ := hq
  rw [State.frames_setTop' g h.top] at hend
  obtain ⟨g₀, hg0⟩ := Option.isSome_iff_exists.mp h.top
  obtain ⟨r, hr⟩ := State.topJava?_eq_some.mp hg0
  have hr' : (({ U with heap := s₂.heap, slotsUsed := s₂.slotsUsed } : State).setVm s₂.vm).frames = .java g₀ :: r := hr
  rcases hq' with ⟨hqc, L, hfe, hL⟩ | ⟨q, rfl, E, ce, L, hx, hce, hcv, hcl, hW₂, hsm, hL⟩
  · obtain ⟨⟨v, rfl⟩, hW₂, e2, q2, q3, q4, q5, q6⟩ := id hfe
    have e3 : s₂ = ({ (U.calling g mk a).setFrames s₂.frames with heap := s₂.heap, slotsUsed := s₂.slotsUsed } : State).setVm s₂.vm := by
      have : s₂ = ({ s₂ with vm := (U.calling g mk a).vm } : State).setVm s₂.vm := rfl
      rw [e2] at this
      exact this
    obtain ⟨c₂, i₂, len₂, hc₂, hd₂, hf₂⟩ := hend
    have hW' : U.WarmedH s₂.vm := hW₂
    have hcc : c₂ = c := by
      have h1 : s₂.code? g.method = U.code? g.method := by
        rw [State.code?_eq, State.code?_eq, hW'.alike.method?]
      exact Option.some.inj (hc₂.symm.trans (h1.trans h.code))
    subst hcc
    have hlen : len₂ = len := by rw [hdg] at hd₂; cases hd₂; rfl
    subst hlen
    have hs₂ : s₂ = (({ U with heap := s₂.heap, slotsUsed := s₂.slotsUsed } : State).setVm s₂.vm).setTop { g with pc := g.pc + len₂, stack := v.toList ++ g.stack } := by
      refine e3.trans ?_
      rw [hf₂, State.calling_eq h.top, State.setFrames_setFrames, State.setTop_of_frames _ hr', hr]
      rfl
    have hsame : U.sameButNew ({ U with heap := s₂.heap, slotsUsed := s₂.slotsUsed } : State) L mc ms := by
      refine ⟨?_, q2, q3, q4, q5, q6⟩
      obtain ⟨t, ht, -⟩ := State.frames_cons hr
      show ({ U with heap := s₂.heap, slotsUsed := s₂.slotsUsed } : State) = { U.setFrames U.frames with heap := s₂.heap, slotsUsed := s₂.slotsUsed }
      rw [State.setFrames_self ht]
    subst hg
    refine Or.inl ⟨v, ⟨(({ U with heap := s₂.heap, slotsUsed := s₂.slotsUsed } : State).setVm s₂.vm), Ls ++ L, c0 + mc, s0 + ms⟩,
      ⟨X.admits, X.cas, X.clock, X.frames, X.room, X.hears, X.method, X.code, (X.here.setHeapUsed s₂.heap s₂.slotsUsed).setVm hW'.alike, X.tail, State.WarmedH.trans X.warmed hW', X.limits, X.bytes, X.same.trans (hsame.setVm s.vm)⟩,
      ⟨g, mk, s₂, L, rfl, rfl, hqc, rfl, hL, rfl, rfl⟩, ?_⟩
    show Steps p.tables e below _ ((({ U with heap := s₂.heap, slotsUsed := s₂.slotsUsed } : State).setVm s₂.vm).setTop { g with pc := g.pc + len₂, stack := v.toList ++ g.stack })
    rw [← hs₂]
    exact hsteps
  · obtain ⟨e2, q2, q3, q4, q5, q6⟩ := id hsm
    have e3 : s₂ = ({ (U.calling g mk a).setFrames s₂.frames with heap := s₂.heap, slotsUsed := s₂.slotsUsed } : State).setVm s₂.vm := by
      have : s₂ = ({ s₂ with vm := (U.calling g mk a).vm } : State).setVm s₂.vm := rfl
      rw [e2] at this
      exact this
    have hf₂ : s₂.frames = .throwing q :: .java g :: U.frames.tail := hend
    have hW' : U.WarmedH s₂.vm := hW₂
    have hs₂ : s₂ = ((({ U with heap := s₂.heap, slotsUsed := s₂.slotsUsed } : State).setVm s₂.vm).setTop g).pushFrame (.throwing q) := by
      refine e3.trans ?_
      rw [hf₂, State.calling_eq h.top, State.setFrames_setFrames, State.pushFrame, State.frames_setTop _ hr', State.setTop_of_frames _ hr', State.setFrames_setFrames, hr]
      rfl
    have hsame : U.sameButNew ({ U with heap := s₂.heap, slotsUsed := s₂.slotsUsed } : State) L mc ms := by
      refine ⟨?_, q2, q3, q4, q5, q6⟩
      obtain ⟨t, ht, -⟩ := State.frames_cons hr
      show ({ U with heap := s₂.heap, slotsUsed := s₂.slotsUsed } : State) = { U.setFrames U.frames with heap := s₂.heap, slotsUsed := s₂.slotsUsed }
      rw [State.setFrames_self ht]
    subst hg
    refine Or.inr ⟨q, ⟨(({ U with heap := s₂.heap, slotsUsed := s₂.slotsUsed } : State).setVm s₂.vm), Ls ++ L, c0 + mc, s0 + ms⟩,
      ⟨X.admits, X.cas, X.clock, X.frames, X.room, X.hears, X.method, X.code, (X.here.setHeapUsed s₂.heap s₂.slotsUsed).setVm hW'.alike, X.tail, State.WarmedH.trans X.warmed hW', X.limits, X.bytes, X.same.trans (hsame.setVm s.vm)⟩,
      ⟨g, mk, s₂, L, E, ce, rfl, rfl, hx, hce, hcv, hcl, rfl, hL, rfl, rfl⟩, ?_⟩
    show Steps p.tables e below _ (((({ U with heap := s₂.heap, slotsUsed := s₂.slotsUsed } : State).setVm s₂.vm).setTop g).pushFrame (.throwing q))
    rw [← hs₂]
    exact hsteps
end Payer
section Calls
variable {p : Program} {l : Launch} {e : Env} {R : Room} {s : State} {m : MethodId} {args : Array Value} {below : List Frame} {meth : Method} {c : Code} {T : State} {locs : List Loc} {cells slots : Nat}
theorem vx_callV (X : Stand p l e R s m args below meth c T locs cells slots) (hexec : p.tables.exec = Jvm.exec) {own C : String} {index : Nat} {y : MethodName} {bytes : ByteArray} {maxL : Nat} {ret : Option FieldType}
    (hown : s.vm.findClass own = some m.cls) (hlink : (Cond.methodLink own index y).before args s = true) (hinst : (Cond.instanceMethod y).before args s = true) (hsel : (Cond.selects C y y).before args s = true)
    (hcode : (Cond.code y bytes maxL ret).before args s = true) (hy : y.cls ≠ "java/lang/invoke/MethodHandle" ∧ y.cls ≠ "java/lang/invoke/VarHandle")
    {W9 : Nat} {Pre : Pt → Array Value → Prop} {Post : Pt → Array Value → Option Value → Pt → Prop} {PostX : Pt → Array Value → Addr → Pt → Prop} (hK : vx_Back l R p e below s args y 3 W9 Pre Post PostX)
    {b : Addr} {cellB : Cell} (hcell : T.heap[b]? = some cellB) (hobj : cellB.vm.isStatics = false) (hcls : s.vm.findClass C = some cellB.cls)
    {g : JFrame} (hg : g.method = m) (hsize : g.locals.size = c.maxLocals) {argsL rest : List Value} (hlen : ∀ sig, parseMethodDescriptor y.desc = some sig → argsL.length = sig.parameters.length)
    (hstack : g.stack = argsL.reverse ++ .ref b :: rest) (hW : 2 * g.monitorRoom + (rest.map fun v => v.category).sum ≤ W9) (hdg : decode c.code g.pc = .ok (.invokevirtual index, 3))
    (hpre : ∀ vm₁, s.WarmedH vm₁ → Pre ⟨T.setVm vm₁, locs, cells, slots⟩ (Value.ref b :: argsL).toArray) :
    (∃ (v : Option Value) (vm₁ : Vm) (B : Pt), s.WarmedH vm₁ ∧ Stand p l e R s m args below meth c B.U B.locs B.cells B.slots ∧ Post ⟨T.setVm vm₁, locs, cells, slots⟩ (Value.ref b :: argsL).toArray v B ∧
      ∀ target, Steps p.tables e below (B.U.setTop { g with pc := g.pc + 3, stack := v.toList ++ rest }) target → Steps p.tables e below (T.setTop g) target) ∨
    (∃ (q : Addr) (vm₁ : Vm) (B : Pt), s.WarmedH vm₁ ∧ Stand p l e R s m args below meth c B.U B.locs B.cells B.slots ∧ PostX ⟨T.setVm vm₁, locs, cells, slots⟩ (Value.ref b :: argsL).toArray q B ∧
      Steps p.tables e below (T.setTop g) ((B.U.setTop { g with stack := rest }).pushFrame (.throwing q))) := by
  obtain ⟨mk, methM, hnamed, hmethM, hstM, habM⟩ := Cond.instanceMethod_spec hinst
  obtain ⟨methM', cM, hmethM', -, -, -, -, -, -, hsigM⟩ := Cond.code_spec hnamed hcode
  cases hmethM.symm.trans hmethM'
  obtain ⟨c2, r2, m2, q1, q2, q3, q4, kP, hkP, hkPi⟩ := Cond.selects_spec hsel
  cases hcls.symm.trans q1
  cases (State.methodFound?_of_named hnamed hy).symm.trans q2
  cases hnamed.symm.trans q3
  have hselP : selectMethod e.platform s.vm cellB.cls mk = .method mk := by rw [Launch.admits_selectMethod X.admits]; exact q4
  obtain ⟨vm₁, X₁, hstep₁⟩ := X.invokevirtual hexec hown hlink hnamed hmethM hstM hkP hkPi hy (a := b) (cell := cellB) hcell
    (fun z h => by rw [h] at hobj; cases hobj) hselP hmethM habM hkP hkPi (g := g) hg (argsL := argsL) (rest := rest) (hlen _ hsigM) hstack hdg
  rcases hK m meth c ⟨T.setVm vm₁, locs, cells, slots⟩ { g with stack := rest } (.invokevirtual index) mk (Value.ref b :: argsL).toArray X₁ hg hsize hdg hW (X₁.named hnamed) (hpre vm₁ X₁.warmed) with ⟨v, B, X', hpost, hsteps⟩ | ⟨q, B, X', hpost, hsteps⟩
  · exact Or.inl ⟨v, vm₁, B, X₁.warmed, X', hpost, fun target h => hstep₁ _ fun acts => by rw [doInvoke_state]; exact hsteps.trans h⟩
  · exact Or.inr ⟨q, vm₁, B, X₁.warmed, X', hpost, hstep₁ _ fun acts => by rw [doInvoke_state]; exact hsteps⟩
theorem vx_callS (X : Stand p l e R s m args below meth c T locs cells slots) (hexec : p.tables.exec = Jvm.exec) {own : String} {index : Nat} {y : MethodName} {bytes : ByteArray} {maxL : Nat} {ret : Option FieldType}
    (hown : s.vm.findClass own = some m.cls) (hlink : (Cond.methodLink own index y).before args s = true) (hstat : (Cond.static y).before args s = true) (hinit : (Cond.initialized y.cls).before args s = true)
    (hcode : (Cond.code y bytes maxL ret).before args s = true) (hy : y.cls ≠ "java/lang/invoke/MethodHandle" ∧ y.cls ≠ "java/lang/invoke/VarHandle")
    {W9 : Nat} {Pre : Pt → Array Value → Prop} {Post : Pt → Array Value → Option Value → Pt → Prop} {PostX : Pt → Array Value → Addr → Pt → Prop} (hK : vx_Back l R p e below s args y 3 W9 Pre Post PostX)
    {g : JFrame} (hg : g.method = m) (hsize : g.locals.size = c.maxLocals) {argsL rest : List Value} (hlen : ∀ sig, parseMethodDescriptor y.desc = some sig → argsL.length = sig.parameters.length)
    (hstack : g.stack = argsL.reverse ++ rest) (hW : 2 * g.monitorRoom + (rest.map fun v => v.category).sum ≤ W9) (hdg : decode c.code g.pc = .ok (.invokestatic index, 3))
    (hpre : ∀ vm₁, s.WarmedH vm₁ → Pre ⟨T.setVm vm₁, locs, cells, slots⟩ argsL.toArray) :
    (∃ (v : Option Value) (vm₁ : Vm) (B : Pt), s.WarmedH vm₁ ∧ Stand p l e R s m args below meth c B.U B.locs B.cells B.slots ∧ Post ⟨T.setVm vm₁, locs, cells, slots⟩ argsL.toArray v B ∧
      ∀ target, Steps p.tables e below (B.U.setTop { g with pc := g.pc + 3, stack := v.toList ++ rest }) target → Steps p.tables e below (T.setTop g) target) ∨
    (∃ (q : Addr) (vm₁ : Vm) (B : Pt), s.WarmedH vm₁ ∧ Stand p l e R s m args below meth c B.U B.locs B.cells B.slots ∧ PostX ⟨T.setVm vm₁, locs, cells, slots⟩ argsL.toArray q B ∧
      Steps p.tables e below (T.setTop g) ((B.U.setTop { g with stack := rest }).pushFrame (.throwing q))) := by
  obtain ⟨mk, hnamed⟩ := Cond.code_named hcode
  obtain ⟨methM, cM, hmethM, -, -, -, -, -, -, hsigM⟩ := Cond.code_spec hnamed hcode
  have hstatic : methM.isStatic = true := Cond.static_spec hnamed hmethM hstat
  obtain ⟨kP, hkP, -⟩ := className_of_methodNamed hnamed
  have hinitP : kP.init = .initialized := Cond.initialized_spec (findClass_of_methodNamed hnamed) hkP hinit
  obtain ⟨vm₁, X₁, hstep₁⟩ := X.invokestatic hexec hown hlink hnamed hmethM hstatic hkP hinitP hy (g := g) hg (argsL := argsL) (rest := rest) (hlen _ hsigM) hstack hdg
  rcases hK m meth c ⟨T.setVm vm₁, locs, cells, slots⟩ { g with stack := rest } (.invokestatic index) mk argsL.toArray X₁ hg hsize hdg hW (X₁.named hnamed) (hpre vm₁ X₁.warmed) with ⟨v, B, X', hpost, hsteps⟩ | ⟨q, B, X', hpost, hsteps⟩
  · exact Or.inl ⟨v, vm₁, B, X₁.warmed, X', hpost, fun target h => hstep₁ _ fun acts => by rw [doInvoke_state]; exact hsteps.trans h⟩
  · exact Or.inr ⟨q, vm₁, B, X₁.warmed, X', hpost, hstep₁ _ fun acts => by rw [doInvoke_state]; exact hsteps⟩
end Calls
theorem vx_cls {s : State} {T : State} {vm₁ : Vm} {E : String} {k : ClassId} (hW : s.WarmedH vm₁) (h : (T.setVm vm₁).vm.findClass E = some k) : s.vm.findClass E = some k := by
  have h1 : vm₁.findClass E = some k := h
  rw [hW.alike.findClass] at h1
  exact h1
/-- the method's frame g, with q thrown over it -/
def vx_W (p : Program) (l : Launch) (e : Env) (R : Room) (s : State) (m : MethodId) (args : Array Value) (below : List Frame) (meth : Method) (c : Code) (H : Heap) (locs : List Loc) (cells slots : Nat) (Q : State → Prop) (g : JFrame) (q : Addr) : Prop :=
  ∀ T : State, T.heap = H → Stand p l e R s m args below meth c T locs cells slots → ∃ t, Steps p.tables e below ((T.setTop g).pushFrame (.throwing q)) t ∧ Q t
def vx_Run (p : Program) (l : Launch) (e : Env) (R : Room) (s : State) (m : MethodId) (args : Array Value) (below : List Frame) (meth : Method) (c : Code) (H : Heap) (locs : List Loc) (cells slots mc ms : Nat) (g : JFrame) (rest : List Value) (Qa : State → Outcome → State → Prop) (XC : String → State → State → Prop) (free : Addr → Prop) : Prop :=
  ∀ T : State, T.heap = H → Stand p l e R s m args below meth c T locs cells slots →
    (∃ (v : Option Value) (st₀ t T' : State) (L : List Loc), st₀.heap = H ∧ Stand p l e R s m args below meth c T' (locs ++ L) (cells + mc) (slots + ms) ∧ (∀ q ∈ L, free q.base) ∧ T'.heap = t.heap ∧ T'.vm = t.vm ∧ Qa st₀ (.returned v) t ∧
      Goes p e below T g T' { g with pc := g.pc + 3, stack := v.toList ++ rest }) ∨
    (∃ (q : Addr) (st₀ t T' : State) (L : List Loc) (E : String) (ce : Cell), st₀.heap = H ∧ Stand p l e R s m args below meth c T' (locs ++ L) (cells + mc) (slots + ms) ∧ (∀ z ∈ L, free z.base) ∧ T'.heap = t.heap ∧ T'.vm = t.vm ∧ XC E st₀ t ∧ t.heap[q]? = some ce ∧ ce.vm = .none ∧ s.vm.findClass E = some ce.cls ∧
      Steps p.tables e below (T.setTop g) ((T'.setTop { g with stack := rest }).pushFrame (.throwing q)))
def vx_X {S : Type} (px : S → Prop) (B : String → S → State → Prop) (A : Nat → Prop) : String → State → State → Prop := fun E st t => ∃ u : S, px u ∧ B E u t ∧ va_F A st t
section Runs
variable {p : Program} {l : Launch} {e : Env} {R : Room} {s : State} {m : MethodId} {args : Array Value} {below : List Frame} {meth : Method} {c : Code} {H : Heap} {locs : List Loc} {cells slots : Nat}
variable {y : MethodName} {bytes cc : ByteArray} {maxL nL mc ms n index : Nat} {ret : Option FieldType} {ws : List Cond} {rm : Room} {Pc : Array Value → State → Prop} {Qc : Array Value → State → Outcome → State → Prop} {XC : String → State → State → Prop} {free : Addr → Prop} {Ts : List Cond} {own C : String} {b : Addr} {As rest : List Value} {g : JFrame}
theorem vx_callBack (cb : CallB R s args own index y bytes maxL ret ws rm mc ms n) (hM : vx_Met l y ws rm Pc Qc XC mc ms free) (hbl : FrameBlind Pc) : vx_Back l R p e below s args y 3 8 (PreOf R mc ms Pc) (PostOf Qc mc ms free) (vx_Post XC mc ms free) := by
  obtain ⟨hrc, hrs, hfr, hlo, hws, hcw, -, hini, -⟩ := cb
  exact vx_back (bytes := bytes) (maxL := maxL) (ret := ret) hM hbl hrc hrs hfr hlo hws hcw (fun a' U hW => word_at hW (Or.inl (by first | rfl | simp [Cond.onTables, Cond.keeps, Cond.steady])) hini)
theorem vx_runV (S : CallFix p m c cc nL s args Ts own) (hM : vx_Met l y ws rm Pc Qc XC mc ms free) (cw : CallW R s args own C index y bytes maxL ret ws rm mc ms n) (hp : PreV s H C b Pc As)
    (hg : g.method = m) (hn : As.length = n) (hsize : g.locals.size = nL) (hstack : g.stack = As.reverse ++ .ref b :: rest) (hW : 2 * g.monitorRoom + (rest.map fun v => v.category).sum ≤ 8) (hdg : decode cc g.pc = .ok (.invokevirtual index, 3)) (hf : cells + mc ≤ R.cells ∧ slots + ms ≤ R.slots) :
    vx_Run p l e R s m args below meth c H locs cells slots mc ms g rest (Qc (Value.ref b :: As).toArray) XC free := by
  have hK : vx_Back l R p e below s args y 3 8 (PreOf R mc ms Pc) (PostOf Qc mc ms free) (vx_Post XC mc ms free) := vx_callBack cw.1 hM hp.1
  obtain ⟨⟨-, -, -, -, -, -, hcode, -, hy, hlen, hl⟩, hin, hse⟩ := cw
  obtain ⟨hx, hb, hml, ho, -⟩ := S
  obtain ⟨-, ⟨cellB, hcB, hoB, hclB⟩, hPc⟩ := hp
  intro T hT X
  rcases vx_callV X hx (C := C) (bytes := bytes) (maxL := maxL) (ret := ret) ho hl hin hse hcode hy hK (by rw [hT]; exact hcB) hoB hclB hg (hsize.trans hml.symm) (argsL := As) (rest := rest) (fun sig h => hn.trans (hlen sig h)) hstack hW (by rw [hb]; exact hdg)
    (fun vm₁ hW₁ => ⟨hf.1, hf.2, hPc (T.setVm vm₁) hT hW₁⟩) with ⟨v, vm₁, ⟨U', l2, c2, s2⟩, hW₁, X', ⟨g', mk, t, L, e1, e2, hq, h1, hL, h2, h3⟩, st⟩ | ⟨q, vm₁, ⟨U', l2, c2, s2⟩, hW₁, X', ⟨g', mk, t, L, E, ce, e1, e2, hq, hce, hcv, hcl, h1, hL, h2, h3⟩, st⟩
  · dsimp only [Pt.U, Pt.locs, Pt.cells, Pt.slots] at X' e1 e2 h1 h2 h3 st
    subst h1; subst h2; subst h3
    exact Or.inl ⟨v, (T.setVm vm₁).calling g' mk (Value.ref b :: As).toArray, t, U', L, hT, X', hL, e1, e2, hq, st⟩
  · dsimp only [Pt.U, Pt.locs, Pt.cells, Pt.slots] at X' e1 e2 h1 h2 h3 st hcl
    subst h1; subst h2; subst h3
    exact Or.inr ⟨q, (T.setVm vm₁).calling g' mk (Value.ref b :: As).toArray, t, U', L, E, ce, hT, X', hL, e1, e2, hq, hce, hcv, vx_cls hW₁ hcl, st⟩
theorem vx_runS (S : CallFix p m c cc nL s args Ts own) (hM : vx_Met l y ws rm Pc Qc XC mc ms free) (cw : CallB R s args own index y bytes maxL ret ws rm mc ms n ∧ (Cond.static y).before args s = true) (hp : PreS s H Pc As)
    (hg : g.method = m) (hn : As.length = n) (hsize : g.locals.size = nL) (hstack : g.stack = As.reverse ++ rest) (hW : 2 * g.monitorRoom + (rest.map fun v => v.category).sum ≤ 8) (hdg : decode cc g.pc = .ok (.invokestatic index, 3)) (hf : cells + mc ≤ R.cells ∧ slots + ms ≤ R.slots) :
    vx_Run p l e R s m args below meth c H locs cells slots mc ms g rest (Qc As.toArray) XC free := by
  have hK : vx_Back l R p e below s args y 3 8 (PreOf R mc ms Pc) (PostOf Qc mc ms free) (vx_Post XC mc ms free) := vx_callBack cw.1 hM hp.1
  obtain ⟨⟨-, -, -, -, -, -, hcode, hini, hy, hlen, hl⟩, hstt⟩ := cw
  obtain ⟨hx, hb, hml, ho, -⟩ := S
  intro T hT X
  rcases vx_callS X hx (bytes := bytes) (maxL := maxL) (ret := ret) ho hl hstt hini hcode hy hK hg (hsize.trans hml.symm) (argsL := As) (rest := rest) (fun sig h => hn.trans (hlen sig h)) hstack hW (by rw [hb]; exact hdg)
    (fun vm₁ hW₁ => ⟨hf.1, hf.2, hp.2 (T.setVm vm₁) hT hW₁⟩) with ⟨v, vm₁, ⟨U', l2, c2, s2⟩, hW₁, X', ⟨g', mk, t, L, e1, e2, hq, h1, hL, h2, h3⟩, st⟩ | ⟨q, vm₁, ⟨U', l2, c2, s2⟩, hW₁, X', ⟨g', mk, t, L, E, ce, e1, e2, hq, hce, hcv, hcl, h1, hL, h2, h3⟩, st⟩
  · dsimp only [Pt.U, Pt.locs, Pt.cells, Pt.slots] at X' e1 e2 h1 h2 h3 st
    subst h1; subst h2; subst h3
    exact Or.inl ⟨v, (T.setVm vm₁).calling g' mk As.toArray, t, U', L, hT, X', hL, e1, e2, hq, st⟩
  · dsimp only [Pt.U, Pt.locs, Pt.cells, Pt.slots] at X' e1 e2 h1 h2 h3 st hcl
    subst h1; subst h2; subst h3
    exact Or.inr ⟨q, (T.setVm vm₁).calling g' mk As.toArray, t, U', L, E, ce, hT, X', hL, e1, e2, hq, hce, hcv, vx_cls hW₁ hcl, st⟩
end Runs
section Rows
variable {p : Program} {l : Launch} {e : Env} {R : Room} {s : State} {m : MethodId} {args : Array Value} {below : List Frame} {meth : Method} {c : Code} {H : Heap} {locs : List Loc} {cells slots : Nat} {Q : State → Prop}
variable {mc ms : Nat} {free : Addr → Prop} {A0 A1 : Nat → Prop} {H0 : Heap} {a : Array Value} {pc : Nat} {ls : Array Slot} {st0 rest : List Value}
theorem vx_keep {st₀ t T' : State} {L : List Loc} (h0 : st₀.heap = H) (e1 : T'.heap = t.heap) (hS : va_S A0 H0 H locs) (hA : ∀ q, q < H.size → A1 q → A0 q) (hf : ∀ q, free q → A0 q) (hL : ∀ q ∈ L, free q.base) (hF : va_F A1 st₀ t) :
    H.size ≤ T'.heap.size ∧ (∀ q : Nat, q < H.size → ¬ A1 q → T'.heap[q]? = H[q]?) ∧ va_S A0 H0 T'.heap (locs ++ L) := by
  obtain ⟨hz, hk⟩ := hF
  rw [h0] at hz hk
  exact ⟨by rw [e1]; exact hz, fun q h1 h2 => by rw [e1]; exact hk q h1 h2,
    ⟨Nat.le_trans hS.1 (by rw [e1]; exact hz), fun q h1 h2 => by rw [e1, hk q (Nat.lt_of_lt_of_le h1 hS.1) (fun z => h2 (hA q (Nat.lt_of_lt_of_le h1 hS.1) z))]; exact hS.2.1 q h1 h2, fun q hq => by
      rcases List.mem_append.mp hq with h | h
      · exact hS.2.2 q h
      · exact hf _ (hL q h)⟩⟩
theorem vx_calli {S SX : Type} {post : Int32 → S → Prop} {px : SX → Prop} {B : S → State → Prop} {BX : String → SX → State → Prop} {AX : Nat → Prop} (hr : vx_Run p l e R s m args below meth c H locs cells slots mc ms (F0 m pc ls st0) rest (va_Qi post B A1 a) (vx_X px BX AX) free) (hS : va_S A0 H0 H locs) (hA : ∀ q, q < H.size → A1 q → A0 q) (hf : ∀ q, free q → A0 q) (hAX : ∀ q, q < H.size → AX q → A0 q)
    (kx : ∀ (E : String) (ce : Cell) (q9 : Addr) (u : SX) (t : State) (H1 : Heap) (locs1 : List Loc), t.heap = H1 → s.vm.Alike t.vm → px u → BX E u t → H.size ≤ H1.size → (∀ q : Nat, q < H.size → ¬ AX q → H1[q]? = H[q]?) → va_S A0 H0 H1 locs1 → H1[q9]? = some ce → ce.vm = .none → s.vm.findClass E = some ce.cls → vx_W p l e R s m args below meth c H1 locs1 (cells + mc) (slots + ms) Q (F0 m pc ls rest) q9)
    (kk : ∀ (r : Int32) (u : S) (t : State) (H1 : Heap) (locs1 : List Loc), t.heap = H1 → s.vm.Alike t.vm → post r u → B u t → H.size ≤ H1.size → (∀ q : Nat, q < H.size → ¬ A1 q → H1[q]? = H[q]?) → va_S A0 H0 H1 locs1 → W p l e R s m args below meth c H1 locs1 (cells + mc) (slots + ms) Q (F0 m (pc + 3) ls (.int r :: rest))) : W p l e R s m args below meth c H locs cells slots Q (F0 m pc ls st0) := by
  intro T hT X
  rcases hr T hT X with ⟨v, st₀, t, T', L, h0, X', hL, e1, e2, ⟨⟨r, u, hv, hp, hb⟩, hF⟩, st⟩ | ⟨q, st₀, t, T', L, E, ce, h0, X', hL, e1, e2, ⟨u, hp, hb, hF⟩, hce, hcv, hcl, st⟩
  · cases hv
    obtain ⟨k1, k2, k3⟩ := vx_keep h0 e1 hS hA hf hL hF
    obtain ⟨t2, a1, b1⟩ := kk r u t T'.heap (locs ++ L) e1.symm (by rw [← e2]; exact X'.warmed.alike) hp hb k1 k2 k3 T' rfl X'
    exact ⟨t2, st t2 a1, b1⟩
  · obtain ⟨k1, k2, k3⟩ := vx_keep h0 e1 hS hAX hf hL hF
    obtain ⟨t2, a1, b1⟩ := kx E ce q u t T'.heap (locs ++ L) e1.symm (by rw [← e2]; exact X'.warmed.alike) hp hb k1 k2 k3 (by rw [e1]; exact hce) hcv hcl T' rfl X'
    exact ⟨t2, st.trans a1, b1⟩
theorem vx_calll {S SX : Type} {post : Int64 → S → Prop} {px : SX → Prop} {B : S → State → Prop} {BX : String → SX → State → Prop} {AX : Nat → Prop} (hr : vx_Run p l e R s m args below meth c H locs cells slots mc ms (F0 m pc ls st0) rest (va_Ql post B A1 a) (vx_X px BX AX) free) (hS : va_S A0 H0 H locs) (hA : ∀ q, q < H.size → A1 q → A0 q) (hf : ∀ q, free q → A0 q) (hAX : ∀ q, q < H.size → AX q → A0 q)
    (kx : ∀ (E : String) (ce : Cell) (q9 : Addr) (u : SX) (t : State) (H1 : Heap) (locs1 : List Loc), t.heap = H1 → s.vm.Alike t.vm → px u → BX E u t → H.size ≤ H1.size → (∀ q : Nat, q < H.size → ¬ AX q → H1[q]? = H[q]?) → va_S A0 H0 H1 locs1 → H1[q9]? = some ce → ce.vm = .none → s.vm.findClass E = some ce.cls → vx_W p l e R s m args below meth c H1 locs1 (cells + mc) (slots + ms) Q (F0 m pc ls rest) q9)
    (kk : ∀ (r : Int64) (u : S) (t : State) (H1 : Heap) (locs1 : List Loc), t.heap = H1 → s.vm.Alike t.vm → post r u → B u t → H.size ≤ H1.size → (∀ q : Nat, q < H.size → ¬ A1 q → H1[q]? = H[q]?) → va_S A0 H0 H1 locs1 → W p l e R s m args below meth c H1 locs1 (cells + mc) (slots + ms) Q (F0 m (pc + 3) ls (.long r :: rest))) : W p l e R s m args below meth c H locs cells slots Q (F0 m pc ls st0) := by
  intro T hT X
  rcases hr T hT X with ⟨v, st₀, t, T', L, h0, X', hL, e1, e2, ⟨⟨r, u, hv, hp, hb⟩, hF⟩, st⟩ | ⟨q, st₀, t, T', L, E, ce, h0, X', hL, e1, e2, ⟨u, hp, hb, hF⟩, hce, hcv, hcl, st⟩
  · cases hv
    obtain ⟨k1, k2, k3⟩ := vx_keep h0 e1 hS hA hf hL hF
    obtain ⟨t2, a1, b1⟩ := kk r u t T'.heap (locs ++ L) e1.symm (by rw [← e2]; exact X'.warmed.alike) hp hb k1 k2 k3 T' rfl X'
    exact ⟨t2, st t2 a1, b1⟩
  · obtain ⟨k1, k2, k3⟩ := vx_keep h0 e1 hS hAX hf hL hF
    obtain ⟨t2, a1, b1⟩ := kx E ce q u t T'.heap (locs ++ L) e1.symm (by rw [← e2]; exact X'.warmed.alike) hp hb k1 k2 k3 (by rw [e1]; exact hce) hcv hcl T' rfl X'
    exact ⟨t2, st.trans a1, b1⟩
theorem vx_callf {S SX : Type} {post : UInt32 → S → Prop} {px : SX → Prop} {B : S → State → Prop} {BX : String → SX → State → Prop} {AX : Nat → Prop} (hr : vx_Run p l e R s m args below meth c H locs cells slots mc ms (F0 m pc ls st0) rest (va_Qf post B A1 a) (vx_X px BX AX) free) (hS : va_S A0 H0 H locs) (hA : ∀ q, q < H.size → A1 q → A0 q) (hf : ∀ q, free q → A0 q) (hAX : ∀ q, q < H.size → AX q → A0 q)
    (kx : ∀ (E : String) (ce : Cell) (q9 : Addr) (u : SX) (t : State) (H1 : Heap) (locs1 : List Loc), t.heap = H1 → s.vm.Alike t.vm → px u → BX E u t → H.size ≤ H1.size → (∀ q : Nat, q < H.size → ¬ AX q → H1[q]? = H[q]?) → va_S A0 H0 H1 locs1 → H1[q9]? = some ce → ce.vm = .none → s.vm.findClass E = some ce.cls → vx_W p l e R s m args below meth c H1 locs1 (cells + mc) (slots + ms) Q (F0 m pc ls rest) q9)
    (kk : ∀ (r : UInt32) (u : S) (t : State) (H1 : Heap) (locs1 : List Loc), t.heap = H1 → s.vm.Alike t.vm → post r u → B u t → H.size ≤ H1.size → (∀ q : Nat, q < H.size → ¬ A1 q → H1[q]? = H[q]?) → va_S A0 H0 H1 locs1 → W p l e R s m args below meth c H1 locs1 (cells + mc) (slots + ms) Q (F0 m (pc + 3) ls (.float r :: rest))) : W p l e R s m args below meth c H locs cells slots Q (F0 m pc ls st0) := by
  intro T hT X
  rcases hr T hT X with ⟨v, st₀, t, T', L, h0, X', hL, e1, e2, ⟨⟨r, u, hv, hp, hb⟩, hF⟩, st⟩ | ⟨q, st₀, t, T', L, E, ce, h0, X', hL, e1, e2, ⟨u, hp, hb, hF⟩, hce, hcv, hcl, st⟩
  · cases hv
    obtain ⟨k1, k2, k3⟩ := vx_keep h0 e1 hS hA hf hL hF
    obtain ⟨t2, a1, b1⟩ := kk r u t T'.heap (locs ++ L) e1.symm (by rw [← e2]; exact X'.warmed.alike) hp hb k1 k2 k3 T' rfl X'
    exact ⟨t2, st t2 a1, b1⟩
  · obtain ⟨k1, k2, k3⟩ := vx_keep h0 e1 hS hAX hf hL hF
    obtain ⟨t2, a1, b1⟩ := kx E ce q u t T'.heap (locs ++ L) e1.symm (by rw [← e2]; exact X'.warmed.alike) hp hb k1 k2 k3 (by rw [e1]; exact hce) hcv hcl T' rfl X'
    exact ⟨t2, st.trans a1, b1⟩
theorem vx_calld {S SX : Type} {post : UInt64 → S → Prop} {px : SX → Prop} {B : S → State → Prop} {BX : String → SX → State → Prop} {AX : Nat → Prop} (hr : vx_Run p l e R s m args below meth c H locs cells slots mc ms (F0 m pc ls st0) rest (va_Qd post B A1 a) (vx_X px BX AX) free) (hS : va_S A0 H0 H locs) (hA : ∀ q, q < H.size → A1 q → A0 q) (hf : ∀ q, free q → A0 q) (hAX : ∀ q, q < H.size → AX q → A0 q)
    (kx : ∀ (E : String) (ce : Cell) (q9 : Addr) (u : SX) (t : State) (H1 : Heap) (locs1 : List Loc), t.heap = H1 → s.vm.Alike t.vm → px u → BX E u t → H.size ≤ H1.size → (∀ q : Nat, q < H.size → ¬ AX q → H1[q]? = H[q]?) → va_S A0 H0 H1 locs1 → H1[q9]? = some ce → ce.vm = .none → s.vm.findClass E = some ce.cls → vx_W p l e R s m args below meth c H1 locs1 (cells + mc) (slots + ms) Q (F0 m pc ls rest) q9)
    (kk : ∀ (r : UInt64) (u : S) (t : State) (H1 : Heap) (locs1 : List Loc), t.heap = H1 → s.vm.Alike t.vm → post r u → B u t → H.size ≤ H1.size → (∀ q : Nat, q < H.size → ¬ A1 q → H1[q]? = H[q]?) → va_S A0 H0 H1 locs1 → W p l e R s m args below meth c H1 locs1 (cells + mc) (slots + ms) Q (F0 m (pc + 3) ls (.double r :: rest))) : W p l e R s m args below meth c H locs cells slots Q (F0 m pc ls st0) := by
  intro T hT X
  rcases hr T hT X with ⟨v, st₀, t, T', L, h0, X', hL, e1, e2, ⟨⟨r, u, hv, hp, hb⟩, hF⟩, st⟩ | ⟨q, st₀, t, T', L, E, ce, h0, X', hL, e1, e2, ⟨u, hp, hb, hF⟩, hce, hcv, hcl, st⟩
  · cases hv
    obtain ⟨k1, k2, k3⟩ := vx_keep h0 e1 hS hA hf hL hF
    obtain ⟨t2, a1, b1⟩ := kk r u t T'.heap (locs ++ L) e1.symm (by rw [← e2]; exact X'.warmed.alike) hp hb k1 k2 k3 T' rfl X'
    exact ⟨t2, st t2 a1, b1⟩
  · obtain ⟨k1, k2, k3⟩ := vx_keep h0 e1 hS hAX hf hL hF
    obtain ⟨t2, a1, b1⟩ := kx E ce q u t T'.heap (locs ++ L) e1.symm (by rw [← e2]; exact X'.warmed.alike) hp hb k1 k2 k3 (by rw [e1]; exact hce) hcv hcl T' rfl X'
    exact ⟨t2, st.trans a1, b1⟩
theorem vx_callv {S SX : Type} {post : S → Prop} {px : SX → Prop} {B : S → State → Prop} {BX : String → SX → State → Prop} {AX : Nat → Prop} (hr : vx_Run p l e R s m args below meth c H locs cells slots mc ms (F0 m pc ls st0) rest (va_Qv post B A1 a) (vx_X px BX AX) free) (hS : va_S A0 H0 H locs) (hA : ∀ q, q < H.size → A1 q → A0 q) (hf : ∀ q, free q → A0 q) (hAX : ∀ q, q < H.size → AX q → A0 q)
    (kx : ∀ (E : String) (ce : Cell) (q9 : Addr) (u : SX) (t : State) (H1 : Heap) (locs1 : List Loc), t.heap = H1 → s.vm.Alike t.vm → px u → BX E u t → H.size ≤ H1.size → (∀ q : Nat, q < H.size → ¬ AX q → H1[q]? = H[q]?) → va_S A0 H0 H1 locs1 → H1[q9]? = some ce → ce.vm = .none → s.vm.findClass E = some ce.cls → vx_W p l e R s m args below meth c H1 locs1 (cells + mc) (slots + ms) Q (F0 m pc ls rest) q9)
    (kk : ∀ (u : S) (t : State) (H1 : Heap) (locs1 : List Loc), t.heap = H1 → s.vm.Alike t.vm → post u → B u t → H.size ≤ H1.size → (∀ q : Nat, q < H.size → ¬ A1 q → H1[q]? = H[q]?) → va_S A0 H0 H1 locs1 → W p l e R s m args below meth c H1 locs1 (cells + mc) (slots + ms) Q (F0 m (pc + 3) ls (rest))) : W p l e R s m args below meth c H locs cells slots Q (F0 m pc ls st0) := by
  intro T hT X
  rcases hr T hT X with ⟨v, st₀, t, T', L, h0, X', hL, e1, e2, ⟨⟨u, hv, hp, hb⟩, hF⟩, st⟩ | ⟨q, st₀, t, T', L, E, ce, h0, X', hL, e1, e2, ⟨u, hp, hb, hF⟩, hce, hcv, hcl, st⟩
  · cases hv
    obtain ⟨k1, k2, k3⟩ := vx_keep h0 e1 hS hA hf hL hF
    obtain ⟨t2, a1, b1⟩ := kk u t T'.heap (locs ++ L) e1.symm (by rw [← e2]; exact X'.warmed.alike) hp hb k1 k2 k3 T' rfl X'
    exact ⟨t2, st t2 a1, b1⟩
  · obtain ⟨k1, k2, k3⟩ := vx_keep h0 e1 hS hAX hf hL hF
    obtain ⟨t2, a1, b1⟩ := kx E ce q u t T'.heap (locs ++ L) e1.symm (by rw [← e2]; exact X'.warmed.alike) hp hb k1 k2 k3 (by rw [e1]; exact hce) hcv hcl T' rfl X'
    exact ⟨t2, st.trans a1, b1⟩
/-- caught by the row x of this method's table; the rows ahead don't take it -/
theorem vx_catch {own name : String} {E : String} {ce : Cell} {q : Addr} (hown : s.vm.findClass own = some m.cls) (pre : List ExceptionTableEntry) (x : ExceptionTableEntry) (suf : List ExceptionTableEntry) (hsplit : c.exceptionTable.toList = pre ++ x :: suf)
    (hpass : ∀ z ∈ pre, covers z pc = false ∨ (z.catchType ≠ 0 ∧ ∃ nm : String, (Cond.classLink own z.catchType nm).before args s = true ∧ va_Nc E nm s)) (hx : covers x pc = true) (h0 : x.catchType ≠ 0)
    (hlink : (Cond.classLink own x.catchType name).before args s = true) (hcast : (Cond.castable E name).before args s = true) (hcell : H[q]? = some ce) (hv : ce.vm = .none) (hcl : s.vm.findClass E = some ce.cls)
    (kk : W p l e R s m args below meth c H locs cells slots Q (F0 m x.handlerPc ls [.ref q])) : vx_W p l e R s m args below meth c H locs cells slots Q (F0 m pc ls rest) q := by
  intro T hT X
  have hpl : e.platform.magicAccessors = ({} : Platform).magicAccessors := by rw [X.admits.platform]
  obtain ⟨c3, c4, hc3, hc4, hasg⟩ := Cond.castable_spec hcast
  cases Option.some.inj (hc3.symm.trans hcl)
  obtain ⟨c5, hc5, hcl5⟩ := Cond.classLink_spec hown hlink e.platform hpl
  cases Option.some.inj (hc4.symm.trans hc5)
  obtain ⟨vm', X', st⟩ := X.thenCaughtThrough q (g := F0 m pc ls rest) rfl (Steps.refl _) (by rw [hT]; exact hcell) (by rw [hv]; rfl) (by obtain ⟨k9, h9, -⟩ := Vm.findClass_spec hcl; exact ⟨k9, h9⟩) pre x suf hsplit
    (fun z hz => by
      rcases hpass z hz with h | ⟨hz0, nm, hl1, hn1⟩
      · exact Or.inl h
      · obtain ⟨c6, hc6, hcl6⟩ := Cond.classLink_spec hown hl1 e.platform hpl
        obtain ⟨a8, b8, h1, h2, h3⟩ := hn1
        cases Option.some.inj (h1.symm.trans hcl)
        cases Option.some.inj (h2.symm.trans hc6)
        exact Or.inr ⟨hz0, _, hcl6, h3⟩) hx (Or.inr ⟨h0, c4, hcl5, hasg⟩)
  obtain ⟨t, a1, b1⟩ := kk (T.setVm vm') hT X'
  exact ⟨t, st.trans a1, b1⟩
end Rows
section Ends
variable {p : Program} {l : Launch} {e : Env} {R : Room} {s : State} {m : MethodId} {args : Array Value} {below : List Frame} {meth : Method} {c : Code} {H : Heap} {locs : List Loc} {cells slots : Nat} {Q : State → Prop}
variable {mc ms : Nat} {free : Addr → Prop} {A0 A1 : Nat → Prop} {H0 : Heap} {a : Array Value} {ls : Array Slot} {st0 rest : List Value}
variable {Qc : Array Value → State → Outcome → State → Prop} {XC : String → State → State → Prop}
/-- what a body that may throw owes at its end -/
def vx_MQ (below : List Frame) (Qc : Array Value → State → Outcome → State → Prop) (XC : String → State → State → Prop) (a : Array Value) (s : State) (mc ms : Nat) (free : Addr → Prop) : State → Prop := fun t =>
  ∃ o, t.status = .running ∧ Ended t below o ∧ vx_Q Qc XC mc ms free a s o t
theorem vx_ret {g : JFrame} {mc ms : Nat} (k : W p l e R s m args below meth c H locs cells slots (MQ below Qc args s mc ms free) g) : W p l e R s m args below meth c H locs cells slots (vx_MQ below Qc XC args s mc ms free) g := by
  intro T hT X
  obtain ⟨t, a1, o, b1, b2, b3, b4⟩ := k T hT X
  exact ⟨t, a1, o, b1, b2, Or.inl ⟨b3, b4⟩⟩
/-- not caught here: it goes on to the caller -/
theorem vx_widen {g : JFrame} {q : Addr} {k n : Nat} (h1 : cells ≤ k) (h2 : slots ≤ n) (kk : vx_W p l e R s m args below meth c H locs k n Q g q) : vx_W p l e R s m args below meth c H locs cells slots Q g q := fun T hT X => kk T hT (stand_widen X h1 h2)
theorem vx_out {pc : Nat} {E : String} {ce : Cell} {q : Addr} {mc ms : Nat} (hout : ∀ x ∈ c.exceptionTable.toList, covers x pc = false) (hlocks : meth.locks = false) (hcell : H[q]? = some ce) (hv : ce.vm = .none) (hcl : s.vm.findClass E = some ce.cls)
    (hx : ∀ t : State, t.heap = H → s.vm.Alike t.vm → XC E s t) (hf : ∀ z ∈ locs, free z.base) (hc : cells ≤ mc) (hs : slots ≤ ms) :
    vx_W p l e R s m args below meth c H locs cells slots (vx_MQ below Qc XC args s mc ms free) (F0 m pc ls rest) q := by
  intro T hT X
  obtain ⟨st1, hrun, hend, hW, hsm⟩ := X.leaveThrown q (g := F0 m pc ls rest) rfl rfl rfl hout hlocks
  have hcell9 : (T.setFrames (.throwing q :: below)).heap[q]? = some ce := by
    show T.heap[q]? = some ce
    rw [hT]; exact hcell
  exact ⟨_, st1, .threw q, hrun, hend, Or.inr ⟨q, rfl, E, ce, locs, hx _ hT hW.alike, hcell9, hv, hcl, hW, hsm.mono hc hs, hf⟩⟩
theorem vx_frame {U : State} {k n : Nat} (h : s.sameButNew ({ U with vm := s.vm } : State) locs k n) : s.heap.size ≤ U.heap.size ∧ ∀ q : Nat, q < s.heap.size → (∀ z ∈ locs, z.base ≠ q) → U.heap[q]? = s.heap[q]? := by
  obtain ⟨-, h2, -, -, -, h6⟩ := h
  refine ⟨h2, fun q hq hz => ?_⟩
  obtain ⟨c9, e1, e2, e3, e4⟩ := h6 q _ (Array.getElem?_eq_getElem hq)
  have hs : c9.slots = (s.heap[q]).slots := Array.ext_getElem? fun i => e4 i fun hm => hz _ hm rfl
  have h9 : c9 = s.heap[q] := by
    rw [hs] at e2
    exact e2
  have e5 : U.heap[q]? = some c9 := e1
  rw [e5, h9, Array.getElem?_eq_getElem hq]
/-- the words of a throw but the four that speak of the heap -/
def vx_no (w : Cond) : Bool := decide (w ≠ .isRef (.static Bundle.tN "UNASSIGNED_STACK" Bundle.steD)) && decide (w ≠ .isRef (.static Bundle.tN "SUPPRESSED_SENTINEL" Bundle.listD)) && decide (w ≠ .laysStatic Bundle.tN "UNASSIGNED_STACK" Bundle.steD) && decide (w ≠ .laysStatic Bundle.tN "SUPPRESSED_SENTINEL" Bundle.listD)
def vx_at0 (own : String) (ic : Nat) (X : String) (names : List String) : List Cond := (Bundle.ownAtoms0 own ic X names).filter vx_no
def vx_atS (own : String) (ic : Nat) (X : String) (names : List String) : List Cond := (Bundle.ownAtoms own ic X names).filter vx_no
/-- a word that the tables alone decide, or a good one -/
def vx_ot (w : Cond) : Bool := w.onTables || goodWord w
theorem vx_ot_at {args a' : Array Value} {s U : State} {w : Cond} (hW : s.WarmedH U.vm) (hvm : s.vm = U.vm) (hg : vx_ot w = true) (h : w.before args s = true) : w.before a' U = true := by
  simp only [vx_ot, Bool.or_eq_true] at hg
  rcases hg with hg | hg
  · exact va_tabs hg hvm h
  · exact word_at hW (good_of_word hg) h
/-- a list's words: the good ones out of the method's own list, the others by premises of their own -/
theorem vx_hat {args : Array Value} {s : State} {L B : List Cond} (h1 : ∀ w ∈ L.filter goodWord, w.before args s = true) (h2 : ∀ w ∈ L.filter (fun w => !goodWord w), w ∈ B) (h3 : ∀ w ∈ B, w.before args s = true) : ∀ w ∈ L, w.before args s = true := by
  intro w hw
  by_cases g : goodWord w = true
  · exact h1 w (List.mem_filter.mpr ⟨hw, g⟩)
  · refine h3 w (h2 w (List.mem_filter.mpr ⟨hw, ?_⟩))
    show (!goodWord w) = true
    cases hgw : goodWord w
    · rfl
    · exact absurd hgw g
theorem vx_c {args : Array Value} {s : State} {w : Cond} {B : List Cond} (h : w.before args s = true) (t : ∀ w ∈ B, w.before args s = true) : ∀ w' ∈ w :: B, w'.before args s = true := fun w' h' => (List.mem_cons.mp h').elim (fun e => by rw [e]; exact h) (t w')
theorem vx_n {args : Array Value} {s : State} : ∀ w ∈ ([] : List Cond), w.before args s = true := fun _ h => nomatch h
theorem vx_own {args : Array Value} {s : State} {L : List Cond} (h1 : ∀ w ∈ L.filter vx_no, w.before args s = true)
    (hU : (Cond.isRef (.static Bundle.tN "UNASSIGNED_STACK" Bundle.steD)).before args s = true) (hN : (Cond.isRef (.static Bundle.tN "SUPPRESSED_SENTINEL" Bundle.listD)).before args s = true)
    (lU : (Cond.laysStatic Bundle.tN "UNASSIGNED_STACK" Bundle.steD).before args s = true) (lN : (Cond.laysStatic Bundle.tN "SUPPRESSED_SENTINEL" Bundle.listD).before args s = true) : ∀ w ∈ L, w.before args s = true := by
  intro w hw
  by_cases e1 : w = .isRef (.static Bundle.tN "UNASSIGNED_STACK" Bundle.steD)
  · rw [e1]; exact hU
  · by_cases e2 : w = .isRef (.static Bundle.tN "SUPPRESSED_SENTINEL" Bundle.listD)
    · rw [e2]; exact hN
    · by_cases e3 : w = .laysStatic Bundle.tN "UNASSIGNED_STACK" Bundle.steD
      · rw [e3]; exact lU
      · by_cases e4 : w = .laysStatic Bundle.tN "SUPPRESSED_SENTINEL" Bundle.listD
        · rw [e4]; exact lN
        · exact h1 w (List.mem_filter.mpr ⟨hw, by unfold vx_no; rw [decide_eq_true e1, decide_eq_true e2, decide_eq_true e3, decide_eq_true e4]; rfl⟩)
/-- where a static field lies, its class's statics cell in H -/
def vx_L (C n d : String) (A : Nat → Prop) (U : State) (H : Heap) : Prop := ∃ (c : ClassId) (k : Class) (i : Nat) (f : Field) (a : Nat) (cell : Cell), U.vm.findClass C = some c ∧ U.fieldFound? C n d = some (c, k, i, f) ∧ f.isStatic = true ∧ k.statics = some a ∧ H[a]? = some cell ∧ cell.vm.isStatics = true ∧ cell.cls = c ∧ f.slot < cell.slots.size ∧ k.staticTypes[f.slot]? = some f.type ∧ ¬ A a
theorem vx_L.moved {C n d : String} {A : Nat → Prop} {u U : State} {H : Heap} (hvm : u.vm.Alike U.vm) (h : vx_L C n d A u H) : vx_L C n d A U H := by
  obtain ⟨c, k, i, f, a, cell, h1, h2, h3, h4, h5, h6, h7, h8, h9, h10⟩ := h
  obtain ⟨k', hi', he⟩ := State.fieldFound?_setVm hvm h2
  exact ⟨c, k', i, f, a, cell, by rw [hvm.findClass]; exact h1, hi', h3, by rw [he]; exact h4, h5, h6, h7, h8, by rw [he]; exact h9, h10⟩
theorem vx_L.kept {C n d : String} {A : Nat → Prop} {U : State} {H H1 : Heap} (h : vx_L C n d A U H) (hq : ∀ a : Nat, a < H.size → ¬ A a → H1[a]? = H[a]?) : vx_L C n d A U H1 := by
  obtain ⟨c, k, i, f, a, cell, h1, h2, h3, h4, h5, h6, h7, h8, h9, h10⟩ := h
  exact ⟨c, k, i, f, a, cell, h1, h2, h3, h4, by rw [hq a (Array.getElem?_eq_some_iff.mp h5).1 h10]; exact h5, h6, h7, h8, h9, h10⟩
theorem vx_L.narrow {C n d : String} {A B : Nat → Prop} {U : State} {H : Heap} (h : vx_L C n d A U H) (hAB : ∀ q, B q → A q) : vx_L C n d B U H := by
  obtain ⟨c, k, i, f, a, cell, h1, h2, h3, h4, h5, h6, h7, h8, h9, h10⟩ := h
  exact ⟨c, k, i, f, a, cell, h1, h2, h3, h4, h5, h6, h7, h8, h9, fun z => h10 (hAB _ z)⟩
theorem vx_L.word {C n d : String} {A : Nat → Prop} {s : State} {args : Array Value} (h : vx_L C n d A s s.heap) : (Cond.laysStatic C n d).before args s = true := by
  obtain ⟨c, k, i, f, a, cell, h1, h2, h3, h4, h5, h6, h7, h8, h9, -⟩ := h
  show (Cond.laysStatic C n d).holds args s none s [] = true
  exact Cond.laysStatic_of h1 h2 h3 h4 h5 h6 h7 h8 h9
/-- .. and what it holds: null or some reference -/
def vx_Zq (C n d : String) (A : Nat → Prop) (U : State) (H : Heap) : Prop := va_Zq C n d A U H ∧ vx_L C n d A U H
theorem vx_Zq.moved {C n d : String} {A : Nat → Prop} {u U : State} {H : Heap} (hvm : u.vm.Alike U.vm) (h : vx_Zq C n d A u H) : vx_Zq C n d A U H := ⟨va_Zq.moved hvm h.1, vx_L.moved hvm h.2⟩
theorem vx_Zq.kept {C n d : String} {A : Nat → Prop} {U : State} {H H1 : Heap} (h : vx_Zq C n d A U H) (hq : ∀ a : Nat, a < H.size → ¬ A a → H1[a]? = H[a]?) : vx_Zq C n d A U H1 := ⟨va_Zq.kept h.1 hq, vx_L.kept h.2 hq⟩
theorem vx_Zq.narrow {C n d : String} {A B : Nat → Prop} {U : State} {H : Heap} (h : vx_Zq C n d A U H) (hAB : ∀ q, B q → A q) : vx_Zq C n d B U H := ⟨va_Zq.narrow h.1 hAB, vx_L.narrow h.2 hAB⟩
theorem vx_Zqof {args : Array Value} {s : State} {C n d : String} {A : Nat → Prop} (hl : (Cond.laysStatic C n d).before args s = true) (hini : (Cond.initialized C).before args s = true) (h : (Cond.isRef (.static C n d)).before args s = true) (hA : ∀ a : Nat, a < s.heap.size → ¬ A a) : vx_Zq C n d A s s.heap := by
  refine ⟨va_Zqof hl hini h hA, ?_⟩
  obtain ⟨c, k, i, f, a, cell, h1, h2, h3, h4, h5, h6, h7, h8, h9⟩ := Cond.laysStatic_spec hl
  exact ⟨c, k, i, f, a, cell, h1, h2, h3, h4, h5, h6, h7, h8, h9, hA a (Array.getElem?_eq_some_iff.mp h5).1⟩
theorem vx_isRef {C n d : String} {v : Value} {A : Nat → Prop} {s : State} {args : Array Value} (h : va_Z C n d v A s s.heap) (hv : v.isRef = true) : (Cond.isRef (.static C n d)).before args s = true := by
  obtain ⟨cf, kf, fi, f, a, cell, h1, h2, h3, h4, h5, h6, h7, -⟩ := h
  have he : (Term.static C n d).eval args s none [] s = some v := by
    simp [Term.eval, State.fieldNamed?, h1, h2, h4, h5, h6, h7]
  simp only [Cond.before, Cond.holds, Cond.value, he]
  cases v <;> simp_all [Value.isRef]
theorem vx_isRefq {C n d : String} {A : Nat → Prop} {s : State} {args : Array Value} (h : va_Zq C n d A s s.heap) : (Cond.isRef (.static C n d)).before args s = true := by
  rcases h with h | ⟨t, h⟩
  · exact vx_isRef h rfl
  · exact vx_isRef h rfl
/-- the same frame, seen from here: as if the method were called anew in this heap -/
theorem vx_rebase {T : State} (X : Stand p l e R s m args below meth c T locs cells slots) {R' : Room} (hf : R'.frames ≤ R.frames) (hl : R'.locals ≤ R.locals) (hc : cells + R'.cells ≤ R.cells) (hs : slots + R'.slots ≤ R.slots) :
    Stand p l e R' ((T.setVm s.vm).setFrames (.invoking m args :: below)) m args below meth c T [] 0 0 := by
  have htop : (T.setVm s.vm).topJava?.isSome := X.here.top
  have hF : ((T.setVm s.vm).setFrames (.invoking m args :: below)).frames = .invoking m args :: below := State.frames_setFrames _ (State.cur_lt_of_top htop)
  obtain ⟨g₀, hg0⟩ := Option.isSome_iff_exists.mp htop
  obtain ⟨r, hr⟩ := State.topJava?_eq_some.mp hg0
  have hl9 : e.platform.stackLimits (T.setVm s.vm).me = e.platform.stackLimits s.me := X.limits
  have hb9 : (T.setVm s.vm).me.stackBytes = s.me.stackBytes := X.bytes
  refine ⟨X.admits, X.cas, X.clock, hF, ?_, X.hears, X.method, X.code, X.here, X.tail, X.warmed, ?_, ?_, ?_⟩
  · have h := X.room
    have hU : ((T.setVm s.vm).setFrames (.invoking m args :: below)).localsInUse = s.localsInUse := by
      rw [State.localsInUse_invoking hF (meth := meth) (c := c) X.method X.code, State.localsInUse_invoking X.frames X.method X.code]
    simp only [State.hasRoom, Bool.and_eq_true, decide_eq_true_eq] at h ⊢
    obtain ⟨⟨⟨⟨h1, h2, h3, h4, h5, h6⟩, h7⟩, h8⟩, h9⟩ := h
    rw [X.frames, List.length_cons] at h2 h3
    have q1 := X.heapSize
    have q2 := X.used
    simp only [hF, hU, List.length_cons, State.stackLimits_setFrames, State.stackBytes_setFrames, hl9, hb9]
    refine ⟨⟨⟨⟨by omega, by omega, by omega, by omega, by omega, h6⟩, ?_⟩, ?_⟩, X.book⟩
    · show T.heap.size + R'.cells ≤ e.platform.maxCells
      omega
    · show T.slotsUsed + R'.slots ≤ e.platform.maxSlots
      omega
  · rw [State.stackLimits_setFrames]; rfl
  · rw [State.stackBytes_setFrames]; rfl
  · refine ⟨?_, Nat.le_refl _, Nat.le_refl _, ?_, ?_, fun a c9 h9 => ⟨c9, h9, rfl, rfl, fun _ _ => rfl⟩⟩
    · obtain ⟨t, ht, -⟩ := State.frames_cons hr
      show T.setVm s.vm = { ((T.setVm s.vm).setFrames (.invoking m args :: below)).setFrames (T.setVm s.vm).frames with heap := T.heap, slotsUsed := T.slotsUsed }
      rw [State.setFrames_setFrames, State.setFrames_self ht]
      rfl
    · show T.slotsUsed = T.slotsUsed + ((T.heap.toList.drop T.heap.size).map (·.slots.size)).sum
      rw [List.drop_eq_nil_of_le (Nat.le_of_eq Array.length_toList)]
      rfl
    · show ((T.heap.toList.drop T.heap.size).map (·.slots.size)).sum ≤ 0
      rw [List.drop_eq_nil_of_le (Nat.le_of_eq Array.length_toList)]
      exact Nat.le_refl _
/-- 'throw new E()': new; dup; invokespecial; athrow -/
theorem vx_throw0 {cc : ByteArray} {pc : Nat} (hexec : p.tables.exec = Jvm.exec) (hb : c.code = cc) (hl : l.stackTraces = false) {own cls : String} {names : List String} {ik ic mc ms : Nat} {A : Nat → Prop}
    (hown : s.vm.findClass own = some m.cls) (hcls : Bundle.fit cls = true) (hnames : ∀ n ∈ names, Bundle.fit n = true)
    (hk : (Cond.classLink own ik cls).before args s = true) (hini : (Cond.initialized cls).before args s = true) (hat : ∀ w ∈ vx_at0 own ic cls names, w.before args s = true)
    (hgood : ∀ w ∈ Cond.classLink own ik cls :: Cond.initialized cls :: vx_at0 own ic cls names, vx_ot w = true)
    (hU : vx_Zq Bundle.tN "UNASSIGNED_STACK" Bundle.steD A s s.heap) (hN : vx_Zq Bundle.tN "SUPPRESSED_SENTINEL" Bundle.listD A s s.heap) (hS : va_S A s.heap H locs) (hsize : ls.size = c.maxLocals)
    (d0 : decode cc pc = .ok (.new ik, 3)) (d3 : decode cc (pc + 3) = .ok (.dup, 1)) (d4 : decode cc (pc + 4) = .ok (.invokespecial ic, 3)) (d7 : decode cc (pc + 7) = .ok (.athrow, 1))
    (hout : ∀ x ∈ c.exceptionTable.toList, covers x (pc + 7) = false)
    (hRframes : names.length + 3 < R.frames) (hRlocals : (rest.map fun v => v.category).sum + (13 * (names.length + 1) + 42) ≤ R.locals) (hRcells : cells + 1 ≤ R.cells) (hRslots : slots + 6 ≤ R.slots) (hlocks : meth.locks = false)
    (hx : ∀ t : State, s.vm.Alike t.vm → H.size ≤ t.heap.size → (∀ q : Nat, q < H.size → t.heap[q]? = H[q]?) → XC cls s t)
    (hf : ∀ z ∈ locs, free z.base) (hc : cells + 1 ≤ mc) (hs : slots + 6 ≤ ms) :
    W p l e R s m args below meth c H locs cells slots (vx_MQ below Qc XC args s mc ms free) (F0 m pc ls rest) := by
  intro T hT X
  have htr : e.platform.stackTraces = false := (show e.platform.stackTraces = l.stackTraces by rw [X.admits.platform]).trans hl
  have Y := vx_rebase X (R' := { frames := R.frames, locals := R.locals, cells := 1, slots := 6 }) (Nat.le_refl _) (Nat.le_refl _) hRcells hRslots
  obtain ⟨s', hA⟩ : ∃ z, z = (T.setVm s.vm).setFrames (.invoking m args :: below) := ⟨_, rfl⟩
  rw [← hA] at Y
  have hvm : s'.vm = s.vm := by rw [hA]; rfl
  have hhp : s'.heap = H := by rw [hA]; exact hT
  have hW0 : s.WarmedH s'.vm := by rw [hvm]; exact State.WarmedH.refl s
  have hat' : ∀ w ∈ vx_at0 own ic cls names, w.before args s' = true := fun w hw => vx_ot_at hW0 hvm.symm (hgood w (List.mem_cons_of_mem _ (List.mem_cons_of_mem _ hw))) (hat w hw)
  have hk' : (Cond.classLink own ik cls).before args s' = true := vx_ot_at hW0 hvm.symm (hgood _ List.mem_cons_self) hk
  have hini' : (Cond.initialized cls).before args s' = true := vx_ot_at hW0 hvm.symm (hgood _ (List.mem_cons_of_mem _ List.mem_cons_self)) hini
  have hU' : vx_Zq Bundle.tN "UNASSIGNED_STACK" Bundle.steD A s' s'.heap := by rw [hhp]; exact vx_Zq.moved hW0.alike (hU.kept hS.2.1)
  have hN' : vx_Zq Bundle.tN "SUPPRESSED_SENTINEL" Bundle.listD A s' s'.heap := by rw [hhp]; exact vx_Zq.moved hW0.alike (hN.kept hS.2.1)
  have h : ∀ w ∈ Bundle.ownAtoms0 own ic cls names, w.before args s' = true := vx_own hat' (vx_isRefq hU'.1) (vx_isRefq hN'.1) hU'.2.word hN'.2.word
  have hown' : s'.vm.findClass own = some m.cls := by rw [hvm]; exact hown
  have hins : (Cond.instantiable cls 6).before args s' = true := h _ (by simp [Bundle.ownAtoms0])
  obtain ⟨vm₁, cX, kX, hfX, hkX, -, -, X₁, st1⟩ := Y.newCold hexec (own := own) (C := cls) (index := ik) (n := 6) hown' hk' hins hini'
    (g := F0 m pc ls rest) rfl (by rw [hb]; exact d0) (Nat.le_refl _) (Nat.le_refl _)
  generalize hT1 : (T.setVm vm₁).pushCell { cls := cX, slots := kX.instanceTypes.map defaultValue, vm := .none } = T1 at X₁ st1
  have hcat : (Value.ref T.heap.size).category = 1 := rfl
  have hcellA : T1.heap[T.heap.size]? = some (freshCell cX kX) := by rw [← hT1]; exact State.heap_pushCell_size _ _
  have d3' : decode c.code (pc + 3) = .ok (.dup, 1) := by rw [hb]; exact d3
  obtain ⟨U, hsteps, hrun, hend, hW, hsame, ce, hce, hO⟩ := X₁.ctorThrow0 hexec htr (own := own) (cls := cls) (names := names) (ic := ic) hown' hcls hnames h (fun x hx => nomatch hx) hfX hkX hcellA (by rw [hhp, hT]; exact Nat.le_refl _)
    (g := { method := m, pc := pc + 4, locals := ls, stack := .ref T.heap.size :: .ref T.heap.size :: rest, locked := none }) rfl hsize rfl rfl (rest := rest) rfl
    (by rw [hb]; exact d4) (by rw [hb]; exact d7) hout hRframes (by simp only [List.map_cons, List.sum_cons, hcat]; omega) hlocks
  obtain ⟨f1, f2⟩ := vx_frame hsame
  rw [hhp] at f1 f2
  have hWs : s.WarmedH U.vm := State.WarmedH.trans hW0 hW
  have hcl : s.vm.findClass cls = some ce.cls := by
    have h9 := hO.cls
    rw [hvm] at h9
    exact h9
  have hall : s.sameButNew ({ U with vm := s.vm } : State) locs mc ms := by
    subst hA
    obtain ⟨e1, e2⟩ := hsame
    rw [State.setFrames_setFrames] at e1
    have h2 : (T.setVm s.vm).sameButNew ({ U with vm := s.vm } : State) [] (0 + 1) (0 + 6) := ⟨e1, e2⟩
    have h3 := X.same.trans h2
    rw [List.append_nil] at h3
    exact h3.mono hc hs
  refine ⟨U, ?_, .threw T.heap.size, hrun, hend, Or.inr ⟨T.heap.size, rfl, cls, ce, locs, hx U hWs.alike f1 (fun q hq => f2 q hq (fun z hz => nomatch hz)), hce, hO.vm, hcl, hWs, hall, hf⟩⟩
  refine st1 _ ?_
  show Steps p.tables e below (T1.setTop { method := m, pc := pc + 3, locals := ls, stack := .ref T.heap.size :: rest, locked := none }) _
  jvm_step X₁.here [X₁.here.top, hexec, d3', Value.category]
  exact hsteps
/-- 'throw new E("text")': new; dup; ldc; invokespecial; athrow -/
theorem vx_throwS {cc : ByteArray} {pc : Nat} (hexec : p.tables.exec = Jvm.exec) (hb : c.code = cc) (hl : l.stackTraces = false) {own cls text : String} {names : List String} {ik is ic mc ms sa : Nat} {A : Nat → Prop}
    (hown : s.vm.findClass own = some m.cls) (hcls : Bundle.fit cls = true) (hnames : ∀ n ∈ names, Bundle.fit n = true)
    (hk : (Cond.classLink own ik cls).before args s = true) (hini : (Cond.initialized cls).before args s = true) (hstr : vk_R own is text sa s) (hat : ∀ w ∈ vx_atS own ic cls names, w.before args s = true)
    (hgood : ∀ w ∈ Cond.classLink own ik cls :: Cond.initialized cls :: vx_atS own ic cls names, vx_ot w = true)
    (hU : vx_Zq Bundle.tN "UNASSIGNED_STACK" Bundle.steD A s s.heap) (hN : vx_Zq Bundle.tN "SUPPRESSED_SENTINEL" Bundle.listD A s s.heap) (hS : va_S A s.heap H locs) (hsize : ls.size = c.maxLocals)
    (d0 : decode cc pc = .ok (.new ik, 3)) (d3 : decode cc (pc + 3) = .ok (.dup, 1)) (d4 : decode cc (pc + 4) = .ok (.ldc is, 2)) (d6 : decode cc (pc + 6) = .ok (.invokespecial ic, 3)) (d9 : decode cc (pc + 9) = .ok (.athrow, 1))
    (hout : ∀ x ∈ c.exceptionTable.toList, covers x (pc + 9) = false)
    (hRframes : names.length + 3 < R.frames) (hRlocals : (rest.map fun v => v.category).sum + (13 * (names.length + 1) + 43) ≤ R.locals) (hRcells : cells + 1 ≤ R.cells) (hRslots : slots + 6 ≤ R.slots) (hlocks : meth.locks = false)
    (hx : ∀ t : State, s.vm.Alike t.vm → H.size ≤ t.heap.size → (∀ q : Nat, q < H.size → t.heap[q]? = H[q]?) → XC cls s t)
    (hf : ∀ z ∈ locs, free z.base) (hc : cells + 1 ≤ mc) (hs : slots + 6 ≤ ms) :
    W p l e R s m args below meth c H locs cells slots (vx_MQ below Qc XC args s mc ms free) (F0 m pc ls rest) := by
  intro T hT X
  have htr : e.platform.stackTraces = false := (show e.platform.stackTraces = l.stackTraces by rw [X.admits.platform]).trans hl
  have Y := vx_rebase X (R' := { frames := R.frames, locals := R.locals, cells := 1, slots := 6 }) (Nat.le_refl _) (Nat.le_refl _) hRcells hRslots
  obtain ⟨s', hA⟩ : ∃ z, z = (T.setVm s.vm).setFrames (.invoking m args :: below) := ⟨_, rfl⟩
  rw [← hA] at Y
  have hvm : s'.vm = s.vm := by rw [hA]; rfl
  have hhp : s'.heap = H := by rw [hA]; exact hT
  have hW0 : s.WarmedH s'.vm := by rw [hvm]; exact State.WarmedH.refl s
  have hat' : ∀ w ∈ vx_atS own ic cls names, w.before args s' = true := fun w hw => vx_ot_at hW0 hvm.symm (hgood w (List.mem_cons_of_mem _ (List.mem_cons_of_mem _ hw))) (hat w hw)
  have hk' : (Cond.classLink own ik cls).before args s' = true := vx_ot_at hW0 hvm.symm (hgood _ List.mem_cons_self) hk
  have hini' : (Cond.initialized cls).before args s' = true := vx_ot_at hW0 hvm.symm (hgood _ (List.mem_cons_of_mem _ List.mem_cons_self)) hini
  have hU' : vx_Zq Bundle.tN "UNASSIGNED_STACK" Bundle.steD A s' s'.heap := by rw [hhp]; exact vx_Zq.moved hW0.alike (hU.kept hS.2.1)
  have hN' : vx_Zq Bundle.tN "SUPPRESSED_SENTINEL" Bundle.listD A s' s'.heap := by rw [hhp]; exact vx_Zq.moved hW0.alike (hN.kept hS.2.1)
  have h : ∀ w ∈ Bundle.ownAtoms own ic cls names, w.before args s' = true := vx_own hat' (vx_isRefq hU'.1) (vx_isRefq hN'.1) hU'.2.word hN'.2.word
  have hown' : s'.vm.findClass own = some m.cls := by rw [hvm]; exact hown
  have hins : (Cond.instantiable cls 6).before args s' = true := h _ (by simp [Bundle.ownAtoms])
  obtain ⟨vm₁, cX, kX, hfX, hkX, -, -, X₁, st1⟩ := Y.newCold hexec (own := own) (C := cls) (index := ik) (n := 6) hown' hk' hins hini'
    (g := F0 m pc ls rest) rfl (by rw [hb]; exact d0) (Nat.le_refl _) (Nat.le_refl _)
  generalize hT1 : (T.setVm vm₁).pushCell { cls := cX, slots := kX.instanceTypes.map defaultValue, vm := .none } = T1 at X₁ st1
  have hcat : (Value.ref T.heap.size).category = 1 := rfl
  have hcellA : T1.heap[T.heap.size]? = some (freshCell cX kX) := by rw [← hT1]; exact State.heap_pushCell_size _ _
  have d3' : decode c.code (pc + 3) = .ok (.dup, 1) := by rw [hb]; exact d3
  have d4' : decode c.code (pc + 4) = .ok (.ldc is, 2) := by rw [hb]; exact d4
  have hstr' : vk_R own is text sa s' := vk_R.warm hW0 hstr
  obtain ⟨U, hsteps, hrun, hend, hW, hsame, ce, hce, hO⟩ := X₁.ctorThrowS hexec htr (own := own) (cls := cls) (names := names) (ic := ic) hown' hcls hnames h (fun x hx => nomatch hx) hfX hkX hcellA (by rw [hhp, hT]; exact Nat.le_refl _) (msg := .ref sa) rfl
    (g := { method := m, pc := pc + 6, locals := ls, stack := .ref sa :: .ref T.heap.size :: .ref T.heap.size :: rest, locked := none }) rfl hsize rfl rfl (rest := rest) rfl
    (by rw [hb]; exact d6) (by rw [hb]; exact d9) hout hRframes (by simp only [List.map_cons, List.sum_cons, hcat]; omega) hlocks
  obtain ⟨f1, f2⟩ := vx_frame hsame
  rw [hhp] at f1 f2
  have hWs : s.WarmedH U.vm := State.WarmedH.trans hW0 hW
  have hcl : s.vm.findClass cls = some ce.cls := by
    have h9 := hO.cls
    rw [hvm] at h9
    exact h9
  have hall : s.sameButNew ({ U with vm := s.vm } : State) locs mc ms := by
    subst hA
    obtain ⟨e1, e2⟩ := hsame
    rw [State.setFrames_setFrames] at e1
    have h2 : (T.setVm s.vm).sameButNew ({ U with vm := s.vm } : State) [] (0 + 1) (0 + 6) := ⟨e1, e2⟩
    have h3 := X.same.trans h2
    rw [List.append_nil] at h3
    exact h3.mono hc hs
  refine ⟨U, ?_, .threw T.heap.size, hrun, hend, Or.inr ⟨T.heap.size, rfl, cls, ce, locs, hx U hWs.alike f1 (fun q hq => f2 q hq (fun z hz => nomatch hz)), hce, hO.vm, hcl, hWs, hall, hf⟩⟩
  refine st1 _ ?_
  show Steps p.tables e below (T1.setTop { method := m, pc := pc + 3, locals := ls, stack := .ref T.heap.size :: rest, locked := none }) _
  jvm_step X₁.here [X₁.here.top, hexec, d3', Value.category]
  exact X₁.ldcString hexec (own := own) (text := text) (index := is) (a := sa) hown' hstr'.1 hstr'.2
    (g := { method := m, pc := pc + 4, locals := ls, stack := .ref T.heap.size :: .ref T.heap.size :: rest, locked := none }) rfl d4' _ hsteps
/-- 'throw new E("text")', the text by a wide index -/
theorem vx_throwSW {cc : ByteArray} {pc : Nat} (hexec : p.tables.exec = Jvm.exec) (hb : c.code = cc) (hl : l.stackTraces = false) {own cls text : String} {names : List String} {ik is ic mc ms sa : Nat} {A : Nat → Prop}
    (hown : s.vm.findClass own = some m.cls) (hcls : Bundle.fit cls = true) (hnames : ∀ n ∈ names, Bundle.fit n = true)
    (hk : (Cond.classLink own ik cls).before args s = true) (hini : (Cond.initialized cls).before args s = true) (hstr : vk_R own is text sa s) (hat : ∀ w ∈ vx_atS own ic cls names, w.before args s = true)
    (hgood : ∀ w ∈ Cond.classLink own ik cls :: Cond.initialized cls :: vx_atS own ic cls names, vx_ot w = true)
    (hU : vx_Zq Bundle.tN "UNASSIGNED_STACK" Bundle.steD A s s.heap) (hN : vx_Zq Bundle.tN "SUPPRESSED_SENTINEL" Bundle.listD A s s.heap) (hS : va_S A s.heap H locs) (hsize : ls.size = c.maxLocals)
    (d0 : decode cc pc = .ok (.new ik, 3)) (d3 : decode cc (pc + 3) = .ok (.dup, 1)) (d4 : decode cc (pc + 4) = .ok (.ldc_w is, 3)) (d7 : decode cc (pc + 7) = .ok (.invokespecial ic, 3)) (d10 : decode cc (pc + 10) = .ok (.athrow, 1))
    (hout : ∀ x ∈ c.exceptionTable.toList, covers x (pc + 10) = false)
    (hRframes : names.length + 3 < R.frames) (hRlocals : (rest.map fun v => v.category).sum + (13 * (names.length + 1) + 43) ≤ R.locals) (hRcells : cells + 1 ≤ R.cells) (hRslots : slots + 6 ≤ R.slots) (hlocks : meth.locks = false)
    (hx : ∀ t : State, s.vm.Alike t.vm → H.size ≤ t.heap.size → (∀ q : Nat, q < H.size → t.heap[q]? = H[q]?) → XC cls s t)
    (hf : ∀ z ∈ locs, free z.base) (hc : cells + 1 ≤ mc) (hs : slots + 6 ≤ ms) :
    W p l e R s m args below meth c H locs cells slots (vx_MQ below Qc XC args s mc ms free) (F0 m pc ls rest) := by
  intro T hT X
  have htr : e.platform.stackTraces = false := (show e.platform.stackTraces = l.stackTraces by rw [X.admits.platform]).trans hl
  have Y := vx_rebase X (R' := { frames := R.frames, locals := R.locals, cells := 1, slots := 6 }) (Nat.le_refl _) (Nat.le_refl _) hRcells hRslots
  obtain ⟨s', hA⟩ : ∃ z, z = (T.setVm s.vm).setFrames (.invoking m args :: below) := ⟨_, rfl⟩
  rw [← hA] at Y
  have hvm : s'.vm = s.vm := by rw [hA]; rfl
  have hhp : s'.heap = H := by rw [hA]; exact hT
  have hW0 : s.WarmedH s'.vm := by rw [hvm]; exact State.WarmedH.refl s
  have hat' : ∀ w ∈ vx_atS own ic cls names, w.before args s' = true := fun w hw => vx_ot_at hW0 hvm.symm (hgood w (List.mem_cons_of_mem _ (List.mem_cons_of_mem _ hw))) (hat w hw)
  have hk' : (Cond.classLink own ik cls).before args s' = true := vx_ot_at hW0 hvm.symm (hgood _ List.mem_cons_self) hk
  have hini' : (Cond.initialized cls).before args s' = true := vx_ot_at hW0 hvm.symm (hgood _ (List.mem_cons_of_mem _ List.mem_cons_self)) hini
  have hU' : vx_Zq Bundle.tN "UNASSIGNED_STACK" Bundle.steD A s' s'.heap := by rw [hhp]; exact vx_Zq.moved hW0.alike (hU.kept hS.2.1)
  have hN' : vx_Zq Bundle.tN "SUPPRESSED_SENTINEL" Bundle.listD A s' s'.heap := by rw [hhp]; exact vx_Zq.moved hW0.alike (hN.kept hS.2.1)
  have h : ∀ w ∈ Bundle.ownAtoms own ic cls names, w.before args s' = true := vx_own hat' (vx_isRefq hU'.1) (vx_isRefq hN'.1) hU'.2.word hN'.2.word
  have hown' : s'.vm.findClass own = some m.cls := by rw [hvm]; exact hown
  have hins : (Cond.instantiable cls 6).before args s' = true := h _ (by simp [Bundle.ownAtoms])
  obtain ⟨vm₁, cX, kX, hfX, hkX, -, -, X₁, st1⟩ := Y.newCold hexec (own := own) (C := cls) (index := ik) (n := 6) hown' hk' hins hini'
    (g := F0 m pc ls rest) rfl (by rw [hb]; exact d0) (Nat.le_refl _) (Nat.le_refl _)
  generalize hT1 : (T.setVm vm₁).pushCell { cls := cX, slots := kX.instanceTypes.map defaultValue, vm := .none } = T1 at X₁ st1
  have hcat : (Value.ref T.heap.size).category = 1 := rfl
  have hcellA : T1.heap[T.heap.size]? = some (freshCell cX kX) := by rw [← hT1]; exact State.heap_pushCell_size _ _
  have d3' : decode c.code (pc + 3) = .ok (.dup, 1) := by rw [hb]; exact d3
  have d4' : decode c.code (pc + 4) = .ok (.ldc_w is, 3) := by rw [hb]; exact d4
  have hstr' : vk_R own is text sa s' := vk_R.warm hW0 hstr
  obtain ⟨U, hsteps, hrun, hend, hW, hsame, ce, hce, hO⟩ := X₁.ctorThrowS hexec htr (own := own) (cls := cls) (names := names) (ic := ic) hown' hcls hnames h (fun x hx => nomatch hx) hfX hkX hcellA (by rw [hhp, hT]; exact Nat.le_refl _) (msg := .ref sa) rfl
    (g := { method := m, pc := pc + 7, locals := ls, stack := .ref sa :: .ref T.heap.size :: .ref T.heap.size :: rest, locked := none }) rfl hsize rfl rfl (rest := rest) rfl
    (by rw [hb]; exact d7) (by rw [hb]; exact d10) hout hRframes (by simp only [List.map_cons, List.sum_cons, hcat]; omega) hlocks
  obtain ⟨f1, f2⟩ := vx_frame hsame
  rw [hhp] at f1 f2
  have hWs : s.WarmedH U.vm := State.WarmedH.trans hW0 hW
  have hcl : s.vm.findClass cls = some ce.cls := by
    have h9 := hO.cls
    rw [hvm] at h9
    exact h9
  have hall : s.sameButNew ({ U with vm := s.vm } : State) locs mc ms := by
    subst hA
    obtain ⟨e1, e2⟩ := hsame
    rw [State.setFrames_setFrames] at e1
    have h2 : (T.setVm s.vm).sameButNew ({ U with vm := s.vm } : State) [] (0 + 1) (0 + 6) := ⟨e1, e2⟩
    have h3 := X.same.trans h2
    rw [List.append_nil] at h3
    exact h3.mono hc hs
  refine ⟨U, ?_, .threw T.heap.size, hrun, hend, Or.inr ⟨T.heap.size, rfl, cls, ce, locs, hx U hWs.alike f1 (fun q hq => f2 q hq (fun z hz => nomatch hz)), hce, hO.vm, hcl, hWs, hall, hf⟩⟩
  refine st1 _ ?_
  show Steps p.tables e below (T1.setTop { method := m, pc := pc + 3, locals := ls, stack := .ref T.heap.size :: rest, locked := none }) _
  jvm_step X₁.here [X₁.here.top, hexec, d3', Value.category]
  exact X₁.ldcStringW hexec (own := own) (text := text) (index := is) (a := sa) hown' hstr'.1 hstr'.2
    (g := { method := m, pc := pc + 4, locals := ls, stack := .ref T.heap.size :: .ref T.heap.size :: rest, locked := none }) rfl d4' _ hsteps
end Ends
section Bodies
variable {l : Launch}
theorem vx_ofW {y : MethodName} {ws ws' : List Cond} {rm : Room} {Pc : Array Value → State → Prop} {Qc : Array Value → State → Outcome → State → Prop} {XC : String → State → State → Prop} {mc ms : Nat} {free : Addr → Prop} {cc : ByteArray} {maxL : Nat} {ret : Option FieldType}
    (hy : plainName y.cls = true) (hw : ws = Cond.code y cc maxL ret :: ws')
    (body : ∀ p e s m args below meth c s₁, BodyLoose p l y (headSpec ws rm) cc maxL ret e s m args below meth c s₁ → c.maxLocals = maxL → (∀ x ∈ c.exceptionTable.toList, False) → Pc args s →
      W p l e (headSpec ws rm).room s m args below meth c s.heap [] 0 0 (vx_MQ below Qc XC args s mc ms free) (entryFrame m args maxL)) : vx_Met l y ws rm Pc Qc XC mc ms free := by
  refine MetFree.of_bodyS (code := cc) (maxLocals := maxL) (ret := ret) hy ?_ ?_
  · intro args s m h hn
    obtain ⟨meth, c, h1, h2, h3, h4, h5, h6, -, -⟩ := Cond.code_spec hn (atoms_spec (ws := ws) h _ (by rw [hw]; exact List.mem_cons_self))
    exact ⟨meth, c, h1, h2, h3, h4, h5, h6⟩
  · intro p e s m args below meth c s₁ B hml hP _
    have hh0 : s₁.heap = s.heap := by rw [B.state]; rfl
    have ht : ∀ x ∈ c.exceptionTable.toList, False := by
      obtain ⟨meth9, c9, h1, h2, -, -, -, -, h7, -⟩ := Cond.code_spec B.named (atoms_spec (ws := ws) B.pre _ (by rw [hw]; exact List.mem_cons_self))
      cases Option.some.inj (h1.symm.trans B.method)
      cases Option.some.inj (h2.symm.trans (Stand.of_body B).code)
      intro x hx
      rw [Array.isEmpty_iff.mp h7] at hx
      cases hx
    obtain ⟨t, a1, o, b1, b2, b3⟩ := body p e s m args below meth c s₁ B hml ht hP s₁ hh0 (Stand.of_body B)
    exact ⟨t, o, a1, b1, b2, b3⟩
/-- the table of a body with handlers -/
theorem vx_table {p : Program} {x y : MethodName} {S : Spec} {cc bytes : ByteArray} {maxL maxL' : Nat} {ret ret' : Option FieldType} {e : Env} {s s₁ : State} {m : MethodId} {args : Array Value} {below : List Frame} {meth : Method} {c : Code} {hh : List (Nat × Nat × Nat × Nat)}
    (B : BodyLoose p l y S cc maxL ret e s m args below meth c s₁) (h : (Cond.codeWith y bytes maxL' ret' hh).before args s = true) : c.exceptionTable.toList = tableOf hh := by
  obtain ⟨m9, meth9, c9, hn9, h1, h2, -, -, h6, -⟩ := Cond.codeWith_spec h
  cases Option.some.inj (hn9.symm.trans B.named)
  cases Option.some.inj (h1.symm.trans B.method)
  cases Option.some.inj (h2.symm.trans (Stand.of_body B).code)
  rw [← h6, table_eq]
end Bodies
end VXA
/-! ===== END ===== -/
/-! ===== BEGIN a static call of a method with an exception table ===== -/
section VXS
variable {p : Program} {l : Launch} {e : Env} {R : Room} {s : State} {m : MethodId} {args : Array Value} {below : List Frame} {meth : Method} {c : Code} {T : State} {H : Heap} {locs : List Loc} {cells slots : Nat}
abbrev vx_CSW (R : Room) (s : State) (args : Array Value) (own : String) (index : Nat) (y : MethodName) (bytes : ByteArray) (maxL : Nat) (ret : Option FieldType) (hh : List (Nat × Nat × Nat × Nat)) (ws : List Cond) (rm : Room) (mc ms n : Nat) : Prop :=
  (rm.cells = mc ∧ rm.slots = ms ∧ rm.frames + 1 ≤ R.frames ∧ 8 + (maxL + 11) + rm.locals ≤ R.locals ∧ (∀ w ∈ ws, ∀ (a' : Array Value) (U : State), s.WarmedH U.vm → w.before a' U = true) ∧ Cond.codeWith y bytes maxL ret hh ∈ ws) ∧
  (Cond.codeWith y bytes maxL ret hh).before args s = true ∧ (Cond.initialized y.cls).before args s = true ∧ (y.cls ≠ "java/lang/invoke/MethodHandle" ∧ y.cls ≠ "java/lang/invoke/VarHandle") ∧
  (∀ sig, parseMethodDescriptor y.desc = some sig → n = sig.parameters.length) ∧ (Cond.methodLink own index y).before args s = true ∧ (Cond.static y).before args s = true
theorem vx_cwSW {own : String} {index maxL mc ms : Nat} {y : MethodName} {bytes : ByteArray} {ret : Option FieldType} {hh : List (Nat × Nat × Nat × Nat)} {Ts ws ws' : List Cond} {rm : Room} (n : Nat) (ht : ∀ w ∈ Ts, w.before args s = true) (hT : GoodIn Ts (va_wsS own index y ws)) (hw : ws = Cond.codeWith y bytes maxL ret hh :: ws') (hrc : rm.cells = mc) (hrs : rm.slots = ms)
    (hd : y.cls ≠ "java/lang/invoke/MethodHandle" ∧ y.cls ≠ "java/lang/invoke/VarHandle" ∧ (parseMethodDescriptor y.desc).map (fun d => d.parameters.length) = some n) (hR : rm.frames + 1 ≤ R.frames ∧ 8 + (maxL + 11) + rm.locals ≤ R.locals) :
    vx_CSW R s args own index y bytes maxL ret hh ws rm mc ms n := by
  have ok : ∀ w ∈ va_wsS own index y ws, w.before args s = true := fun w h => ht w (hT w h).1
  have hG : GoodIn Ts ws := fun w h => hT w (by unfold va_wsS; exact List.mem_append_right _ h)
  have hc : Cond.codeWith y bytes maxL ret hh ∈ ws := by rw [hw]; exact List.mem_cons_self
  refine ⟨⟨hrc, hrs, hR.1, hR.2, pay_in ht hG, hc⟩, ht _ (hG _ hc).1, ok _ (by simp [va_wsS]), ⟨hd.1, hd.2.1⟩, fun sig h => ?_, ok _ (by simp [va_wsS]), ok _ (by simp [va_wsS])⟩
  have h2 := hd.2.2
  rw [h] at h2
  exact (Option.some.inj h2).symm
theorem vx_callSW (X : Stand p l e R s m args below meth c T locs cells slots) (hexec : p.tables.exec = Jvm.exec) {own : String} {index : Nat} {y : MethodName} {bytes : ByteArray} {maxL : Nat} {ret : Option FieldType} {hh : List (Nat × Nat × Nat × Nat)}
    (hown : s.vm.findClass own = some m.cls) (hlink : (Cond.methodLink own index y).before args s = true) (hstat : (Cond.static y).before args s = true) (hinit : (Cond.initialized y.cls).before args s = true)
    (hcode : (Cond.codeWith y bytes maxL ret hh).before args s = true) (hy : y.cls ≠ "java/lang/invoke/MethodHandle" ∧ y.cls ≠ "java/lang/invoke/VarHandle")
    {W9 : Nat} {Pre : Pt → Array Value → Prop} {Post : Pt → Array Value → Option Value → Pt → Prop} (hK : Back l R p e below s args y 3 W9 Pre Post)
    {g : JFrame} (hg : g.method = m) (hsize : g.locals.size = c.maxLocals) {argsL rest : List Value} (hlen : ∀ sig, parseMethodDescriptor y.desc = some sig → argsL.length = sig.parameters.length)
    (hstack : g.stack = argsL.reverse ++ rest) (hW : 2 * g.monitorRoom + (rest.map fun v => v.category).sum ≤ W9) (hdg : decode c.code g.pc = .ok (.invokestatic index, 3))
    (hpre : ∀ vm₁, s.WarmedH vm₁ → Pre ⟨T.setVm vm₁, locs, cells, slots⟩ argsL.toArray) :
    ∃ (v : Option Value) (vm₁ : Vm) (B : Pt), s.WarmedH vm₁ ∧ Stand p l e R s m args below meth c B.U B.locs B.cells B.slots ∧ Post ⟨T.setVm vm₁, locs, cells, slots⟩ argsL.toArray v B ∧
      ∀ target, Steps p.tables e below (B.U.setTop { g with pc := g.pc + 3, stack := v.toList ++ rest }) target → Steps p.tables e below (T.setTop g) target := by
  obtain ⟨mk, methM, cM, hnamed, hmethM, -, -, -, -, -, -, hsigM⟩ := Cond.codeWith_spec hcode
  have hstatic : methM.isStatic = true := Cond.static_spec hnamed hmethM hstat
  obtain ⟨kP, hkP, -⟩ := className_of_methodNamed hnamed
  have hinitP : kP.init = .initialized := Cond.initialized_spec (findClass_of_methodNamed hnamed) hkP hinit
  obtain ⟨vm₁, X₁, hstep₁⟩ := X.invokestatic hexec hown hlink hnamed hmethM hstatic hkP hinitP hy (g := g) hg (argsL := argsL) (rest := rest) (hlen _ hsigM) hstack hdg
  obtain ⟨v, B, X', hpost, hsteps⟩ := hK m meth c ⟨T.setVm vm₁, locs, cells, slots⟩ { g with stack := rest } (.invokestatic index) mk argsL.toArray X₁ hg hsize hdg hW (X₁.named hnamed) (hpre vm₁ X₁.warmed)
  exact ⟨v, vm₁, B, X₁.warmed, X', hpost, fun target h => hstep₁ _ fun acts => by rw [doInvoke_state]; exact hsteps.trans h⟩
theorem vx_runSW {y : MethodName} {bytes cc : ByteArray} {maxL nL mc ms n index : Nat} {ret : Option FieldType} {hh : List (Nat × Nat × Nat × Nat)} {ws : List Cond} {rm : Room} {Pc : Array Value → State → Prop} {Qc : Array Value → State → Outcome → State → Prop} {free : Addr → Prop} {Ts : List Cond} {own : String} {As rest : List Value} {g : JFrame}
    (S : CallFix p m c cc nL s args Ts own) (hM : Met l y ws rm Pc Qc mc ms free) (cw : vx_CSW R s args own index y bytes maxL ret hh ws rm mc ms n) (hp : PreS s H Pc As)
    (hg : g.method = m) (hn : As.length = n) (hsize : g.locals.size = nL) (hstack : g.stack = As.reverse ++ rest) (hW : 2 * g.monitorRoom + (rest.map fun v => v.category).sum ≤ 8) (hdg : decode cc g.pc = .ok (.invokestatic index, 3)) (hf : cells + mc ≤ R.cells ∧ slots + ms ≤ R.slots) :
    va_Run p l e R s m args below meth c H locs cells slots mc ms g rest (Qc As.toArray) (free) := by
  obtain ⟨⟨hrc, hrs, hfr, hlo, hws, hcw⟩, hcode, hini, hy, hlen, hl, hstt⟩ := cw
  have hK : Back l R p e below s args y 3 8 (PreOf R mc ms Pc) (PostOf Qc mc ms free) := va_backW (hh := hh) (bytes := bytes) (maxL := maxL) (ret := ret) hM hp.1 hrc hrs hfr hlo hws hcw (fun a' U hW => word_at hW (Or.inl (by first | rfl | simp [Cond.onTables, Cond.keeps, Cond.steady])) hini)
  obtain ⟨hx, hb, hml, ho, -⟩ := S
  intro T hT X
  obtain ⟨v, vm₁, ⟨U', l2, c2, s2⟩, hW₁, X', ⟨g', mk, t, L, e1, e2, hq, h1, hL, h2, h3⟩, st⟩ := vx_callSW X hx (hh := hh) (bytes := bytes) (maxL := maxL) (ret := ret) ho hl hstt hini hcode hy hK hg (hsize.trans hml.symm) (argsL := As) (rest := rest) (fun sig h => hn.trans (hlen sig h)) hstack hW (by rw [hb]; exact hdg)
    (fun vm₁ hW₁ => ⟨hf.1, hf.2, hp.2 (T.setVm vm₁) hT hW₁⟩)
  dsimp only [Pt.U, Pt.locs, Pt.cells, Pt.slots] at X' e1 e2 h1 h2 h3 st
  subst h1; subst h2; subst h3
  exact ⟨v, (T.setVm vm₁).calling g' mk As.toArray, t, U', L, hT, X', hL, e1, e2, hq, st⟩
/-- not caught here, past rows that name other classes: it goes on to the caller -/
theorem vx_outP {p : Program} {l : Launch} {e : Env} {R : Room} {s : State} {m : MethodId} {args : Array Value} {below : List Frame} {meth : Method} {c : Code} {H : Heap} {locs : List Loc} {cells slots : Nat} {free : Addr → Prop} {ls : Array Slot} {rest : List Value} {Qc : Array Value → State → Outcome → State → Prop} {XC : String → State → State → Prop}
    {pc : Nat} {own E : String} {ce : Cell} {q : Addr} {mc ms : Nat} (hown : s.vm.findClass own = some m.cls) (hlocks : meth.locks = false)
    (hpass : ∀ z ∈ c.exceptionTable.toList, covers z pc = false ∨ (z.catchType ≠ 0 ∧ ∃ nm : String, (Cond.classLink own z.catchType nm).before args s = true ∧ va_Nc E nm s)) (hcell : H[q]? = some ce) (hv : ce.vm = .none) (hcl : s.vm.findClass E = some ce.cls)
    (hx : ∀ t : State, t.heap = H → s.vm.Alike t.vm → XC E s t) (hf : ∀ z ∈ locs, free z.base) (hc : cells ≤ mc) (hs : slots ≤ ms) :
    vx_W p l e R s m args below meth c H locs cells slots (vx_MQ below Qc XC args s mc ms free) (F0 m pc ls rest) q := by
  intro T hT X
  have hpl : e.platform.magicAccessors = ({} : Platform).magicAccessors := by rw [X.admits.platform]
  obtain ⟨vm', hW', X', st⟩ := X.outThrough hlocks q (g := F0 m pc ls rest) rfl rfl rfl (cell := ce) (by rw [hT]; exact hcell) (by rw [hv]; rfl)
    (by obtain ⟨k9, h9, -⟩ := Vm.findClass_spec hcl; exact ⟨k9, h9⟩) (fun z hz => by
      rcases hpass z hz with h | ⟨hz0, nm, hl1, hn1⟩
      · exact Or.inl h
      · obtain ⟨c6, hc6, hcl6⟩ := Cond.classLink_spec hown hl1 e.platform hpl
        obtain ⟨a8, b8, h1, h2, h3⟩ := hn1
        cases Option.some.inj (h1.symm.trans hcl)
        cases Option.some.inj (h2.symm.trans hc6)
        exact Or.inr ⟨hz0, _, hcl6, h3⟩)
  obtain ⟨g₀, hfr⟩ := X'.frames_eq
  have hcell9 : ((T.setVm vm').setFrames (.throwing q :: below)).heap[q]? = some ce := by
    show T.heap[q]? = some ce
    rw [hT]; exact hcell
  have hend : Ended ((T.setVm vm').setFrames (.throwing q :: below)) below (.threw q) := State.frames_setFrames _ (State.cur_lt_of_frames hfr)
  refine ⟨(T.setVm vm').setFrames (.throwing q :: below), ?_, .threw q, X'.here.running, hend, Or.inr ⟨q, rfl, E, ce, locs, hx _ hT (X'.ends _).1.alike, hcell9, hv, hcl, (X'.ends _).1, (X'.ends _).2.mono hc hs, hf⟩⟩
  rw [X.pushThrowing_eq]
  exact st
/-- a thing of a world lies in the heap -/
theorem vx_lt {D : va_G} {cl : List vw_C} {ws : va_W} {H1 : Heap} (h : va_P D cl ws H1) {k : Nat} {q : Nat × va_E} (hk : ws[k]? = some q) : q.1 < H1.size := (h k q hk).lt
end VXS
/-! ===== END ===== -/
/-! ===== BEGIN methods with a table of their own: called by a name, returning or throwing ===== -/
section VXH
/-! vx_backW, vx_callVX, vx_callSX, vx_callVW, vx_runVW, vx_runVX, vx_runSX, vx_ofWH follow the same proofs as their sisters above (Free/Laws.lean, Shelf42/LK1.lean); vx_outP calls Shelf42/NT130.lean (outThrough). -/
section
variable {l : Launch} {R : Room} {p : Program} {e : Env} {below : List Frame} {s : State} {sargs : Array Value} {y : MethodName} {len W9 : Nat}
theorem vx_backW {ws : List Cond} {rm : Room} {Pc : Array Value → State → Prop} {Qc : Array Value → State → Outcome → State → Prop} {XC : String → State → State → Prop} {mc ms : Nat} {free : Addr → Prop} {bytes : ByteArray} {maxL : Nat} {ret : Option FieldType} {hh : List (Nat × Nat × Nat × Nat)}
    (hM : vx_Met l y ws rm Pc Qc XC mc ms free) (hblind : FrameBlind Pc) (hrc : rm.cells = mc) (hrs : rm.slots = ms)
    (hframes : rm.frames + 1 ≤ R.frames) (hlocals : W9 + (maxL + 11) + rm.locals ≤ R.locals)
    (hws : ∀ w ∈ ws, ∀ a' U, s.WarmedH U.vm → w.before a' U = true) (hcode : Cond.codeWith y bytes maxL ret hh ∈ ws) (hinit : ∀ a' U, s.WarmedH U.vm → (Cond.initialized y.cls).before a' U = true) :
    vx_Back l R p e below s sargs y len W9 (PreOf R mc ms Pc) (PostOf Qc mc ms free) (vx_Post XC mc ms free) := by
  intro m meth c A g ig mk a X hg hsize hdg hW hn hp
  have h1 : (headSpec ws rm).pre.before a A.U = true := atoms_intro fun w hw => hws w hw _ _ X.warmed
  have h2 : (Cond.codeWith y bytes maxL ret hh).before a A.U = true := hws _ hcode _ _ X.warmed
  have h3 : (Cond.initialized y.cls).before a A.U = true := hinit _ _ X.warmed
  have h4 : A.cells + (headSpec ws rm).room.cells ≤ R.cells := by rw [show (headSpec ws rm).room.cells = mc from hrc]; exact hp.1
  have h5 : A.slots + (headSpec ws rm).room.slots ≤ R.slots := by rw [show (headSpec ws rm).room.slots = ms from hrs]; exact hp.2.1
  have hPc : Pc a (A.U.calling g mk a) := hblind _ _ _ _ hp.2.2
  obtain ⟨U, Ls, c0, s0⟩ := A
  dsimp only [Pt.U, Pt.locs, Pt.cells, Pt.slots] at h1 h2 h3 h4 h5 X hn hPc ⊢
  obtain ⟨m9, methY, cY, hn9, hmY, hcY, -, hlY, -⟩ := Cond.codeWith_spec h2
  cases Option.some.inj (hn9.symm.trans hn)
  obtain ⟨kY, hkY, -⟩ := className_of_methodNamed hn
  have hinitY : kY.init = .initialized := Cond.initialized_spec (findClass_of_methodNamed hn) hkY h3
  have h : At U g.method c below := by rw [hg]; exact X.here
  have hlocals9 : W9 + (maxL + 11) + (headSpec ws rm).room.locals ≤ R.locals := hlocals
  have happ : (headSpec ws rm).appliesLoose y e.platform (U.calling g mk a) = true :=
    Spec.appliesLoose_calling (g := g) h hdg hn hkY hinitY
      (X.room_calling (g := g) (R' := (headSpec ws rm).room) hsize hmY hcY hframes (by rw [hlY]; omega) h4 h5) h1
  obtain ⟨mid, hmid⟩ := h.above
  have hfr : (U.setTop g).frames = (.java g :: mid) ++ below := by rw [State.frames_setTop' g h.top, hmid]; rfl
  obtain ⟨o, s₂, hsteps, -, hend, hq⟩ := Steps.callFree hM p X.admits X.cas X.clock (acts := []) hfr happ hPc trivial
  have hq' : vx_Q Qc XC mc ms free a (U.calling g mk a) o s₂ := hq
  rw [State.frames_setTop' g h.top] at hend
  obtain ⟨g₀, hg0⟩ := Option.isSome_iff_exists.mp h.top
  obtain ⟨r, hr⟩ := State.topJava?_eq_some.mp hg0
  have hr' : (({ U with heap := s₂.heap, slotsUsed := s₂.slotsUsed } : State).setVm s₂.vm).frames = .java g₀ :: r := hr
  rcases hq' with ⟨hqc, L, hfe, hL⟩ | ⟨q, rfl, E, ce, L, hx, hce, hcv, hcl, hW₂, hsm, hL⟩
  · obtain ⟨⟨v, rfl⟩, hW₂, e2, q2, q3, q4, q5, q6⟩ := id hfe
    have e3 : s₂ = ({ (U.calling g mk a).setFrames s₂.frames with heap := s₂.heap, slotsUsed := s₂.slotsUsed } : State).setVm s₂.vm := by
      have : s₂ = ({ s₂ with vm := (U.calling g mk a).vm } : State).setVm s₂.vm := rfl
      rw [e2] at this
      exact this
    obtain ⟨c₂, i₂, len₂, hc₂, hd₂, hf₂⟩ := hend
    have hW' : U.WarmedH s₂.vm := hW₂
    have hcc : c₂ = c := by
      have h1 : s₂.code? g.method = U.code? g.method := by
        rw [State.code?_eq, State.code?_eq, hW'.alike.method?]
      exact Option.some.inj (hc₂.symm.trans (h1.trans h.code))
    subst hcc
    have hlen : len₂ = len := by rw [hdg] at hd₂; cases hd₂; rfl
    subst hlen
    have hs₂ : s₂ = (({ U with heap := s₂.heap, slotsUsed := s₂.slotsUsed } : State).setVm s₂.vm).setTop { g with pc := g.pc + len₂, stack := v.toList ++ g.stack } := by
      refine e3.trans ?_
      rw [hf₂, State.calling_eq h.top, State.setFrames_setFrames, State.setTop_of_frames _ hr', hr]
      rfl
    have hsame : U.sameButNew ({ U with heap := s₂.heap, slotsUsed := s₂.slotsUsed } : State) L mc ms := by
      refine ⟨?_, q2, q3, q4, q5, q6⟩
      obtain ⟨t, ht, -⟩ := State.frames_cons hr
      show ({ U with heap := s₂.heap, slotsUsed := s₂.slotsUsed } : State) = { U.setFrames U.frames with heap := s₂.heap, slotsUsed := s₂.slotsUsed }
      rw [State.setFrames_self ht]
    subst hg
    refine Or.inl ⟨v, ⟨(({ U with heap := s₂.heap, slotsUsed := s₂.slotsUsed } : State).setVm s₂.vm), Ls ++ L, c0 + mc, s0 + ms⟩,
      ⟨X.admits, X.cas, X.clock, X.frames, X.room, X.hears, X.method, X.code, (X.here.setHeapUsed s₂.heap s₂.slotsUsed).setVm hW'.alike, X.tail, State.WarmedH.trans X.warmed hW', X.limits, X.bytes, X.same.trans (hsame.setVm s.vm)⟩,
      ⟨g, mk, s₂, L, rfl, rfl, hqc, rfl, hL, rfl, rfl⟩, ?_⟩
    show Steps p.tables e below _ ((({ U with heap := s₂.heap, slotsUsed := s₂.slotsUsed } : State).setVm s₂.vm).setTop { g with pc := g.pc + len₂, stack := v.toList ++ g.stack })
    rw [← hs₂]
    exact hsteps
  · obtain ⟨e2, q2, q3, q4, q5, q6⟩ := id hsm
    have e3 : s₂ = ({ (U.calling g mk a).setFrames s₂.frames with heap := s₂.heap, slotsUsed := s₂.slotsUsed } : State).setVm s₂.vm := by
      have : s₂ = ({ s₂ with vm := (U.calling g mk a).vm } : State).setVm s₂.vm := rfl
      rw [e2] at this
      exact this
    have hf₂ : s₂.frames = .throwing q :: .java g :: U.frames.tail := hend
    have hW' : U.WarmedH s₂.vm := hW₂
    have hs₂ : s₂ = ((({ U with heap := s₂.heap, slotsUsed := s₂.slotsUsed } : State).setVm s₂.vm).setTop g).pushFrame (.throwing q) := by
      refine e3.trans ?_
      rw [hf₂, State.calling_eq h.top, State.setFrames_setFrames, State.pushFrame, State.frames_setTop _ hr', State.setTop_of_frames _ hr', State.setFrames_setFrames, hr]
      rfl
    have hsame : U.sameButNew ({ U with heap := s₂.heap, slotsUsed := s₂.slotsUsed } : State) L mc ms := by
      refine ⟨?_, q2, q3, q4, q5, q6⟩
      obtain ⟨t, ht, -⟩ := State.frames_cons hr
      show ({ U with heap := s₂.heap, slotsUsed := s₂.slotsUsed } : State) = { U.setFrames U.frames with heap := s₂.heap, slotsUsed := s₂.slotsUsed }
      rw [State.setFrames_self ht]
    subst hg
    refine Or.inr ⟨q, ⟨(({ U with heap := s₂.heap, slotsUsed := s₂.slotsUsed } : State).setVm s₂.vm), Ls ++ L, c0 + mc, s0 + ms⟩,
      ⟨X.admits, X.cas, X.clock, X.frames, X.room, X.hears, X.method, X.code, (X.here.setHeapUsed s₂.heap s₂.slotsUsed).setVm hW'.alike, X.tail, State.WarmedH.trans X.warmed hW', X.limits, X.bytes, X.same.trans (hsame.setVm s.vm)⟩,
      ⟨g, mk, s₂, L, E, ce, rfl, rfl, hx, hce, hcv, hcl, rfl, hL, rfl, rfl⟩, ?_⟩
    show Steps p.tables e below _ (((({ U with heap := s₂.heap, slotsUsed := s₂.slotsUsed } : State).setVm s₂.vm).setTop g).pushFrame (.throwing q))
    rw [← hs₂]
    exact hsteps
end
variable {p : Program} {l : Launch} {e : Env} {R : Room} {s : State} {m : MethodId} {args : Array Value} {below : List Frame} {meth : Method} {c : Code} {T : State} {H : Heap} {locs : List Loc} {cells slots : Nat}
theorem vx_callVX (X : Stand p l e R s m args below meth c T locs cells slots) (hexec : p.tables.exec = Jvm.exec) {own C : String} {index : Nat} {y : MethodName} {bytes : ByteArray} {maxL : Nat} {ret : Option FieldType} {hh : List (Nat × Nat × Nat × Nat)}
    (hown : s.vm.findClass own = some m.cls) (hlink : (Cond.methodLink own index y).before args s = true) (hinst : (Cond.instanceMethod y).before args s = true) (hsel : (Cond.selects C y y).before args s = true)
    (hcode : (Cond.codeWith y bytes maxL ret hh).before args s = true) (hy : y.cls ≠ "java/lang/invoke/MethodHandle" ∧ y.cls ≠ "java/lang/invoke/VarHandle")
    {W9 : Nat} {Pre : Pt → Array Value → Prop} {Post : Pt → Array Value → Option Value → Pt → Prop} {PostX : Pt → Array Value → Addr → Pt → Prop} (hK : vx_Back l R p e below s args y 3 W9 Pre Post PostX)
    {b : Addr} {cellB : Cell} (hcell : T.heap[b]? = some cellB) (hobj : cellB.vm.isStatics = false) (hcls : s.vm.findClass C = some cellB.cls)
    {g : JFrame} (hg : g.method = m) (hsize : g.locals.size = c.maxLocals) {argsL rest : List Value} (hlen : ∀ sig, parseMethodDescriptor y.desc = some sig → argsL.length = sig.parameters.length)
    (hstack : g.stack = argsL.reverse ++ .ref b :: rest) (hW : 2 * g.monitorRoom + (rest.map fun v => v.category).sum ≤ W9) (hdg : decode c.code g.pc = .ok (.invokevirtual index, 3))
    (hpre : ∀ vm₁, s.WarmedH vm₁ → Pre ⟨T.setVm vm₁, locs, cells, slots⟩ (Value.ref b :: argsL).toArray) :
    (∃ (v : Option Value) (vm₁ : Vm) (B : Pt), s.WarmedH vm₁ ∧ Stand p l e R s m args below meth c B.U B.locs B.cells B.slots ∧ Post ⟨T.setVm vm₁, locs, cells, slots⟩ (Value.ref b :: argsL).toArray v B ∧
      ∀ target, Steps p.tables e below (B.U.setTop { g with pc := g.pc + 3, stack := v.toList ++ rest }) target → Steps p.tables e below (T.setTop g) target) ∨
    (∃ (q : Addr) (vm₁ : Vm) (B : Pt), s.WarmedH vm₁ ∧ Stand p l e R s m args below meth c B.U B.locs B.cells B.slots ∧ PostX ⟨T.setVm vm₁, locs, cells, slots⟩ (Value.ref b :: argsL).toArray q B ∧
      Steps p.tables e below (T.setTop g) ((B.U.setTop { g with stack := rest }).pushFrame (.throwing q))) := by
  obtain ⟨mk, methM, hnamed, hmethM, hstM, habM⟩ := Cond.instanceMethod_spec hinst
  obtain ⟨m8, methM', cM, hn8, hmethM', -, -, -, -, -, -, hsigM⟩ := Cond.codeWith_spec hcode
  cases Option.some.inj (hn8.symm.trans hnamed)
  cases hmethM.symm.trans hmethM'
  obtain ⟨c2, r2, m2, q1, q2, q3, q4, kP, hkP, hkPi⟩ := Cond.selects_spec hsel
  cases hcls.symm.trans q1
  cases (State.methodFound?_of_named hnamed hy).symm.trans q2
  cases hnamed.symm.trans q3
  have hselP : selectMethod e.platform s.vm cellB.cls mk = .method mk := by rw [Launch.admits_selectMethod X.admits]; exact q4
  obtain ⟨vm₁, X₁, hstep₁⟩ := X.invokevirtual hexec hown hlink hnamed hmethM hstM hkP hkPi hy (a := b) (cell := cellB) hcell
    (fun z h => by rw [h] at hobj; cases hobj) hselP hmethM habM hkP hkPi (g := g) hg (argsL := argsL) (rest := rest) (hlen _ hsigM) hstack hdg
  rcases hK m meth c ⟨T.setVm vm₁, locs, cells, slots⟩ { g with stack := rest } (.invokevirtual index) mk (Value.ref b :: argsL).toArray X₁ hg hsize hdg hW (X₁.named hnamed) (hpre vm₁ X₁.warmed) with ⟨v, B, X', hpost, hsteps⟩ | ⟨q, B, X', hpost, hsteps⟩
  · exact Or.inl ⟨v, vm₁, B, X₁.warmed, X', hpost, fun target h => hstep₁ _ fun acts => by rw [doInvoke_state]; exact hsteps.trans h⟩
  · exact Or.inr ⟨q, vm₁, B, X₁.warmed, X', hpost, hstep₁ _ fun acts => by rw [doInvoke_state]; exact hsteps⟩
theorem vx_callSX (X : Stand p l e R s m args below meth c T locs cells slots) (hexec : p.tables.exec = Jvm.exec) {own : String} {index : Nat} {y : MethodName} {bytes : ByteArray} {maxL : Nat} {ret : Option FieldType} {hh : List (Nat × Nat × Nat × Nat)}
    (hown : s.vm.findClass own = some m.cls) (hlink : (Cond.methodLink own index y).before args s = true) (hstat : (Cond.static y).before args s = true) (hinit : (Cond.initialized y.cls).before args s = true)
    (hcode : (Cond.codeWith y bytes maxL ret hh).before args s = true) (hy : y.cls ≠ "java/lang/invoke/MethodHandle" ∧ y.cls ≠ "java/lang/invoke/VarHandle")
    {W9 : Nat} {Pre : Pt → Array Value → Prop} {Post : Pt → Array Value → Option Value → Pt → Prop} {PostX : Pt → Array Value → Addr → Pt → Prop} (hK : vx_Back l R p e below s args y 3 W9 Pre Post PostX)
    {g : JFrame} (hg : g.method = m) (hsize : g.locals.size = c.maxLocals) {argsL rest : List Value} (hlen : ∀ sig, parseMethodDescriptor y.desc = some sig → argsL.length = sig.parameters.length)
    (hstack : g.stack = argsL.reverse ++ rest) (hW : 2 * g.monitorRoom + (rest.map fun v => v.category).sum ≤ W9) (hdg : decode c.code g.pc = .ok (.invokestatic index, 3))
    (hpre : ∀ vm₁, s.WarmedH vm₁ → Pre ⟨T.setVm vm₁, locs, cells, slots⟩ argsL.toArray) :
    (∃ (v : Option Value) (vm₁ : Vm) (B : Pt), s.WarmedH vm₁ ∧ Stand p l e R s m args below meth c B.U B.locs B.cells B.slots ∧ Post ⟨T.setVm vm₁, locs, cells, slots⟩ argsL.toArray v B ∧
      ∀ target, Steps p.tables e below (B.U.setTop { g with pc := g.pc + 3, stack := v.toList ++ rest }) target → Steps p.tables e below (T.setTop g) target) ∨
    (∃ (q : Addr) (vm₁ : Vm) (B : Pt), s.WarmedH vm₁ ∧ Stand p l e R s m args below meth c B.U B.locs B.cells B.slots ∧ PostX ⟨T.setVm vm₁, locs, cells, slots⟩ argsL.toArray q B ∧
      Steps p.tables e below (T.setTop g) ((B.U.setTop { g with stack := rest }).pushFrame (.throwing q))) := by
  obtain ⟨mk, methM, cM, hnamed, hmethM, -, -, -, -, -, -, hsigM⟩ := Cond.codeWith_spec hcode
  have hstatic : methM.isStatic = true := Cond.static_spec hnamed hmethM hstat
  obtain ⟨kP, hkP, -⟩ := className_of_methodNamed hnamed
  have hinitP : kP.init = .initialized := Cond.initialized_spec (findClass_of_methodNamed hnamed) hkP hinit
  obtain ⟨vm₁, X₁, hstep₁⟩ := X.invokestatic hexec hown hlink hnamed hmethM hstatic hkP hinitP hy (g := g) hg (argsL := argsL) (rest := rest) (hlen _ hsigM) hstack hdg
  rcases hK m meth c ⟨T.setVm vm₁, locs, cells, slots⟩ { g with stack := rest } (.invokestatic index) mk argsL.toArray X₁ hg hsize hdg hW (X₁.named hnamed) (hpre vm₁ X₁.warmed) with ⟨v, B, X', hpost, hsteps⟩ | ⟨q, B, X', hpost, hsteps⟩
  · exact Or.inl ⟨v, vm₁, B, X₁.warmed, X', hpost, fun target h => hstep₁ _ fun acts => by rw [doInvoke_state]; exact hsteps.trans h⟩
  · exact Or.inr ⟨q, vm₁, B, X₁.warmed, X', hpost, hstep₁ _ fun acts => by rw [doInvoke_state]; exact hsteps⟩
theorem vx_callVW (X : Stand p l e R s m args below meth c T locs cells slots) (hexec : p.tables.exec = Jvm.exec) {own C : String} {index : Nat} {y : MethodName} {bytes : ByteArray} {maxL : Nat} {ret : Option FieldType} {hh : List (Nat × Nat × Nat × Nat)}
    (hown : s.vm.findClass own = some m.cls) (hlink : (Cond.methodLink own index y).before args s = true) (hinst : (Cond.instanceMethod y).before args s = true) (hsel : (Cond.selects C y y).before args s = true)
    (hcode : (Cond.codeWith y bytes maxL ret hh).before args s = true) (hy : y.cls ≠ "java/lang/invoke/MethodHandle" ∧ y.cls ≠ "java/lang/invoke/VarHandle")
    {W9 : Nat} {Pre : Pt → Array Value → Prop} {Post : Pt → Array Value → Option Value → Pt → Prop} (hK : Back l R p e below s args y 3 W9 Pre Post)
    {b : Addr} {cellB : Cell} (hcell : T.heap[b]? = some cellB) (hobj : cellB.vm.isStatics = false) (hcls : s.vm.findClass C = some cellB.cls)
    {g : JFrame} (hg : g.method = m) (hsize : g.locals.size = c.maxLocals) {argsL rest : List Value} (hlen : ∀ sig, parseMethodDescriptor y.desc = some sig → argsL.length = sig.parameters.length)
    (hstack : g.stack = argsL.reverse ++ .ref b :: rest) (hW : 2 * g.monitorRoom + (rest.map fun v => v.category).sum ≤ W9) (hdg : decode c.code g.pc = .ok (.invokevirtual index, 3))
    (hpre : ∀ vm₁, s.WarmedH vm₁ → Pre ⟨T.setVm vm₁, locs, cells, slots⟩ (Value.ref b :: argsL).toArray) :
    ∃ (v : Option Value) (vm₁ : Vm) (B : Pt), s.WarmedH vm₁ ∧ Stand p l e R s m args below meth c B.U B.locs B.cells B.slots ∧ Post ⟨T.setVm vm₁, locs, cells, slots⟩ (Value.ref b :: argsL).toArray v B ∧
      ∀ target, Steps p.tables e below (B.U.setTop { g with pc := g.pc + 3, stack := v.toList ++ rest }) target → Steps p.tables e below (T.setTop g) target := by
  obtain ⟨mk, methM, hnamed, hmethM, hstM, habM⟩ := Cond.instanceMethod_spec hinst
  obtain ⟨m8, methM', cM, hn8, hmethM', -, -, -, -, -, -, hsigM⟩ := Cond.codeWith_spec hcode
  cases Option.some.inj (hn8.symm.trans hnamed)
  cases hmethM.symm.trans hmethM'
  obtain ⟨c2, r2, m2, q1, q2, q3, q4, kP, hkP, hkPi⟩ := Cond.selects_spec hsel
  cases hcls.symm.trans q1
  cases (State.methodFound?_of_named hnamed hy).symm.trans q2
  cases hnamed.symm.trans q3
  have hselP : selectMethod e.platform s.vm cellB.cls mk = .method mk := by rw [Launch.admits_selectMethod X.admits]; exact q4
  obtain ⟨vm₁, X₁, hstep₁⟩ := X.invokevirtual hexec hown hlink hnamed hmethM hstM hkP hkPi hy (a := b) (cell := cellB) hcell
    (fun z h => by rw [h] at hobj; cases hobj) hselP hmethM habM hkP hkPi (g := g) hg (argsL := argsL) (rest := rest) (hlen _ hsigM) hstack hdg
  obtain ⟨v, B, X', hpost, hsteps⟩ := hK m meth c ⟨T.setVm vm₁, locs, cells, slots⟩ { g with stack := rest } (.invokevirtual index) mk (Value.ref b :: argsL).toArray X₁ hg hsize hdg hW (X₁.named hnamed) (hpre vm₁ X₁.warmed)
  exact ⟨v, vm₁, B, X₁.warmed, X', hpost, fun target h => hstep₁ _ fun acts => by rw [doInvoke_state]; exact hsteps.trans h⟩
abbrev vx_CVW (R : Room) (s : State) (args : Array Value) (own C : String) (index : Nat) (y : MethodName) (bytes : ByteArray) (maxL : Nat) (ret : Option FieldType) (hh : List (Nat × Nat × Nat × Nat)) (ws : List Cond) (rm : Room) (mc ms n : Nat) : Prop :=
  (rm.cells = mc ∧ rm.slots = ms ∧ rm.frames + 1 ≤ R.frames ∧ 8 + (maxL + 11) + rm.locals ≤ R.locals ∧ (∀ w ∈ ws, ∀ (a' : Array Value) (U : State), s.WarmedH U.vm → w.before a' U = true) ∧ Cond.codeWith y bytes maxL ret hh ∈ ws) ∧
  (Cond.codeWith y bytes maxL ret hh).before args s = true ∧ (Cond.initialized y.cls).before args s = true ∧ (y.cls ≠ "java/lang/invoke/MethodHandle" ∧ y.cls ≠ "java/lang/invoke/VarHandle") ∧
  (∀ sig, parseMethodDescriptor y.desc = some sig → n = sig.parameters.length) ∧ (Cond.methodLink own index y).before args s = true ∧ (Cond.instanceMethod y).before args s = true ∧ (Cond.selects C y y).before args s = true
theorem vx_cwVW {own C : String} {index maxL mc ms : Nat} {y : MethodName} {bytes : ByteArray} {ret : Option FieldType} {hh : List (Nat × Nat × Nat × Nat)} {Ts ws ws' : List Cond} {rm : Room} (n : Nat) (ht : ∀ w ∈ Ts, w.before args s = true) (hT : GoodIn Ts (wsV own index C y ws)) (hw : ws = Cond.codeWith y bytes maxL ret hh :: ws') (hrc : rm.cells = mc) (hrs : rm.slots = ms)
    (hd : y.cls = C ∧ y.cls ≠ "java/lang/invoke/MethodHandle" ∧ y.cls ≠ "java/lang/invoke/VarHandle" ∧ (parseMethodDescriptor y.desc).map (fun d => d.parameters.length) = some n) (hR : rm.frames + 1 ≤ R.frames ∧ 8 + (maxL + 11) + rm.locals ≤ R.locals) :
    vx_CVW R s args own C index y bytes maxL ret hh ws rm mc ms n := by
  obtain ⟨hC, hd⟩ := hd
  subst hC
  have ok : ∀ w ∈ wsV own index y.cls y ws, w.before args s = true := fun w h => ht w (hT w h).1
  have hG : GoodIn Ts ws := fun w h => hT w (by unfold wsV; exact List.mem_append_right _ h)
  have hc : Cond.codeWith y bytes maxL ret hh ∈ ws := by rw [hw]; exact List.mem_cons_self
  refine ⟨⟨hrc, hrs, hR.1, hR.2, pay_in ht hG, hc⟩, ht _ (hG _ hc).1, ok _ (by simp [wsV]), ⟨hd.1, hd.2.1⟩, fun sig h => ?_, ok _ (by simp [wsV]), ok _ (by simp [wsV]), ok _ (by simp [wsV])⟩
  have h2 := hd.2.2
  rw [h] at h2
  exact (Option.some.inj h2).symm
theorem vx_runVW {y : MethodName} {bytes cc : ByteArray} {maxL nL mc ms n index : Nat} {ret : Option FieldType} {hh : List (Nat × Nat × Nat × Nat)} {ws : List Cond} {rm : Room} {Pc : Array Value → State → Prop} {Qc : Array Value → State → Outcome → State → Prop} {free : Addr → Prop} {Ts : List Cond} {own C : String} {b : Addr} {As rest : List Value} {g : JFrame}
    (S : CallFix p m c cc nL s args Ts own) (hM : Met l y ws rm Pc Qc mc ms free) (cw : vx_CVW R s args own C index y bytes maxL ret hh ws rm mc ms n) (hp : PreV s H C b Pc As)
    (hg : g.method = m) (hn : As.length = n) (hsize : g.locals.size = nL) (hstack : g.stack = As.reverse ++ .ref b :: rest) (hW : 2 * g.monitorRoom + (rest.map fun v => v.category).sum ≤ 8) (hdg : decode cc g.pc = .ok (.invokevirtual index, 3)) (hf : cells + mc ≤ R.cells ∧ slots + ms ≤ R.slots) :
    va_Run p l e R s m args below meth c H locs cells slots mc ms g rest (Qc (Value.ref b :: As).toArray) free := by
  obtain ⟨⟨hrc, hrs, hfr, hlo, hws, hcw⟩, hcode, hini, hy, hlen, hl, hin, hse⟩ := cw
  have hK : Back l R p e below s args y 3 8 (PreOf R mc ms Pc) (PostOf Qc mc ms free) := va_backW (hh := hh) (bytes := bytes) (maxL := maxL) (ret := ret) hM hp.1 hrc hrs hfr hlo hws hcw (fun a' U hW => word_at hW (Or.inl (by first | rfl | simp [Cond.onTables, Cond.keeps, Cond.steady])) hini)
  obtain ⟨hx, hb, hml, ho, -⟩ := S
  obtain ⟨-, ⟨cellB, hcB, hoB, hclB⟩, hPc⟩ := hp
  intro T hT X
  obtain ⟨v, vm₁, ⟨U', l2, c2, s2⟩, hW₁, X', ⟨g', mk, t, L, e1, e2, hq, h1, hL, h2, h3⟩, st⟩ := vx_callVW X hx (C := C) (hh := hh) (bytes := bytes) (maxL := maxL) (ret := ret) ho hl hin hse hcode hy hK (by rw [hT]; exact hcB) hoB hclB hg (hsize.trans hml.symm) (argsL := As) (rest := rest) (fun sig h => hn.trans (hlen sig h)) hstack hW (by rw [hb]; exact hdg)
    (fun vm₁ hW₁ => ⟨hf.1, hf.2, hPc (T.setVm vm₁) hT hW₁⟩)
  dsimp only [Pt.U, Pt.locs, Pt.cells, Pt.slots] at X' e1 e2 h1 h2 h3 st
  subst h1; subst h2; subst h3
  exact ⟨v, (T.setVm vm₁).calling g' mk (Value.ref b :: As).toArray, t, U', L, hT, X', hL, e1, e2, hq, st⟩
section
variable {y : MethodName} {bytes cc : ByteArray} {maxL nL mc ms n index : Nat} {ret : Option FieldType} {ws : List Cond} {rm : Room} {Pc : Array Value → State → Prop} {Qc : Array Value → State → Outcome → State → Prop} {XC : String → State → State → Prop} {free : Addr → Prop} {Ts : List Cond} {own C : String} {b : Addr} {As rest : List Value} {g : JFrame}
theorem vx_runVX {hh : List (Nat × Nat × Nat × Nat)} (S : CallFix p m c cc nL s args Ts own) (hM : vx_Met l y ws rm Pc Qc XC mc ms free) (cw : vx_CVW R s args own C index y bytes maxL ret hh ws rm mc ms n) (hp : PreV s H C b Pc As)
    (hg : g.method = m) (hn : As.length = n) (hsize : g.locals.size = nL) (hstack : g.stack = As.reverse ++ .ref b :: rest) (hW : 2 * g.monitorRoom + (rest.map fun v => v.category).sum ≤ 8) (hdg : decode cc g.pc = .ok (.invokevirtual index, 3)) (hf : cells + mc ≤ R.cells ∧ slots + ms ≤ R.slots) :
    vx_Run p l e R s m args below meth c H locs cells slots mc ms g rest (Qc (Value.ref b :: As).toArray) XC free := by
  obtain ⟨⟨hrc, hrs, hfr, hlo, hws, hcw⟩, hcode, hini, hy, hlen, hl, hin, hse⟩ := cw
  have hK : vx_Back l R p e below s args y 3 8 (PreOf R mc ms Pc) (PostOf Qc mc ms free) (vx_Post XC mc ms free) := vx_backW (hh := hh) (bytes := bytes) (maxL := maxL) (ret := ret) hM hp.1 hrc hrs hfr hlo hws hcw (fun a' U hW => word_at hW (Or.inl (by first | rfl | simp [Cond.onTables, Cond.keeps, Cond.steady])) hini)
  obtain ⟨hx, hb, hml, ho, -⟩ := S
  obtain ⟨-, ⟨cellB, hcB, hoB, hclB⟩, hPc⟩ := hp
  intro T hT X
  rcases vx_callVX X hx (C := C) (hh := hh) (bytes := bytes) (maxL := maxL) (ret := ret) ho hl hin hse hcode hy hK (by rw [hT]; exact hcB) hoB hclB hg (hsize.trans hml.symm) (argsL := As) (rest := rest) (fun sig h => hn.trans (hlen sig h)) hstack hW (by rw [hb]; exact hdg)
    (fun vm₁ hW₁ => ⟨hf.1, hf.2, hPc (T.setVm vm₁) hT hW₁⟩) with ⟨v, vm₁, ⟨U', l2, c2, s2⟩, hW₁, X', ⟨g', mk, t, L, e1, e2, hq, h1, hL, h2, h3⟩, st⟩ | ⟨q, vm₁, ⟨U', l2, c2, s2⟩, hW₁, X', ⟨g', mk, t, L, E, ce, e1, e2, hq, hce, hcv, hcl, h1, hL, h2, h3⟩, st⟩
  · dsimp only [Pt.U, Pt.locs, Pt.cells, Pt.slots] at X' e1 e2 h1 h2 h3 st
    subst h1; subst h2; subst h3
    exact Or.inl ⟨v, (T.setVm vm₁).calling g' mk (Value.ref b :: As).toArray, t, U', L, hT, X', hL, e1, e2, hq, st⟩
  · dsimp only [Pt.U, Pt.locs, Pt.cells, Pt.slots] at X' e1 e2 h1 h2 h3 st hcl
    subst h1; subst h2; subst h3
    exact Or.inr ⟨q, (T.setVm vm₁).calling g' mk (Value.ref b :: As).toArray, t, U', L, E, ce, hT, X', hL, e1, e2, hq, hce, hcv, vx_cls hW₁ hcl, st⟩
theorem vx_runSX {hh : List (Nat × Nat × Nat × Nat)} (S : CallFix p m c cc nL s args Ts own) (hM : vx_Met l y ws rm Pc Qc XC mc ms free) (cw : vx_CSW R s args own index y bytes maxL ret hh ws rm mc ms n) (hp : PreS s H Pc As)
    (hg : g.method = m) (hn : As.length = n) (hsize : g.locals.size = nL) (hstack : g.stack = As.reverse ++ rest) (hW : 2 * g.monitorRoom + (rest.map fun v => v.category).sum ≤ 8) (hdg : decode cc g.pc = .ok (.invokestatic index, 3)) (hf : cells + mc ≤ R.cells ∧ slots + ms ≤ R.slots) :
    vx_Run p l e R s m args below meth c H locs cells slots mc ms g rest (Qc As.toArray) XC free := by
  obtain ⟨⟨hrc, hrs, hfr, hlo, hws, hcw⟩, hcode, hini, hy, hlen, hl, hstt⟩ := cw
  have hK : vx_Back l R p e below s args y 3 8 (PreOf R mc ms Pc) (PostOf Qc mc ms free) (vx_Post XC mc ms free) := vx_backW (hh := hh) (bytes := bytes) (maxL := maxL) (ret := ret) hM hp.1 hrc hrs hfr hlo hws hcw (fun a' U hW => word_at hW (Or.inl (by first | rfl | simp [Cond.onTables, Cond.keeps, Cond.steady])) hini)
  obtain ⟨hx, hb, hml, ho, -⟩ := S
  intro T hT X
  rcases vx_callSX X hx (hh := hh) (bytes := bytes) (maxL := maxL) (ret := ret) ho hl hstt hini hcode hy hK hg (hsize.trans hml.symm) (argsL := As) (rest := rest) (fun sig h => hn.trans (hlen sig h)) hstack hW (by rw [hb]; exact hdg)
    (fun vm₁ hW₁ => ⟨hf.1, hf.2, hp.2 (T.setVm vm₁) hT hW₁⟩) with ⟨v, vm₁, ⟨U', l2, c2, s2⟩, hW₁, X', ⟨g', mk, t, L, e1, e2, hq, h1, hL, h2, h3⟩, st⟩ | ⟨q, vm₁, ⟨U', l2, c2, s2⟩, hW₁, X', ⟨g', mk, t, L, E, ce, e1, e2, hq, hce, hcv, hcl, h1, hL, h2, h3⟩, st⟩
  · dsimp only [Pt.U, Pt.locs, Pt.cells, Pt.slots] at X' e1 e2 h1 h2 h3 st
    subst h1; subst h2; subst h3
    exact Or.inl ⟨v, (T.setVm vm₁).calling g' mk As.toArray, t, U', L, hT, X', hL, e1, e2, hq, st⟩
  · dsimp only [Pt.U, Pt.locs, Pt.cells, Pt.slots] at X' e1 e2 h1 h2 h3 st hcl
    subst h1; subst h2; subst h3
    exact Or.inr ⟨q, (T.setVm vm₁).calling g' mk As.toArray, t, U', L, E, ce, hT, X', hL, e1, e2, hq, hce, hcv, vx_cls hW₁ hcl, st⟩
end
end VXH
theorem vx_ofWH {l : Launch} {y : MethodName} {ws ws' : List Cond} {rm : Room} {Pc : Array Value → State → Prop} {Qc : Array Value → State → Outcome → State → Prop} {XC : String → State → State → Prop} {mc ms : Nat} {free : Addr → Prop} {cc : ByteArray} {maxL : Nat} {ret : Option FieldType} {hh : List (Nat × Nat × Nat × Nat)}
    (hy : plainName y.cls = true) (hw : ws = Cond.codeWith y cc maxL ret hh :: ws')
    (body : ∀ p e s m args below meth c s₁, BodyLoose p l y (headSpec ws rm) cc maxL ret e s m args below meth c s₁ → c.maxLocals = maxL → Pc args s →
      W p l e (headSpec ws rm).room s m args below meth c s.heap [] 0 0 (vx_MQ below Qc XC args s mc ms free) (entryFrame m args maxL)) : vx_Met l y ws rm Pc Qc XC mc ms free := by
  refine MetFree.of_bodyS (code := cc) (maxLocals := maxL) (ret := ret) hy ?_ ?_
  · intro args s m h hn
    obtain ⟨m9, meth, c, hn9, h1, h2, h3, h4, -, h5, h6, -⟩ := Cond.codeWith_spec (atoms_spec (ws := ws) h _ (by rw [hw]; exact List.mem_cons_self))
    cases hn.symm.trans hn9
    exact ⟨meth, c, h1, h2, h3, h4, h5, h6⟩
  · intro p e s m args below meth c s₁ B hml hP _
    have hh0 : s₁.heap = s.heap := by rw [B.state]; rfl
    obtain ⟨t, a1, o, b1, b2, b3⟩ := body p e s m args below meth c s₁ B hml hP s₁ hh0 (Stand.of_body B)
    exact ⟨t, o, a1, b1, b2, b3⟩
/-! ===== END ===== -/

def RX0 : String := "HeadYear$Buyings"
def TX0 : u_T := fun k => match k with
  | 0 => ("HeadYear$Buyings", "family", "[I", true)
  | 1 => ("HeadYear$Buyings", "levels", "[I", true)
  | 2 => ("HeadYear$Buyings", "cost", "[I", true)
  | 3 => ("HeadYear$Buyings", "count", "I", false)
  | _ => ("HeadYear$Buyings", "price", "I", false)
def tyX0 : Nat → FieldType := fun k => match k with
  | 0 => .array .int
  | 1 => .array .int
  | 2 => .array .int
  | 3 => .int
  | _ => .int
theorem nmX0 : ∀ a, a < 5 → ∀ b, b < 5 → a ≠ b → (TX0 a).2.1 ≠ (TX0 b).2.1 := by decide +kernel
theorem tyX0_ok : ∀ k, k < 5 → parseFieldDescriptor (TX0 k).2.2.1 = some (tyX0 k) := by decide +kernel
abbrev cX0_init : ByteArray := prog_2_method_1_code
def yX0_init : MethodName := ⟨RX0, "<init>", "()V"⟩
def RX1 : String := "HeadYear$Diary"
def TX1 : u_T := fun k => match k with
  | 0 => ("HeadYear$Diary", "level", "[I", true)
  | 1 => ("HeadYear$Diary", "heads", "[I", true)
  | _ => ("HeadYear$Diary", "years", "I", false)
def tyX1 : Nat → FieldType := fun k => match k with
  | 0 => .array .int
  | 1 => .array .int
  | _ => .int
theorem nmX1 : ∀ a, a < 3 → ∀ b, b < 3 → a ≠ b → (TX1 a).2.1 ≠ (TX1 b).2.1 := by decide +kernel
theorem tyX1_ok : ∀ k, k < 3 → parseFieldDescriptor (TX1 k).2.2.1 = some (tyX1 k) := by decide +kernel
abbrev cX1_init : ByteArray := prog_3_method_1_code
def yX1_init : MethodName := ⟨RX1, "<init>", "()V"⟩
def RX2 : String := "HeadYear$Folk"
def TX2 : u_T := fun k => match k with
  | 0 => ("HeadYear$Folk", "heads", "[I", true)
  | 1 => ("HeadYear$Folk", "level", "[I", true)
  | 2 => ("HeadYear$Folk", "hut", "[I", true)
  | 3 => ("HeadYear$Folk", "debt", "[I", true)
  | 4 => ("HeadYear$Folk", "born", "[I", true)
  | 5 => ("HeadYear$Folk", "dead", "[I", true)
  | 6 => ("HeadYear$Folk", "bought", "[I", true)
  | 7 => ("HeadYear$Folk", "spent", "[I", true)
  | 8 => ("HeadYear$Folk", "hushed", "[Z", true)
  | 9 => ("HeadYear$Folk", "valley", "LHeadYear$Valley;", false)
  | 10 => ("HeadYear$Folk", "x", "J", false)
  | _ => ("HeadYear$Folk", "years", "I", false)
def tyX2 : Nat → FieldType := fun k => match k with
  | 0 => .array .int
  | 1 => .array .int
  | 2 => .array .int
  | 3 => .array .int
  | 4 => .array .int
  | 5 => .array .int
  | 6 => .array .int
  | 7 => .array .int
  | 8 => .array .boolean
  | 9 => .object "HeadYear$Valley"
  | 10 => .long
  | _ => .int
theorem nmX2 : ∀ a, a < 12 → ∀ b, b < 12 → a ≠ b → (TX2 a).2.1 ≠ (TX2 b).2.1 := by decide +kernel
theorem tyX2_ok : ∀ k, k < 12 → parseFieldDescriptor (TX2 k).2.2.1 = some (tyX2 k) := by decide +kernel
abbrev cX2_init : ByteArray := prog_4_method_1_code
def yX2_init : MethodName := ⟨RX2, "<init>", "()V"⟩
abbrev cX2_familiesAt : ByteArray := prog_4_method_8_code
def yX2_familiesAt : MethodName := ⟨RX2, "familiesAt", "(I)I"⟩
abbrev cX2_goneFamilies : ByteArray := prog_4_method_11_code
def yX2_goneFamilies : MethodName := ⟨RX2, "goneFamilies", "()I"⟩
def RX3 : String := "HeadYear$Law"
def TX3 : u_T := fun k => match k with
  | 0 => ("HeadYear$Law", "code", "[I", true)
  | 1 => ("HeadYear$Law", "stack", "[I", true)
  | _ => ("HeadYear$Law", "length", "I", false)
def tyX3 : Nat → FieldType := fun k => match k with
  | 0 => .array .int
  | 1 => .array .int
  | _ => .int
theorem nmX3 : ∀ a, a < 3 → ∀ b, b < 3 → a ≠ b → (TX3 a).2.1 ≠ (TX3 b).2.1 := by decide +kernel
theorem tyX3_ok : ∀ k, k < 3 → parseFieldDescriptor (TX3 k).2.2.1 = some (tyX3 k) := by decide +kernel
abbrev cX3_init : ByteArray := prog_5_method_1_code
def yX3_init : MethodName := ⟨RX3, "<init>", "()V"⟩
abbrev cX3_bornLessDead : ByteArray := prog_5_method_2_code
def yX3_bornLessDead : MethodName := ⟨RX3, "bornLessDead", "()LHeadYear$Law;"⟩
abbrev cX3_add : ByteArray := prog_5_method_3_code
def yX3_add : MethodName := ⟨RX3, "add", "(II)V"⟩
def RX4 : String := "HeadYear$LawReader"
def TX4 : u_T := fun k => match k with
  | _ => ("HeadYear$LawReader", "draft", "LHeadYear$Law;", false)
def tyX4 : Nat → FieldType := fun k => match k with
  | _ => .object "HeadYear$Law"
theorem nmX4 : ∀ a, a < 1 → ∀ b, b < 1 → a ≠ b → (TX4 a).2.1 ≠ (TX4 b).2.1 := by decide +kernel
theorem tyX4_ok : ∀ k, k < 1 → parseFieldDescriptor (TX4 k).2.2.1 = some (tyX4 k) := by decide +kernel
abbrev cX4_init : ByteArray := prog_6_method_1_code
def yX4_init : MethodName := ⟨RX4, "<init>", "()V"⟩
abbrev cX4_faultOf : ByteArray := prog_6_method_2_code
def yX4_faultOf : MethodName := ⟨RX4, "faultOf", "(LHeadYear$Tape;)I"⟩
abbrev cX4_readClause : ByteArray := prog_6_method_3_code
def yX4_readClause : MethodName := ⟨RX4, "readClause", "(LHeadYear$Tape;)Z"⟩
def RX5 : String := "HeadYear$Moves"
def TX5 : u_T := fun k => match k with
  | _ => ("HeadYear$Moves", "there", "[I", true)
def tyX5 : Nat → FieldType := fun k => match k with
  | _ => .array .int
theorem nmX5 : ∀ a, a < 1 → ∀ b, b < 1 → a ≠ b → (TX5 a).2.1 ≠ (TX5 b).2.1 := by decide +kernel
theorem tyX5_ok : ∀ k, k < 1 → parseFieldDescriptor (TX5 k).2.2.1 = some (tyX5 k) := by decide +kernel
abbrev cX5_init : ByteArray := prog_7_method_1_code
def yX5_init : MethodName := ⟨RX5, "<init>", "()V"⟩
def RX6 : String := "HeadYear$Odds"
def TX6 : u_T := fun k => match k with
  | 0 => ("HeadYear$Odds", "letters", "[I", true)
  | 1 => ("HeadYear$Odds", "dying", "[J", true)
  | 2 => ("HeadYear$Odds", "folk", "LHeadYear$Folk;", true)
  | 3 => ("HeadYear$Odds", "parts", "[J", false)
  | 4 => ("HeadYear$Odds", "after", "[J", false)
  | 5 => ("HeadYear$Odds", "law", "LHeadYear$Law;", false)
  | _ => ("HeadYear$Odds", "gone", "J", false)
def tyX6 : Nat → FieldType := fun k => match k with
  | 0 => .array .int
  | 1 => .array .long
  | 2 => .object "HeadYear$Folk"
  | 3 => .array .long
  | 4 => .array .long
  | 5 => .object "HeadYear$Law"
  | _ => .long
theorem nmX6 : ∀ a, a < 7 → ∀ b, b < 7 → a ≠ b → (TX6 a).2.1 ≠ (TX6 b).2.1 := by decide +kernel
theorem tyX6_ok : ∀ k, k < 7 → parseFieldDescriptor (TX6 k).2.2.1 = some (tyX6 k) := by decide +kernel
abbrev cX6_init : ByteArray := prog_8_method_1_code
def yX6_init : MethodName := ⟨RX6, "<init>", "(LHeadYear$Folk;LHeadYear$Law;)V"⟩
def RX7 : String := "HeadYear$Seasons"
def TX7 : u_T := fun k => match k with
  | 0 => ("HeadYear$Seasons", "lacks", "[I", true)
  | 1 => ("HeadYear$Seasons", "letters", "[I", true)
  | 2 => ("HeadYear$Seasons", "ring", "[I", true)
  | 3 => ("HeadYear$Seasons", "find", "I", false)
  | _ => ("HeadYear$Seasons", "luck", "Z", false)
def tyX7 : Nat → FieldType := fun k => match k with
  | 0 => .array .int
  | 1 => .array .int
  | 2 => .array .int
  | 3 => .int
  | _ => .boolean
theorem nmX7 : ∀ a, a < 5 → ∀ b, b < 5 → a ≠ b → (TX7 a).2.1 ≠ (TX7 b).2.1 := by decide +kernel
theorem tyX7_ok : ∀ k, k < 5 → parseFieldDescriptor (TX7 k).2.2.1 = some (tyX7 k) := by decide +kernel
abbrev cX7_init : ByteArray := prog_9_method_1_code
def yX7_init : MethodName := ⟨RX7, "<init>", "()V"⟩
def RX8 : String := "HeadYear$Tape"
def TX8 : u_T := fun k => match k with
  | 0 => ("HeadYear$Tape", "bytes", "[I", true)
  | 1 => ("HeadYear$Tape", "length", "I", false)
  | 2 => ("HeadYear$Tape", "at", "I", false)
  | _ => ("HeadYear$Tape", "number", "I", false)
def tyX8 : Nat → FieldType := fun k => match k with
  | 0 => .array .int
  | 1 => .int
  | 2 => .int
  | _ => .int
theorem nmX8 : ∀ a, a < 4 → ∀ b, b < 4 → a ≠ b → (TX8 a).2.1 ≠ (TX8 b).2.1 := by decide +kernel
theorem tyX8_ok : ∀ k, k < 4 → parseFieldDescriptor (TX8 k).2.2.1 = some (tyX8 k) := by decide +kernel
abbrev cX8_init : ByteArray := prog_10_method_1_code
def yX8_init : MethodName := ⟨RX8, "<init>", "()V"⟩
abbrev cX8_bytesOf : ByteArray := prog_10_method_2_code
def yX8_bytesOf : MethodName := ⟨RX8, "bytesOf", "(I)I"⟩
abbrev cX8_append : ByteArray := prog_10_method_3_code
def yX8_append : MethodName := ⟨RX8, "append", "(I)V"⟩
abbrev cX8_next : ByteArray := prog_10_method_4_code
def yX8_next : MethodName := ⟨RX8, "next", "()I"⟩
abbrev cX8_take : ByteArray := prog_10_method_5_code
def yX8_take : MethodName := ⟨RX8, "take", "(I)Z"⟩
def RX9 : String := "HeadYear$Valley"
def TX9 : u_T := fun k => match k with
  | 0 => ("HeadYear$Valley", "huts", "[I", true)
  | 1 => ("HeadYear$Valley", "food", "[I", true)
  | 2 => ("HeadYear$Valley", "danger", "[I", true)
  | 3 => ("HeadYear$Valley", "brow", "[I", true)
  | 4 => ("HeadYear$Valley", "firstHeads", "[I", true)
  | 5 => ("HeadYear$Valley", "firstLevel", "[I", true)
  | 6 => ("HeadYear$Valley", "birth", "[I", true)
  | 7 => ("HeadYear$Valley", "twin", "[I", true)
  | 8 => ("HeadYear$Valley", "levels", "I", false)
  | _ => ("HeadYear$Valley", "families", "I", false)
def tyX9 : Nat → FieldType := fun k => match k with
  | 0 => .array .int
  | 1 => .array .int
  | 2 => .array .int
  | 3 => .array .int
  | 4 => .array .int
  | 5 => .array .int
  | 6 => .array .int
  | 7 => .array .int
  | 8 => .int
  | _ => .int
theorem nmX9 : ∀ a, a < 10 → ∀ b, b < 10 → a ≠ b → (TX9 a).2.1 ≠ (TX9 b).2.1 := by decide +kernel
theorem tyX9_ok : ∀ k, k < 10 → parseFieldDescriptor (TX9 k).2.2.1 = some (tyX9 k) := by decide +kernel
abbrev cX9_init : ByteArray := prog_11_method_1_code
def yX9_init : MethodName := ⟨RX9, "<init>", "()V"⟩
abbrev cX9_clear : ByteArray := prog_11_method_2_code
def yX9_clear : MethodName := ⟨RX9, "clear", "()V"⟩
def RX10 : String := "HeadYear$ValleyReader"
def TX10 : u_T := fun k => match k with
  | 0 => ("HeadYear$ValleyReader", "items", "[I", true)
  | _ => ("HeadYear$ValleyReader", "draft", "LHeadYear$Valley;", false)
def tyX10 : Nat → FieldType := fun k => match k with
  | 0 => .array .int
  | _ => .object "HeadYear$Valley"
theorem nmX10 : ∀ a, a < 2 → ∀ b, b < 2 → a ≠ b → (TX10 a).2.1 ≠ (TX10 b).2.1 := by decide +kernel
theorem tyX10_ok : ∀ k, k < 2 → parseFieldDescriptor (TX10 k).2.2.1 = some (tyX10 k) := by decide +kernel
abbrev cX10_init : ByteArray := prog_12_method_1_code
def yX10_init : MethodName := ⟨RX10, "<init>", "()V"⟩
abbrev cX10_faultOf : ByteArray := prog_12_method_2_code
def yX10_faultOf : MethodName := ⟨RX10, "faultOf", "(LHeadYear$Tape;)I"⟩
abbrev cX10_readClause : ByteArray := prog_12_method_3_code
def yX10_readClause : MethodName := ⟨RX10, "readClause", "(LHeadYear$Tape;)Z"⟩
def RX11 : String := "HeadYear"
def TX11 : u_T := fun k => match k with
  | 0 => ("HeadYear", "tape", "LHeadYear$Tape;", true)
  | 1 => ("HeadYear", "valleyReader", "LHeadYear$ValleyReader;", true)
  | 2 => ("HeadYear", "lawReader", "LHeadYear$LawReader;", true)
  | 3 => ("HeadYear", "laws", "[LHeadYear$Law;", true)
  | 4 => ("HeadYear", "noLaw", "LHeadYear$Law;", true)
  | 5 => ("HeadYear", "folk", "LHeadYear$Folk;", true)
  | 6 => ("HeadYear", "trial", "LHeadYear$Folk;", true)
  | 7 => ("HeadYear", "imageFolk", "LHeadYear$Folk;", true)
  | 8 => ("HeadYear", "diary", "LHeadYear$Diary;", true)
  | 9 => ("HeadYear", "buyings", "LHeadYear$Buyings;", true)
  | 10 => ("HeadYear", "seasons", "LHeadYear$Seasons;", true)
  | 11 => ("HeadYear", "moves", "LHeadYear$Moves;", true)
  | 12 => ("HeadYear", "chances", "LHeadYear$Odds;", true)
  | 13 => ("HeadYear", "lawCount", "I", false)
  | 14 => ("HeadYear", "heldLaw", "I", false)
  | _ => ("HeadYear", "imaged", "Z", false)
def tyX11 : Nat → FieldType := fun k => match k with
  | 0 => .object "HeadYear$Tape"
  | 1 => .object "HeadYear$ValleyReader"
  | 2 => .object "HeadYear$LawReader"
  | 3 => .array (.object "HeadYear$Law")
  | 4 => .object "HeadYear$Law"
  | 5 => .object "HeadYear$Folk"
  | 6 => .object "HeadYear$Folk"
  | 7 => .object "HeadYear$Folk"
  | 8 => .object "HeadYear$Diary"
  | 9 => .object "HeadYear$Buyings"
  | 10 => .object "HeadYear$Seasons"
  | 11 => .object "HeadYear$Moves"
  | 12 => .object "HeadYear$Odds"
  | 13 => .int
  | 14 => .int
  | _ => .boolean
theorem nmX11 : ∀ a, a < 16 → ∀ b, b < 16 → a ≠ b → (TX11 a).2.1 ≠ (TX11 b).2.1 := by decide +kernel
theorem tyX11_ok : ∀ k, k < 16 → parseFieldDescriptor (TX11 k).2.2.1 = some (tyX11 k) := by decide +kernel
abbrev cX11_init : ByteArray := prog_1_method_1_code
def yX11_init : MethodName := ⟨RX11, "<init>", "()V"⟩
abbrev cX11_feed : ByteArray := prog_1_method_2_code
def yX11_feed : MethodName := ⟨RX11, "feed", "(IIIII)I"⟩
abbrev cX11_end : ByteArray := prog_1_method_3_code
def yX11_end : MethodName := ⟨RX11, "end", "(I)Z"⟩
abbrev cX11_fault : ByteArray := prog_1_method_4_code
def yX11_fault : MethodName := ⟨RX11, "fault", "(I)I"⟩
abbrev cX11_text : ByteArray := prog_1_method_5_code
def yX11_text : MethodName := ⟨RX11, "text", "(I)I"⟩
abbrev cX11_level : ByteArray := prog_1_method_6_code
def yX11_level : MethodName := ⟨RX11, "level", "(II)I"⟩
abbrev cX11_family : ByteArray := prog_1_method_7_code
def yX11_family : MethodName := ⟨RX11, "family", "(II)I"⟩
abbrev cX11_hut : ByteArray := prog_1_method_8_code
def yX11_hut : MethodName := ⟨RX11, "hut", "(II)I"⟩
abbrev cX11_law : ByteArray := prog_1_method_9_code
def yX11_law : MethodName := ⟨RX11, "law", "(I)Z"⟩
abbrev cX11_set : ByteArray := prog_1_method_10_code
def yX11_set : MethodName := ⟨RX11, "set", "(II)Z"⟩
abbrev cX11_seed : ByteArray := prog_1_method_11_code
def yX11_seed : MethodName := ⟨RX11, "seed", "(J)Z"⟩
abbrev cX11_winters : ByteArray := prog_1_method_12_code
def yX11_winters : MethodName := ⟨RX11, "winters", "(I)I"⟩
abbrev cX11_spring : ByteArray := prog_1_method_13_code
def yX11_spring : MethodName := ⟨RX11, "spring", "()I"⟩
abbrev cX11_buy : ByteArray := prog_1_method_14_code
def yX11_buy : MethodName := ⟨RX11, "buy", "(II)I"⟩
abbrev cX11_undo : ByteArray := prog_1_method_15_code
def yX11_undo : MethodName := ⟨RX11, "undo", "()I"⟩
abbrev cX11_hush : ByteArray := prog_1_method_16_code
def yX11_hush : MethodName := ⟨RX11, "hush", "(IZ)Z"⟩
abbrev cX11_waiting : ByteArray := prog_1_method_17_code
def yX11_waiting : MethodName := ⟨RX11, "waiting", "()I"⟩
abbrev cX11_most : ByteArray := prog_1_method_18_code
def yX11_most : MethodName := ⟨RX11, "most", "(I)I"⟩
abbrev cX11_needs : ByteArray := prog_1_method_19_code
def yX11_needs : MethodName := ⟨RX11, "needs", "(I)I"⟩
abbrev cX11_odds : ByteArray := prog_1_method_20_code
def yX11_odds : MethodName := ⟨RX11, "odds", "(III)I"⟩
abbrev cX11_tried : ByteArray := prog_1_method_21_code
def yX11_tried : MethodName := ⟨RX11, "tried", "(IIII)I"⟩
abbrev cX11_reform : ByteArray := prog_1_method_22_code
def yX11_reform : MethodName := ⟨RX11, "reform", "(II)I"⟩
abbrev cX11_diary : ByteArray := prog_1_method_23_code
def yX11_diary : MethodName := ⟨RX11, "diary", "(III)I"⟩
abbrev cX11_climb : ByteArray := prog_1_method_24_code
def yX11_climb : MethodName := ⟨RX11, "climb", "(II)I"⟩
abbrev cX11_full : ByteArray := prog_1_method_25_code
def yX11_full : MethodName := ⟨RX11, "full", "()I"⟩
abbrev cX11_hungry : ByteArray := prog_1_method_26_code
def yX11_hungry : MethodName := ⟨RX11, "hungry", "(I)I"⟩
abbrev cX11_rank : ByteArray := prog_1_method_27_code
def yX11_rank : MethodName := ⟨RX11, "rank", "(I)I"⟩
abbrev cX11_met : ByteArray := prog_1_method_28_code
def yX11_met : MethodName := ⟨RX11, "met", "(III)I"⟩
abbrev cX11_leap : ByteArray := prog_1_method_29_code
def yX11_leap : MethodName := ⟨RX11, "leap", "(I)I"⟩
abbrev cX11_leanest : ByteArray := prog_1_method_30_code
def yX11_leanest : MethodName := ⟨RX11, "leanest", "(I)I"⟩
abbrev cX11_mean : ByteArray := prog_1_method_31_code
def yX11_mean : MethodName := ⟨RX11, "mean", "(II)J"⟩
abbrev cX11_advice : ByteArray := prog_1_method_32_code
def yX11_advice : MethodName := ⟨RX11, "advice", "(IIII)I"⟩
abbrev cX11_image : ByteArray := prog_1_method_33_code
def yX11_image : MethodName := ⟨RX11, "image", "()I"⟩
abbrev cX11_back : ByteArray := prog_1_method_34_code
def yX11_back : MethodName := ⟨RX11, "back", "()I"⟩
abbrev cX11_count : ByteArray := prog_1_method_35_code
def yX11_count : MethodName := ⟨RX11, "count", "(I)I"⟩
abbrev cX11_hasValley : ByteArray := prog_1_method_36_code
def yX11_hasValley : MethodName := ⟨RX11, "hasValley", "()Z"⟩
abbrev cX11_isLevel : ByteArray := prog_1_method_37_code
def yX11_isLevel : MethodName := ⟨RX11, "isLevel", "(I)Z"⟩
abbrev cX11_isFamily : ByteArray := prog_1_method_38_code
def yX11_isFamily : MethodName := ⟨RX11, "isFamily", "(I)Z"⟩
abbrev cX11_lives : ByteArray := prog_1_method_39_code
def yX11_lives : MethodName := ⟨RX11, "lives", "(I)Z"⟩
abbrev cX11_isLaw : ByteArray := prog_1_method_40_code
def yX11_isLaw : MethodName := ⟨RX11, "isLaw", "(I)Z"⟩
def RX12 : String := "HeadYearModel"
def TX12 : u_T := fun k => match k with
  | 0 => ("HeadYearModel", "thrown", "I", false)
  | 1 => ("HeadYearModel", "tape", "[I", true)
  | 2 => ("HeadYearModel", "size", "I", false)
  | 3 => ("HeadYearModel", "at", "I", false)
  | 4 => ("HeadYearModel", "wrong", "I", false)
  | 5 => ("HeadYearModel", "deep", "I", false)
  | 6 => ("HeadYearModel", "code", "[I", true)
  | 7 => ("HeadYearModel", "value", "[I", true)
  | 8 => ("HeadYearModel", "codes", "[I", true)
  | 9 => ("HeadYearModel", "clauses", "[I", true)
  | 10 => ("HeadYearModel", "testFrom", "[I", true)
  | 11 => ("HeadYearModel", "sumFrom", "[I", true)
  | 12 => ("HeadYearModel", "sumTo", "[I", true)
  | 13 => ("HeadYearModel", "laws", "I", false)
  | 14 => ("HeadYearModel", "text", "I", false)
  | 15 => ("HeadYearModel", "letters", "[I", true)
  | 16 => ("HeadYearModel", "stack", "[I", true)
  | 17 => ("HeadYearModel", "readLevel", "[I", true)
  | 18 => ("HeadYearModel", "readFamily", "[I", true)
  | 19 => ("HeadYearModel", "readLevels", "I", false)
  | 20 => ("HeadYearModel", "readFamilies", "I", false)
  | 21 => ("HeadYearModel", "levelRow", "[I", true)
  | 22 => ("HeadYearModel", "birth", "[I", true)
  | 23 => ("HeadYearModel", "twin", "[I", true)
  | 24 => ("HeadYearModel", "levels", "I", false)
  | 25 => ("HeadYearModel", "families", "I", false)
  | 26 => ("HeadYearModel", "now", "[I", true)
  | 27 => ("HeadYearModel", "aside", "[I", true)
  | 28 => ("HeadYearModel", "image", "[I", true)
  | 29 => ("HeadYearModel", "years", "I", false)
  | 30 => ("HeadYearModel", "draws", "J", false)
  | 31 => ("HeadYearModel", "holding", "I", false)
  | 32 => ("HeadYearModel", "find", "I", false)
  | 33 => ("HeadYearModel", "luck", "I", false)
  | 34 => ("HeadYearModel", "price", "I", false)
  | 35 => ("HeadYearModel", "lacks", "[I", true)
  | 36 => ("HeadYearModel", "toLevel", "[I", true)
  | 37 => ("HeadYearModel", "toHut", "[I", true)
  | 38 => ("HeadYearModel", "diaryLevel", "[I", true)
  | 39 => ("HeadYearModel", "diaryHeads", "[I", true)
  | 40 => ("HeadYearModel", "buyer", "[I", true)
  | 41 => ("HeadYearModel", "buyBy", "[I", true)
  | 42 => ("HeadYearModel", "buyCost", "[I", true)
  | 43 => ("HeadYearModel", "buys", "I", false)
  | 44 => ("HeadYearModel", "far", "[I", true)
  | 45 => ("HeadYearModel", "parts", "[J", true)
  | 46 => ("HeadYearModel", "then", "[J", true)
  | 47 => ("HeadYearModel", "dying", "[J", true)
  | 48 => ("HeadYearModel", "goneParts", "J", false)
  | 49 => ("HeadYearModel", "imageLevel", "[I", true)
  | 50 => ("HeadYearModel", "imageHeads", "[I", true)
  | 51 => ("HeadYearModel", "imageYears", "I", false)
  | 52 => ("HeadYearModel", "imageDraws", "J", false)
  | _ => ("HeadYearModel", "hasImage", "Z", false)
def tyX12 : Nat → FieldType := fun k => match k with
  | 0 => .int
  | 1 => .array .int
  | 2 => .int
  | 3 => .int
  | 4 => .int
  | 5 => .int
  | 6 => .array .int
  | 7 => .array .int
  | 8 => .array .int
  | 9 => .array .int
  | 10 => .array .int
  | 11 => .array .int
  | 12 => .array .int
  | 13 => .int
  | 14 => .int
  | 15 => .array .int
  | 16 => .array .int
  | 17 => .array .int
  | 18 => .array .int
  | 19 => .int
  | 20 => .int
  | 21 => .array .int
  | 22 => .array .int
  | 23 => .array .int
  | 24 => .int
  | 25 => .int
  | 26 => .array .int
  | 27 => .array .int
  | 28 => .array .int
  | 29 => .int
  | 30 => .long
  | 31 => .int
  | 32 => .int
  | 33 => .int
  | 34 => .int
  | 35 => .array .int
  | 36 => .array .int
  | 37 => .array .int
  | 38 => .array .int
  | 39 => .array .int
  | 40 => .array .int
  | 41 => .array .int
  | 42 => .array .int
  | 43 => .int
  | 44 => .array .int
  | 45 => .array .long
  | 46 => .array .long
  | 47 => .array .long
  | 48 => .long
  | 49 => .array .int
  | 50 => .array .int
  | 51 => .int
  | 52 => .long
  | _ => .boolean
theorem nmX12 : ∀ a, a < 54 → ∀ b, b < 54 → a ≠ b → (TX12 a).2.1 ≠ (TX12 b).2.1 := by decide +kernel
theorem tyX12_ok : ∀ k, k < 54 → parseFieldDescriptor (TX12 k).2.2.1 = some (tyX12 k) := by decide +kernel
abbrev cX12_in : ByteArray := prog_14_method_1_code
def yX12_in : MethodName := ⟨RX12, "in", "(III)Z"⟩
abbrev cX12_init : ByteArray := prog_14_method_3_code
def yX12_init : MethodName := ⟨RX12, "<init>", "()V"⟩
abbrev cX12_thrown : ByteArray := prog_14_method_4_code
def yX12_thrown : MethodName := ⟨RX12, "thrown", "()I"⟩
abbrev cX12_byteOf : ByteArray := prog_14_method_5_code
def yX12_byteOf : MethodName := ⟨RX12, "byteOf", "(IIIIII)I"⟩
abbrev cX12_feed : ByteArray := prog_14_method_6_code
def yX12_feed : MethodName := ⟨RX12, "feed", "(IIIII)I"⟩
abbrev cX12_end : ByteArray := prog_14_method_7_code
def yX12_end : MethodName := ⟨RX12, "end", "(I)Z"⟩
abbrev cX12_here : ByteArray := prog_14_method_8_code
def yX12_here : MethodName := ⟨RX12, "here", "()I"⟩
abbrev cX12_look : ByteArray := prog_14_method_9_code
def yX12_look : MethodName := ⟨RX12, "look", "()I"⟩
abbrev cX12_bad : ByteArray := prog_14_method_10_code
def yX12_bad : MethodName := ⟨RX12, "bad", "()V"⟩
abbrev cX12_clause : ByteArray := prog_14_method_26_code
def yX12_clause : MethodName := ⟨RX12, "clause", "()V"⟩
abbrev cX12_open : ByteArray := prog_14_method_27_code
def yX12_open : MethodName := ⟨RX12, "open", "(I)V"⟩
abbrev cX12_atEnd : ByteArray := prog_14_method_28_code
def yX12_atEnd : MethodName := ⟨RX12, "atEnd", "()I"⟩
abbrev cX12_readLaw : ByteArray := prog_14_method_29_code
def yX12_readLaw : MethodName := ⟨RX12, "readLaw", "(I)I"⟩
abbrev cX12_clauseText : ByteArray := prog_14_method_42_code
def yX12_clauseText : MethodName := ⟨RX12, "clauseText", "()V"⟩
abbrev cX12_readValley : ByteArray := prog_14_method_44_code
def yX12_readValley : MethodName := ⟨RX12, "readValley", "()I"⟩
abbrev cX12_fault : ByteArray := prog_14_method_45_code
def yX12_fault : MethodName := ⟨RX12, "fault", "(I)I"⟩
abbrev cX12_text : ByteArray := prog_14_method_55_code
def yX12_text : MethodName := ⟨RX12, "text", "(I)I"⟩
abbrev cX12_isLevel : ByteArray := prog_14_method_56_code
def yX12_isLevel : MethodName := ⟨RX12, "isLevel", "(I)Z"⟩
abbrev cX12_isFamily : ByteArray := prog_14_method_57_code
def yX12_isFamily : MethodName := ⟨RX12, "isFamily", "(I)Z"⟩
abbrev cX12_level : ByteArray := prog_14_method_60_code
def yX12_level : MethodName := ⟨RX12, "level", "(II)I"⟩
abbrev cX12_family : ByteArray := prog_14_method_63_code
def yX12_family : MethodName := ⟨RX12, "family", "(II)I"⟩
abbrev cX12_hut : ByteArray := prog_14_method_64_code
def yX12_hut : MethodName := ⟨RX12, "hut", "(II)I"⟩
abbrev cX12_law : ByteArray := prog_14_method_65_code
def yX12_law : MethodName := ⟨RX12, "law", "(I)Z"⟩
abbrev cX12_set : ByteArray := prog_14_method_66_code
def yX12_set : MethodName := ⟨RX12, "set", "(II)Z"⟩
abbrev cX12_seed : ByteArray := prog_14_method_67_code
def yX12_seed : MethodName := ⟨RX12, "seed", "(J)Z"⟩
abbrev cX12_winters : ByteArray := prog_14_method_80_code
def yX12_winters : MethodName := ⟨RX12, "winters", "(I)I"⟩
abbrev cX12_spring : ByteArray := prog_14_method_81_code
def yX12_spring : MethodName := ⟨RX12, "spring", "()I"⟩
abbrev cX12_buy : ByteArray := prog_14_method_82_code
def yX12_buy : MethodName := ⟨RX12, "buy", "(II)I"⟩
abbrev cX12_undo : ByteArray := prog_14_method_83_code
def yX12_undo : MethodName := ⟨RX12, "undo", "()I"⟩
abbrev cX12_hush : ByteArray := prog_14_method_84_code
def yX12_hush : MethodName := ⟨RX12, "hush", "(IZ)Z"⟩
abbrev cX12_waiting : ByteArray := prog_14_method_86_code
def yX12_waiting : MethodName := ⟨RX12, "waiting", "()I"⟩
abbrev cX12_most : ByteArray := prog_14_method_88_code
def yX12_most : MethodName := ⟨RX12, "most", "(I)I"⟩
abbrev cX12_needs : ByteArray := prog_14_method_89_code
def yX12_needs : MethodName := ⟨RX12, "needs", "(I)I"⟩
abbrev cX12_odds : ByteArray := prog_14_method_93_code
def yX12_odds : MethodName := ⟨RX12, "odds", "(III)I"⟩
abbrev cX12_isTrial : ByteArray := prog_14_method_95_code
def yX12_isTrial : MethodName := ⟨RX12, "isTrial", "(II)Z"⟩
abbrev cX12_tried : ByteArray := prog_14_method_96_code
def yX12_tried : MethodName := ⟨RX12, "tried", "(IIII)I"⟩
abbrev cX12_reform : ByteArray := prog_14_method_97_code
def yX12_reform : MethodName := ⟨RX12, "reform", "(II)I"⟩
abbrev cX12_diary : ByteArray := prog_14_method_98_code
def yX12_diary : MethodName := ⟨RX12, "diary", "(III)I"⟩
abbrev cX12_climb : ByteArray := prog_14_method_99_code
def yX12_climb : MethodName := ⟨RX12, "climb", "(II)I"⟩
abbrev cX12_full : ByteArray := prog_14_method_100_code
def yX12_full : MethodName := ⟨RX12, "full", "()I"⟩
abbrev cX12_hungry : ByteArray := prog_14_method_101_code
def yX12_hungry : MethodName := ⟨RX12, "hungry", "(I)I"⟩
abbrev cX12_rank : ByteArray := prog_14_method_102_code
def yX12_rank : MethodName := ⟨RX12, "rank", "(I)I"⟩
abbrev cX12_met : ByteArray := prog_14_method_103_code
def yX12_met : MethodName := ⟨RX12, "met", "(III)I"⟩
abbrev cX12_leap : ByteArray := prog_14_method_104_code
def yX12_leap : MethodName := ⟨RX12, "leap", "(I)I"⟩
abbrev cX12_leanest : ByteArray := prog_14_method_106_code
def yX12_leanest : MethodName := ⟨RX12, "leanest", "(I)I"⟩
abbrev cX12_mean : ByteArray := prog_14_method_107_code
def yX12_mean : MethodName := ⟨RX12, "mean", "(II)J"⟩
abbrev cX12_advice : ByteArray := prog_14_method_109_code
def yX12_advice : MethodName := ⟨RX12, "advice", "(IIII)I"⟩
abbrev cX12_image : ByteArray := prog_14_method_110_code
def yX12_image : MethodName := ⟨RX12, "image", "()I"⟩
abbrev cX12_back : ByteArray := prog_14_method_111_code
def yX12_back : MethodName := ⟨RX12, "back", "()I"⟩
abbrev cX12_count : ByteArray := prog_14_method_113_code
def yX12_count : MethodName := ⟨RX12, "count", "(I)I"⟩
def RJx145de : String := "java/io/Serializable"
def TJx145de : u_T := fun k => match k with
  | _ => ("", "", "", false)
def tyJx145de : Nat → FieldType := fun k => match k with
  | _ => .int
abbrev wsJx145de0 : List Cond := u_ws RJx145de TJx145de 0
theorem nmJx145de : ∀ a, a < 0 → ∀ b, b < 0 → a ≠ b → (TJx145de a).2.1 ≠ (TJx145de b).2.1 := by decide +kernel
theorem tyJx145de_ok : ∀ k, k < 0 → parseFieldDescriptor (TJx145de k).2.2.1 = some (tyJx145de k) := by decide +kernel
def RJ6 : String := "java/lang/Integer"
def TJ6 : u_T := fun k => match k with
  | _ => ("", "", "", false)
def tyJ6 : Nat → FieldType := fun k => match k with
  | _ => .int
abbrev wsJ60 : List Cond := u_ws RJ6 TJ6 0
theorem nmJ6 : ∀ a, a < 0 → ∀ b, b < 0 → a ≠ b → (TJ6 a).2.1 ≠ (TJ6 b).2.1 := by decide +kernel
theorem tyJ6_ok : ∀ k, k < 0 → parseFieldDescriptor (TJ6 k).2.2.1 = some (tyJ6 k) := by decide +kernel
abbrev cJ6_bitCount_0f7a4 : ByteArray := prog_17_method_49_code
def yJ6_bitCount_0f7a4 : MethodName := ⟨RJ6, "bitCount", "(I)I"⟩
def RJ9 : String := "java/lang/Math"
def TJ9 : u_T := fun k => match k with
  | _ => ("", "", "", false)
def tyJ9 : Nat → FieldType := fun k => match k with
  | _ => .int
abbrev wsJ90 : List Cond := u_ws RJ9 TJ9 0
theorem nmJ9 : ∀ a, a < 0 → ∀ b, b < 0 → a ≠ b → (TJ9 a).2.1 ≠ (TJ9 b).2.1 := by decide +kernel
theorem tyJ9_ok : ∀ k, k < 0 → parseFieldDescriptor (TJ9 k).2.2.1 = some (tyJ9 k) := by decide +kernel
abbrev cJ9_abs_0f7a4 : ByteArray := prog_18_method_59_code
def yJ9_abs_0f7a4 : MethodName := ⟨RJ9, "abs", "(I)I"⟩
abbrev cJ9_max_7cf53 : ByteArray := prog_18_method_65_code
def yJ9_max_7cf53 : MethodName := ⟨RJ9, "max", "(II)I"⟩
abbrev cJ9_max_f86c9 : ByteArray := prog_18_method_66_code
def yJ9_max_f86c9 : MethodName := ⟨RJ9, "max", "(JJ)J"⟩
abbrev cJ9_min_7cf53 : ByteArray := prog_18_method_69_code
def yJ9_min_7cf53 : MethodName := ⟨RJ9, "min", "(II)I"⟩
abbrev cJ9_min_f86c9 : ByteArray := prog_18_method_70_code
def yJ9_min_f86c9 : MethodName := ⟨RJ9, "min", "(JJ)J"⟩
def RJ7 : String := "java/util/Arrays"
def TJ7 : u_T := fun k => match k with
  | _ => ("", "", "", false)
def tyJ7 : Nat → FieldType := fun k => match k with
  | _ => .int
abbrev wsJ70 : List Cond := u_ws RJ7 TJ7 0
theorem nmJ7 : ∀ a, a < 0 → ∀ b, b < 0 → a ≠ b → (TJ7 a).2.1 ≠ (TJ7 b).2.1 := by decide +kernel
theorem tyJ7_ok : ∀ k, k < 0 → parseFieldDescriptor (TJ7 k).2.2.1 = some (tyJ7 k) := by decide +kernel
abbrev cJ7_fill_d0a16 : ByteArray := prog_21_method_101_code
def yJ7_fill_d0a16 : MethodName := ⟨RJ7, "fill", "([JJ)V"⟩
abbrev cJ7_fill_53178 : ByteArray := prog_21_method_103_code
def yJ7_fill_53178 : MethodName := ⟨RJ7, "fill", "([II)V"⟩
def RL : String := "HeadYearLaw"
abbrev cL_level : ByteArray := method_3_code
def yL_level : MethodName := ⟨RL, "level", "(LHeadYear;II[J)I"⟩
abbrev cL_law : ByteArray := code
def yL_law : MethodName := ⟨RL, "law", "([I)Z"⟩
def wsJ6_bitCount_0f7a4 : List Cond := .code yJ6_bitCount_0f7a4 cJ6_bitCount_0f7a4 1 (some .int) :: ([.constant RJ6 265 (1431655765), .constant RJ6 266 (858993459), .constant RJ6 267 (252645135)])
def wsJ7_fill_53178 : List Cond := .code yJ7_fill_53178 cJ7_fill_53178 4 none :: ([])
def wsJ7_fill_d0a16 : List Cond := .code yJ7_fill_d0a16 cJ7_fill_d0a16 5 none :: ([])
def wsJ9_abs_0f7a4 : List Cond := .code yJ9_abs_0f7a4 cJ9_abs_0f7a4 1 (some .int) :: ([])
def wsJ9_max_7cf53 : List Cond := .code yJ9_max_7cf53 cJ9_max_7cf53 2 (some .int) :: ([])
def wsJ9_max_f86c9 : List Cond := .code yJ9_max_f86c9 cJ9_max_f86c9 4 (some .long) :: ([])
def wsJ9_min_7cf53 : List Cond := .code yJ9_min_7cf53 cJ9_min_7cf53 2 (some .int) :: ([])
def wsJ9_min_f86c9 : List Cond := .code yJ9_min_f86c9 cJ9_min_f86c9 4 (some .long) :: ([])
abbrev vwCl : List vw_C := [(RX0, TX0, 5), (RX1, TX1, 3), (RX2, TX2, 12), (RX3, TX3, 3), (RX4, TX4, 1), (RX5, TX5, 1), (RX6, TX6, 7), (RX7, TX7, 5), (RX8, TX8, 4), (RX9, TX9, 10), (RX10, TX10, 2), (RX11, TX11, 16), (RX12, TX12, 54)]
end
section
/-! THE LAYER: all objects in one pool, an address to its row by a function; a row of a walk here is one of the kit's with the pool's bookkeeping done. -/
abbrev py_E : Type := va_G × ClassId × ClassId × ClassId × ClassId
abbrev py_F : Type := Nat → va_E
abbrev py_ty (E : py_E) : List (ClassId × FieldType) := [(E.2.1, .int), (E.2.2.1, .long), (E.2.2.2.1, .boolean), (E.2.2.2.2, .object RX3)]
/-- what of the tables isn't a good word: the array class of the laws, the private constructors of nest mates -/
def py_nest : List (String × Nat × MethodName) := [(RX11, 9, yX8_init), (RX11, 18, yX10_init), (RX10, 17, yX9_init), (RX11, 25, yX4_init), (RX4, 11, yX3_init), (RX11, 46, yX2_init), (RX2, 42, yX9_init), (RX11, 59, yX1_init), (RX11, 66, yX0_init), (RX11, 73, yX7_init), (RX11, 80, yX5_init), (RX11, 362, yX3_init)]
def py_X (U : State) : Prop := va_AO RX3 U ∧ ∀ q ∈ py_nest, va_Nw (.methodLinkNest q.1 q.2.1 q.2.2 "HeadYear") U
theorem py_X.same {u U : State} (h : u.vm = U.vm) (x : py_X u) : py_X U := ⟨va_AO.moved (by rw [h]; exact Vm.Alike.refl U.vm) x.1, fun q hq => va_Nw.same rfl h (x.2 q hq)⟩
theorem py_X.warm {s U : State} (hW : s.WarmedH U.vm) (x : py_X s) : py_X U := ⟨va_AO.moved hW.alike x.1, fun q hq => va_Nw.warmM hW (x.2 q hq)⟩
/-- the world, inside a method begun at s: the pool's addresses L, each with what f says of it -/
def py_W (E : py_E) (A : Nat → Prop) (s : State) (L : List Nat) (f : py_F) (H : Heap) (locs : List Loc) : Prop :=
  (va_K E.1 vwCl (py_ty E) s ∧ py_X s) ∧ va_P E.1 vwCl (va_pl L f) H ∧ va_D A (va_pl L f) ∧ va_S A s.heap H locs ∧ ∀ q : Nat, s.heap.size ≤ q → A q
/-- at a lies e -/
def py_at (L : List Nat) (f : py_F) (a : Nat) (e : va_E) : Prop := a ∈ L ∧ f a = e
theorem py_at.get {L : List Nat} {f : py_F} {a : Nat} {e : va_E} (h : py_at L f a e) : ∃ k : Nat, (va_pl L f)[k]? = some (a, e) := by
  obtain ⟨k, hk⟩ := va_pl_get (X := []) (f := f) h.1
  rw [h.2] at hk
  exact ⟨k, hk⟩
/-- what lay there lies there still -/
def py_ext (L : List Nat) (f : py_F) (L' : List Nat) (f' : py_F) (a : Nat) : Prop := ∀ b : Nat, b ∈ L → b ≠ a → b ∈ L' ∧ f' b = f b
theorem py_at.ext {L L' : List Nat} {f f' : py_F} {a b : Nat} {e : va_E} (h : py_at L f b e) (x : py_ext L f L' f' a) (hn : b ≠ a) : py_at L' f' b e := by
  obtain ⟨h1, h2⟩ := x b h.1 hn
  exact ⟨h1, h2.trans h.2⟩
def py_all (L : List Nat) (f : py_F) (L' : List Nat) (f' : py_F) : Prop := ∀ b : Nat, b ∈ L → b ∈ L' ∧ f' b = f b
theorem py_at.all {L L' : List Nat} {f f' : py_F} {b : Nat} {e : va_E} (h : py_at L f b e) (x : py_all L f L' f') : py_at L' f' b e := by
  obtain ⟨h1, h2⟩ := x b h.1
  exact ⟨h1, h2.trans h.2⟩
theorem py_ne_kind {L : List Nat} {f : py_F} {a b i j : Nat} {x y : List Value} (ha : py_at L f a (.inr (i, x))) (hb : py_at L f b (.inr (j, y))) (h : i ≠ j) : a ≠ b := by
  intro e
  subst e
  have h1 := ha.2.symm.trans hb.2
  injection h1 with h2
  exact h (congrArg Prod.fst h2)
theorem py_ne_arr {L : List Nat} {f : py_F} {a b i : Nat} {x : List Value} {y : ClassId × vp_A} (ha : py_at L f a (.inr (i, x))) (hb : py_at L f b (.inl y)) : a ≠ b := by
  intro e
  subst e
  have h1 := ha.2.symm.trans hb.2
  cases h1
theorem py_ne_new {L : List Nat} {f : py_F} {a q : Nat} {e : va_E} (ha : py_at L f a e) (hq : q ∉ L) : a ≠ q := fun h => hq (h ▸ ha.1)
/-- a contract's start -/
def py_Pc (E : py_E) (av : List Value) (L : List Nat) (f : py_F) (sz : Nat) : Array Value → State → Prop := va_Pc av (fun U => U.heap.size = sz ∧ va_P E.1 vwCl (va_pl L f) U.heap ∧ (va_K E.1 vwCl (py_ty E) U ∧ py_X U) ∧ va_D (fun _ => True) (va_pl L f))
/-- the world behind it -/
def py_B (E : py_E) (A : Nat → Prop) (u : List Nat × py_F) (t : State) : Prop := va_P E.1 vwCl (va_pl u.1 u.2) t.heap ∧ va_D A (va_pl u.1 u.2)
def py_Qi (E : py_E) (L : List Nat) (f : py_F) (sz : Nat) (post : Int32 → List Nat → py_F → Prop) : Array Value → State → Outcome → State → Prop := va_Qi (fun (r : Int32) (u : List Nat × py_F) => post r u.1 u.2) (py_B E (va_A (va_pl L f) sz)) (va_A (va_pl L f) sz)
def py_Ql (E : py_E) (L : List Nat) (f : py_F) (sz : Nat) (post : Int64 → List Nat → py_F → Prop) : Array Value → State → Outcome → State → Prop := va_Ql (fun (r : Int64) (u : List Nat × py_F) => post r u.1 u.2) (py_B E (va_A (va_pl L f) sz)) (va_A (va_pl L f) sz)
def py_Qv (E : py_E) (L : List Nat) (f : py_F) (sz : Nat) (post : List Nat → py_F → Prop) : Array Value → State → Outcome → State → Prop := va_Qv (fun (u : List Nat × py_F) => post u.1 u.2) (py_B E (va_A (va_pl L f) sz)) (va_A (va_pl L f) sz)
def py_Qr (E : py_E) (L : List Nat) (f : py_F) (sz : Nat) (post : Nat → List Nat → py_F → Prop) : Array Value → State → Outcome → State → Prop := va_Qr (fun (_ : List Nat × py_F) => True) (fun (u : List Nat × py_F) (a : Nat) (t : State) => post a u.1 u.2 ∧ py_B E (va_A (va_pl L f) sz) u t) (va_A (va_pl L f) sz)
theorem py_blind {E : py_E} {av : List Value} {L : List Nat} {f : py_F} {sz : Nat} : FrameBlind (py_Pc E av L f sz) := fun a U g mk q => by
  obtain ⟨q0, q1, qP, qK, qD⟩ := q
  exact ⟨q0, q1, qP, ⟨va_K.moved (u := U) (U := U.calling g mk a) (Vm.Alike.refl U.vm) qK.1, py_X.same (u := U) (U := U.calling g mk a) rfl qK.2⟩, qD⟩
theorem py_start {E : py_E} {av : List Value} {L : List Nat} {f : py_F} {sz : Nat} {a : Array Value} {s : State} (h : py_Pc E av L f sz a s) : a = av.toArray ∧ s.heap.size = sz ∧ py_W E (va_A (va_pl L f) sz) s L f s.heap [] := by
  obtain ⟨q0, q1, qP, qK, qD⟩ := h
  subst q1
  exact ⟨q0, rfl, qK, qP, qD.self, va_S.rf, fun q h => Or.inr h⟩
section PYR
variable {p : Program} {l : Launch} {e : Env} {R : Room} {s : State} {m : MethodId} {args : Array Value} {below : List Frame} {meth : Method} {c : Code} {H : Heap} {locs : List Loc} {cells slots : Nat} {Q : State → Prop}
variable {cc : ByteArray} {nL pc : Nat} {ls : Array Slot} {rest : List Value} {E : py_E} {A : Nat → Prop} {L : List Nat} {f : py_F} {Ts : List Cond} {own : String} {a : Nat}
theorem py_get (G : CallFix p m c cc nL s args Ts own) (hw : py_W E A s L f H locs) {C : String} {T : u_T} {N ci index k : Nat} {fs : List Value} {v : Value} (hin : ∀ w ∈ u_ws C T N, w ∈ Ts) (hc : vwCl[ci]? = some (C, T, N)) (hf : py_at L f a (.inr (ci, fs))) (hk : k < N) (hlink : Cond.fieldLink own index (T k).1 (T k).2.1 (T k).2.2.1 ∈ Ts) (hv : fs[k]? = some v) (hdg : decode cc pc = .ok (.getfield index, 3))
    (kk : W p l e R s m args below meth c H locs cells slots Q (F0 m (pc + 3) ls (v :: rest))) : W p l e R s m args below meth c H locs cells slots Q (F0 m pc ls (.ref a :: rest)) := by
  obtain ⟨q0, hq⟩ := hf.get
  exact va_get G.1 G.2.1 G.2.2.2.2 hin G.2.2.2.1 hw.1.1 hw.2.1 q0 hq hc k hk (G.2.2.2.2 _ hlink) (fun _ h => h) hv hdg kk
theorem py_upd {fs : va_E} {e2 : va_E} {q0 : Nat} (hD : va_D A (va_pl L f)) (hf : py_at L f a fs) (hq : (va_pl L f)[q0]? = some (a, fs)) : (va_pl L f).set q0 (a, e2) = va_pl L (va_up f a e2) := by
  have hq2 : ([] ++ va_pl L f)[q0]? = some (a, f a) := by rw [hf.2]; exact hq
  exact va_pl_set (X := []) hD hf.1 hq2
theorem py_put (G : CallFix p m c cc nL s args Ts own) (hw : py_W E A s L f H locs) {C : String} {T : u_T} {N ci index k : Nat} {fs fs' : List Value} {v : Value} {ty : FieldType} {ty0 : Nat → FieldType} (hty : ∀ k, k < N → parseFieldDescriptor (T k).2.2.1 = some (ty0 k)) (hnm : ∀ a, a < N → ∀ b, b < N → a ≠ b → (T a).2.1 ≠ (T b).2.1) (hin : ∀ w ∈ u_ws C T N, w ∈ Ts) (hc : vwCl[ci]? = some (C, T, N)) (hf : py_at L f a (.inr (ci, fs))) (hk : k < N) (hlink : Cond.fieldLink own index (T k).1 (T k).2.1 (T k).2.2.1 ∈ Ts) (hfin : (T k).2.2.2 = false) (hd : parseFieldDescriptor (T k).2.2.1 = some ty) (hn : narrow ty v = v) (hfit : fits ty v = true) (hl : k < fs.length) (hs : fs.set k v = fs') (hdg : decode cc pc = .ok (.putfield index, 3))
    (kk : ∀ (f' : py_F) (H' : Heap) (locs' : List Loc), py_at L f' a (.inr (ci, fs')) → py_ext L f L f' a → py_W E A s L f' H' locs' → W p l e R s m args below meth c H' locs' cells slots Q (F0 m (pc + 3) ls rest)) : W p l e R s m args below meth c H locs cells slots Q (F0 m pc ls (v :: .ref a :: rest)) := by
  obtain ⟨q0, hq⟩ := hf.get
  subst hs
  refine va_put G.1 G.2.1 G.2.2.2.2 hin ty0 hty hnm G.2.2.2.1 hw.1.1 hw.2.1 hw.2.2.1 hw.2.2.2.1 q0 hq hc k hk (G.2.2.2.2 _ hlink) (fun _ h => h) hfin hd hn hfit hl hdg (fun H1 locs1 hP1 hD1 hS1 => ?_)
  rw [py_upd hw.2.2.1 hf hq] at hP1 hD1
  exact kk _ H1 locs1 ⟨hf.1, va_up_self _ _ _⟩ (fun b hb hn => ⟨hb, va_up_ne _ _ hn⟩) ⟨hw.1, hP1, hD1, hS1, hw.2.2.2.2⟩
theorem py_putF (G : CallFix p m c cc nL s args Ts own) (hini : meth.name = "<init>") (hw : py_W E A s L f H locs) {C : String} {T : u_T} {N ci index k : Nat} {fs fs' : List Value} {v : Value} {ty : FieldType} {ty0 : Nat → FieldType} (hty : ∀ k, k < N → parseFieldDescriptor (T k).2.2.1 = some (ty0 k)) (hnm : ∀ a, a < N → ∀ b, b < N → a ≠ b → (T a).2.1 ≠ (T b).2.1) (hin : ∀ w ∈ u_ws C T N, w ∈ Ts) (hc : vwCl[ci]? = some (C, T, N)) (hf : py_at L f a (.inr (ci, fs))) (hk : k < N) (hlink : Cond.fieldLink own index (T k).1 (T k).2.1 (T k).2.2.1 ∈ Ts) (hfin : (T k).2.2.2 = true) (hdecl : (T k).1 = own) (hd : parseFieldDescriptor (T k).2.2.1 = some ty) (hn : narrow ty v = v) (hfit : fits ty v = true) (hl : k < fs.length) (hs : fs.set k v = fs') (hdg : decode cc pc = .ok (.putfield index, 3))
    (kk : ∀ (f' : py_F) (H' : Heap) (locs' : List Loc), py_at L f' a (.inr (ci, fs')) → py_ext L f L f' a → py_W E A s L f' H' locs' → W p l e R s m args below meth c H' locs' cells slots Q (F0 m (pc + 3) ls rest)) : W p l e R s m args below meth c H locs cells slots Q (F0 m pc ls (v :: .ref a :: rest)) := by
  obtain ⟨q0, hq⟩ := hf.get
  subst hs
  refine va_putF G.1 G.2.1 G.2.2.2.2 hin ty0 hty hnm G.2.2.2.1 hw.1.1 hw.2.1 hw.2.2.1 hw.2.2.2.1 q0 hq hc k hk (G.2.2.2.2 _ hlink) (fun _ h => h) hfin hini hdecl hd hn hfit hl hdg (fun H1 locs1 hP1 hD1 hS1 => ?_)
  rw [py_upd hw.2.2.1 hf hq] at hP1 hD1
  exact kk _ H1 locs1 ⟨hf.1, va_up_self _ _ _⟩ (fun b hb hn => ⟨hb, va_up_ne _ _ hn⟩) ⟨hw.1, hP1, hD1, hS1, hw.2.2.2.2⟩
theorem py_push {q : Nat} {e2 : va_E} (ha : q ∉ L) : (va_pl L f) ++ [(q, e2)] = va_pl (L ++ [q]) (va_up f q e2) := va_pl_push ha
theorem py_apart {q : Nat} {e2 : va_E} (hD : va_D A (va_pl L f ++ [(q, e2)])) : q ∉ L := by
  intro h
  obtain ⟨k, hk⟩ := va_pl_get (X := []) (f := f) h
  have hk : (va_pl L f)[k]? = some (q, f q) := hk
  have hl := (List.getElem?_eq_some_iff.mp hk).1
  have h1 : (va_pl L f ++ [(q, e2)])[k]? = some (q, f q) := by rw [List.getElem?_append_left hl]; exact hk
  have h2 : (va_pl L f ++ [(q, e2)])[(va_pl L f).length]? = some (q, e2) := by rw [List.getElem?_append_right (Nat.le_refl _), Nat.sub_self]; rfl
  have := hD.1 _ _ _ _ h1 h2 rfl
  omega
theorem py_pushed {q : Nat} {e2 : va_E} (ha : q ∉ L) : py_all L f (L ++ [q]) (va_up f q e2) := fun b hb => ⟨List.mem_append_left _ hb, va_up_ne _ _ (fun h => ha (h ▸ hb))⟩
theorem py_new (G : CallFix p m c cc nL s args Ts own) (hw : py_W E A s L f H locs) {C : String} {T : u_T} {N ci index : Nat} {fs : List Value} {ty0 : Nat → FieldType} (hty : ∀ k, k < N → parseFieldDescriptor (T k).2.2.1 = some (ty0 k)) (hin : ∀ w ∈ u_ws C T N, w ∈ Ts) (hc : vwCl[ci]? = some (C, T, N)) (hcl : Cond.classLink own index C ∈ Ts) (hinst : Cond.instantiable C N ∈ Ts) (hini : Cond.initialized C ∈ Ts) (hfs : ∀ j, j < N → defaultValue (ty0 j) = vp_V fs j) (hcells : cells + 1 ≤ R.cells) (hslots : slots + N ≤ R.slots) (hdg : decode cc pc = .ok (.new index, 3))
    (kk : ∀ (q : Nat) (L' : List Nat) (f' : py_F) (H' : Heap), q ∉ L → py_at L' f' q (.inr (ci, fs)) → py_all L f L' f' → py_W E A s L' f' H' locs → W p l e R s m args below meth c H' locs (cells + 1) (slots + N) Q (F0 m (pc + 3) ls (.ref q :: rest))) : W p l e R s m args below meth c H locs cells slots Q (F0 m pc ls rest) := by
  refine va_new G.1 G.2.1 G.2.2.2.2 hin ty0 hty G.2.2.2.1 (G.2.2.2.2 _ hcl) (G.2.2.2.2 _ hinst) (G.2.2.2.2 _ hini) hw.1.1 hw.2.1 hw.2.2.1 hw.2.2.2.1 hw.2.2.2.2 hc hfs hcells hslots hdg (fun q H1 hP1 hD1 hS1 => ?_)
  have hq := py_apart hD1
  rw [py_push hq] at hP1 hD1
  exact kk q _ _ H1 hq ⟨List.mem_append_right _ List.mem_cons_self, va_up_self _ _ _⟩ (py_pushed hq) ⟨hw.1, hP1, hD1, hS1, hw.2.2.2.2⟩
theorem py_newI (G : CallFix p m c cc nL s args Ts own) (hw : py_W E A s L f H locs) (harr : Cond.arrayClass .int ∈ Ts) {n : Int32} {N : Nat} (hn : ¬ n < 0) (hN : n.toNatClampNeg = N) (hbytes : N * 4 ≤ 536870912) (hcells : cells + 1 ≤ R.cells) (hslots : slots + N ≤ R.slots) (hdg : decode cc pc = .ok (.newarray .int, 2))
    (kk : ∀ (q : Nat) (L' : List Nat) (f' : py_F) (H' : Heap), q ∉ L → py_at L' f' q (.inl (E.2.1, N, .inl (fun _ => 0))) → py_all L f L' f' → py_W E A s L' f' H' locs → W p l e R s m args below meth c H' locs (cells + 1) (slots + N) Q (F0 m (pc + 2) ls (.ref q :: rest))) : W p l e R s m args below meth c H locs cells slots Q (F0 m pc ls (.int n :: rest)) := by
  refine va_newa (atype := .int) (ty := .int) (a0 := (N, .inl (fun _ => 0))) G.1 G.2.1 (G.2.2.2.2 _ harr) rfl hw.1.1 hw.2.1 hw.2.2.1 hw.2.2.2.1 hw.2.2.2.2 (fun _ => rfl) hn hN hbytes hcells hslots hdg (fun q cA H1 hK1 hP1 hD1 hS1 => ?_)
  have h4 : s.vm.findClass ("[" ++ FieldType.int.toString) = some cA := (hK1.2 4 _ rfl).2
  have h0 : s.vm.findClass ("[" ++ FieldType.int.toString) = some E.2.1 := (hK1.2 0 _ rfl).2
  have hc : cA = E.2.1 := Option.some.inj (h4.symm.trans h0)
  subst hc
  have hq := py_apart hD1
  rw [py_push hq] at hP1 hD1
  exact kk q _ _ H1 hq ⟨List.mem_append_right _ List.mem_cons_self, va_up_self _ _ _⟩ (py_pushed hq) ⟨hw.1, hP1, hD1, hS1, hw.2.2.2.2⟩
theorem py_newJ (G : CallFix p m c cc nL s args Ts own) (hw : py_W E A s L f H locs) (harr : Cond.arrayClass .long ∈ Ts) {n : Int32} {N : Nat} (hn : ¬ n < 0) (hN : n.toNatClampNeg = N) (hbytes : N * 8 ≤ 536870912) (hcells : cells + 1 ≤ R.cells) (hslots : slots + N ≤ R.slots) (hdg : decode cc pc = .ok (.newarray .long, 2))
    (kk : ∀ (q : Nat) (L' : List Nat) (f' : py_F) (H' : Heap), q ∉ L → py_at L' f' q (.inl (E.2.2.1, N, .inr (.inl (fun _ => 0)))) → py_all L f L' f' → py_W E A s L' f' H' locs → W p l e R s m args below meth c H' locs (cells + 1) (slots + N) Q (F0 m (pc + 2) ls (.ref q :: rest))) : W p l e R s m args below meth c H locs cells slots Q (F0 m pc ls (.int n :: rest)) := by
  refine va_newa (atype := .long) (ty := .long) (a0 := (N, .inr (.inl (fun _ => 0)))) G.1 G.2.1 (G.2.2.2.2 _ harr) rfl hw.1.1 hw.2.1 hw.2.2.1 hw.2.2.2.1 hw.2.2.2.2 (fun _ => rfl) hn hN hbytes hcells hslots hdg (fun q cA H1 hK1 hP1 hD1 hS1 => ?_)
  have h4 : s.vm.findClass ("[" ++ FieldType.long.toString) = some cA := (hK1.2 4 _ rfl).2
  have h0 : s.vm.findClass ("[" ++ FieldType.long.toString) = some E.2.2.1 := (hK1.2 1 _ rfl).2
  have hc : cA = E.2.2.1 := Option.some.inj (h4.symm.trans h0)
  subst hc
  have hq := py_apart hD1
  rw [py_push hq] at hP1 hD1
  exact kk q _ _ H1 hq ⟨List.mem_append_right _ List.mem_cons_self, va_up_self _ _ _⟩ (py_pushed hq) ⟨hw.1, hP1, hD1, hS1, hw.2.2.2.2⟩
theorem py_newZ (G : CallFix p m c cc nL s args Ts own) (hw : py_W E A s L f H locs) (harr : Cond.arrayClass .boolean ∈ Ts) {n : Int32} {N : Nat} (hn : ¬ n < 0) (hN : n.toNatClampNeg = N) (hbytes : N * 1 ≤ 536870912) (hcells : cells + 1 ≤ R.cells) (hslots : slots + N ≤ R.slots) (hdg : decode cc pc = .ok (.newarray .boolean, 2))
    (kk : ∀ (q : Nat) (L' : List Nat) (f' : py_F) (H' : Heap), q ∉ L → py_at L' f' q (.inl (E.2.2.2.1, N, .inl (fun _ => 0))) → py_all L f L' f' → py_W E A s L' f' H' locs → W p l e R s m args below meth c H' locs (cells + 1) (slots + N) Q (F0 m (pc + 2) ls (.ref q :: rest))) : W p l e R s m args below meth c H locs cells slots Q (F0 m pc ls (.int n :: rest)) := by
  refine va_newa (atype := .boolean) (ty := .boolean) (a0 := (N, .inl (fun _ => 0))) G.1 G.2.1 (G.2.2.2.2 _ harr) rfl hw.1.1 hw.2.1 hw.2.2.1 hw.2.2.2.1 hw.2.2.2.2 (fun _ => rfl) hn hN hbytes hcells hslots hdg (fun q cA H1 hK1 hP1 hD1 hS1 => ?_)
  have h4 : s.vm.findClass ("[" ++ FieldType.boolean.toString) = some cA := (hK1.2 4 _ rfl).2
  have h0 : s.vm.findClass ("[" ++ FieldType.boolean.toString) = some E.2.2.2.1 := (hK1.2 2 _ rfl).2
  have hc : cA = E.2.2.2.1 := Option.some.inj (h4.symm.trans h0)
  subst hc
  have hq := py_apart hD1
  rw [py_push hq] at hP1 hD1
  exact kk q _ _ H1 hq ⟨List.mem_append_right _ List.mem_cons_self, va_up_self _ _ _⟩ (py_pushed hq) ⟨hw.1, hP1, hD1, hS1, hw.2.2.2.2⟩
theorem py_newR (G : CallFix p m c cc nL s args Ts own) (hw : py_W E A s L f H locs) {index : Nat} (hcl : Cond.classLink own index RX3 ∈ Ts) {n : Int32} {N : Nat} (hn : ¬ n < 0) (hN : n.toNatClampNeg = N) (hbytes : N * 4 ≤ 536870912) (hcells : cells + 1 ≤ R.cells) (hslots : slots + N ≤ R.slots) (hdg : decode cc pc = .ok (.anewarray index, 3))
    (kk : ∀ (q : Nat) (L' : List Nat) (f' : py_F) (H' : Heap), q ∉ L → py_at L' f' q (.inl (E.2.2.2.2, N, .inr (.inr (.inr (.inr (fun _ => none)))))) → py_all L f L' f' → py_W E A s L' f' H' locs → W p l e R s m args below meth c H' locs (cells + 1) (slots + N) Q (F0 m (pc + 3) ls (.ref q :: rest))) : W p l e R s m args below meth c H locs cells slots Q (F0 m pc ls (.int n :: rest)) := by
  refine va_newq G.1 G.2.1 G.2.2.2.1 (G.2.2.2.2 _ hcl) hw.1.2.1 hw.1.1 hw.2.1 hw.2.2.1 hw.2.2.2.1 hw.2.2.2.2 hn hN hbytes hcells hslots hdg (fun q cA H1 hK1 hP1 hD1 hS1 => ?_)
  obtain ⟨kA, comp, -, -, -, h4⟩ : va_RA s cA (.object RX3) := (hK1.2 4 _ rfl).2
  obtain ⟨kB, comp2, -, -, -, h0⟩ : va_RA s E.2.2.2.2 (.object RX3) := (hK1.2 3 _ rfl).2
  have hc : cA = E.2.2.2.2 := Option.some.inj (h4.symm.trans h0)
  subst hc
  have hq := py_apart hD1
  rw [py_push hq] at hP1 hD1
  exact kk q _ _ H1 hq ⟨List.mem_append_right _ List.mem_cons_self, va_up_self _ _ _⟩ (py_pushed hq) ⟨hw.1, hP1, hD1, hS1, hw.2.2.2.2⟩
theorem py_iald (G : CallFix p m c cc nL s args Ts own) (hw : py_W E A s L f H locs) {n : Nat} {g : Nat → Int32} {i : Int32} (hf : py_at L f a (.inl (E.2.1, n, .inl g))) (hin : vp_in i n) (hdg : decode cc pc = .ok (.iaload, 1))
    (kk : W p l e R s m args below meth c H locs cells slots Q (F0 m (pc + 1) ls (.int (g i.toNatClampNeg) :: rest))) : W p l e R s m args below meth c H locs cells slots Q (F0 m pc ls (.int i :: .ref a :: rest)) := by
  obtain ⟨q0, hq⟩ := hf.get
  exact va_iald G.1 G.2.1 hw.1.1 hw.2.1 q0 0 hq rfl hin hdg kk
theorem py_iast (G : CallFix p m c cc nL s args Ts own) (hw : py_W E A s L f H locs) {n : Nat} {g : Nat → Int32} {i x : Int32} (hf : py_at L f a (.inl (E.2.1, n, .inl g))) (hin : vp_in i n) (hdg : decode cc pc = .ok (.iastore, 1))
    (kk : ∀ (f' : py_F) (H' : Heap) (locs' : List Loc), py_at L f' a (.inl (E.2.1, n, .inl (upd g i.toNatClampNeg x))) → py_ext L f L f' a → py_W E A s L f' H' locs' → W p l e R s m args below meth c H' locs' cells slots Q (F0 m (pc + 1) ls rest)) : W p l e R s m args below meth c H locs cells slots Q (F0 m pc ls (.int x :: .int i :: .ref a :: rest)) := by
  obtain ⟨q0, hq⟩ := hf.get
  refine va_iast G.1 G.2.1 hw.1.1 hw.2.1 hw.2.2.1 hw.2.2.2.1 q0 0 hq rfl hin hdg (fun H1 locs1 hP1 hD1 hS1 => ?_)
  rw [py_upd hw.2.2.1 hf hq] at hP1 hD1
  exact kk _ H1 locs1 ⟨hf.1, va_up_self _ _ _⟩ (fun b hb hn => ⟨hb, va_up_ne _ _ hn⟩) ⟨hw.1, hP1, hD1, hS1, hw.2.2.2.2⟩
theorem py_alen (G : CallFix p m c cc nL s args Ts own) (hw : py_W E A s L f H locs) {n : Nat} {g : Nat → Int32} {v : Int32} (hf : py_at L f a (.inl (E.2.1, n, .inl g))) (hv : Int32.ofNat n = v) (hdg : decode cc pc = .ok (.arraylength, 1))
    (kk : W p l e R s m args below meth c H locs cells slots Q (F0 m (pc + 1) ls (.int v :: rest))) : W p l e R s m args below meth c H locs cells slots Q (F0 m pc ls (.ref a :: rest)) := by
  obtain ⟨q0, hq⟩ := hf.get
  exact va_alen G.1 G.2.1 hw.1.1 hw.2.1 q0 0 hq rfl hv hdg kk
theorem py_objInit (G : CallFix p m c cc nL s args Ts own) (hls : ls.size = nL) {index : Nat} (h1 : Cond.methodLink own index objectInit ∈ Ts) (h2 : Cond.instanceMethod objectInit ∈ Ts) (h3 : Cond.code objectInit ⟨#[0xb1]⟩ 1 none ∈ Ts) (hdg : decode cc pc = .ok (.invokespecial index, 3)) (hr : 1 ≤ R.frames) (hr2 : 12 ≤ R.locals)
    (kk : W p l e R s m args below meth c H locs cells slots Q (F0 m (pc + 3) ls [])) : W p l e R s m args below meth c H locs cells slots Q (F0 m pc ls [.ref a]) :=
  W.objInit G.1 G.2.1 G.2.2.2.1 (G.2.2.2.2 _ h1) (G.2.2.2.2 _ h2) (G.2.2.2.2 _ h3) rfl (by rw [G.2.2.1]; exact hls) rfl hdg hr (by simpa [JFrame.monitorRoom] using hr2) kk
theorem py_preV (hw : py_W E A s L f H locs) {C : String} {T : u_T} {N ci : Nat} {fs As : List Value} (hc : vwCl[ci]? = some (C, T, N)) (hf : py_at L f a (.inr (ci, fs))) : PreV s H C a (py_Pc E (.ref a :: As) L f H.size) As := by
  obtain ⟨q0, hq⟩ := hf.get
  exact ⟨py_blind, va_recv hw.1.1 hw.2.1 hc hq, fun U hU hW => ⟨rfl, by rw [hU], by rw [hU]; exact hw.2.1, ⟨va_K.moved hW.alike hw.1.1, py_X.warm hW hw.1.2⟩, hw.2.2.1.weaken (fun _ _ _ _ => trivial)⟩⟩
theorem py_preS (hw : py_W E A s L f H locs) {As : List Value} : PreS s H (py_Pc E As L f H.size) As :=
  ⟨py_blind, fun U hU hW => ⟨rfl, by rw [hU], by rw [hU]; exact hw.2.1, ⟨va_K.moved hW.alike hw.1.1, py_X.warm hW hw.1.2⟩, hw.2.2.1.weaken (fun _ _ _ _ => trivial)⟩⟩
theorem py_free (hw : py_W E A s L f H locs) : ∀ q : Nat, va_A (va_pl L f) H.size q → A q := by
  intro q h
  rcases h with ⟨k, e, h⟩ | h
  · exact hw.2.2.1.2 k (q, e) h
  · exact hw.2.2.2.2 q (Nat.le_trans hw.2.2.2.1.1 h)
variable {st0 : List Value} {mc ms : Nat} {av : Array Value}
theorem py_calli {post : Int32 → List Nat → py_F → Prop} (hw : py_W E A s L f H locs) (hr : va_Run p l e R s m args below meth c H locs cells slots mc ms (F0 m pc ls st0) rest (py_Qi E L f H.size post av) (va_A (va_pl L f) H.size))
    (kk : ∀ (r : Int32) (L' : List Nat) (f' : py_F) (H' : Heap) (locs' : List Loc), post r L' f' → py_W E A s L' f' H' locs' → W p l e R s m args below meth c H' locs' (cells + mc) (slots + ms) Q (F0 m (pc + 3) ls (.int r :: rest))) : W p l e R s m args below meth c H locs cells slots Q (F0 m pc ls st0) := by
  have hF := py_free hw
  refine va_calli hr hw.2.2.2.1 (fun q _ h => hF q h) hF (fun r u t H1 locs1 ht hvm hp hB hz hk hS => ?_)
  obtain ⟨hP1, hD1⟩ := hB
  rw [ht] at hP1
  exact kk r u.1 u.2 H1 locs1 hp ⟨hw.1, hP1, hD1.weaken (fun k q _ h => hF q.1 h), hS, hw.2.2.2.2⟩
theorem py_calll {post : Int64 → List Nat → py_F → Prop} (hw : py_W E A s L f H locs) (hr : va_Run p l e R s m args below meth c H locs cells slots mc ms (F0 m pc ls st0) rest (py_Ql E L f H.size post av) (va_A (va_pl L f) H.size))
    (kk : ∀ (r : Int64) (L' : List Nat) (f' : py_F) (H' : Heap) (locs' : List Loc), post r L' f' → py_W E A s L' f' H' locs' → W p l e R s m args below meth c H' locs' (cells + mc) (slots + ms) Q (F0 m (pc + 3) ls (.long r :: rest))) : W p l e R s m args below meth c H locs cells slots Q (F0 m pc ls st0) := by
  have hF := py_free hw
  refine va_calll hr hw.2.2.2.1 (fun q _ h => hF q h) hF (fun r u t H1 locs1 ht hvm hp hB hz hk hS => ?_)
  obtain ⟨hP1, hD1⟩ := hB
  rw [ht] at hP1
  exact kk r u.1 u.2 H1 locs1 hp ⟨hw.1, hP1, hD1.weaken (fun k q _ h => hF q.1 h), hS, hw.2.2.2.2⟩
theorem py_callv {post : List Nat → py_F → Prop} (hw : py_W E A s L f H locs) (hr : va_Run p l e R s m args below meth c H locs cells slots mc ms (F0 m pc ls st0) rest (py_Qv E L f H.size post av) (va_A (va_pl L f) H.size))
    (kk : ∀ (L' : List Nat) (f' : py_F) (H' : Heap) (locs' : List Loc), post L' f' → py_W E A s L' f' H' locs' → W p l e R s m args below meth c H' locs' (cells + mc) (slots + ms) Q (F0 m (pc + 3) ls rest)) : W p l e R s m args below meth c H locs cells slots Q (F0 m pc ls st0) := by
  have hF := py_free hw
  refine va_callv hr hw.2.2.2.1 (fun q _ h => hF q h) hF (fun u t H1 locs1 ht hvm hp hB hz hk hS => ?_)
  obtain ⟨hP1, hD1⟩ := hB
  rw [ht] at hP1
  exact kk u.1 u.2 H1 locs1 hp ⟨hw.1, hP1, hD1.weaken (fun k q _ h => hF q.1 h), hS, hw.2.2.2.2⟩
theorem py_callr {post : Nat → List Nat → py_F → Prop} (hw : py_W E A s L f H locs) (hr : va_Run p l e R s m args below meth c H locs cells slots mc ms (F0 m pc ls st0) rest (py_Qr E L f H.size post av) (va_A (va_pl L f) H.size))
    (kk : ∀ (r : Nat) (L' : List Nat) (f' : py_F) (H' : Heap) (locs' : List Loc), post r L' f' → py_W E A s L' f' H' locs' → W p l e R s m args below meth c H' locs' (cells + mc) (slots + ms) Q (F0 m (pc + 3) ls (.ref r :: rest))) : W p l e R s m args below meth c H locs cells slots Q (F0 m pc ls st0) := by
  have hF := py_free hw
  refine va_callr hr hw.2.2.2.1 (fun q _ h => hF q h) hF (fun u r t H1 locs1 ht hvm _ hB hz hk hS => ?_)
  obtain ⟨hp, hP1, hD1⟩ := hB
  rw [ht] at hP1
  exact kk r u.1 u.2 H1 locs1 hp ⟨hw.1, hP1, hD1.weaken (fun k q _ h => hF q.1 h), hS, hw.2.2.2.2⟩
variable {L0 : List Nat} {f0 : py_F} {sz : Nat}
theorem py_iret {post : Int32 → List Nat → py_F → Prop} {r : Int32} {ty : FieldType} (G : CallFix p m c cc nL s args Ts own) (hr : meth.sig.returnType = some ty) (hn : narrow ty (.int r) = .int r) (hlocks : meth.locks = false) (hw : py_W E (va_A (va_pl L0 f0) sz) s L f H locs) (hp : post r L f) (hdg : decode cc pc = .ok (.ireturn, 1)) :
    W p l e R s m args below meth c H locs cells slots (MQ below (py_Qi E L0 f0 sz post) args s cells slots (va_A (va_pl L0 f0) sz)) (F0 m pc ls [.int r]) :=
  W.zret (v := r) (ty := ty) G.1 G.2.1 hr hn (fun t ht hW => ⟨⟨r, (L, f), rfl, hp, by rw [ht]; exact hw.2.1, hw.2.2.1⟩, hw.2.2.2.1.F ht⟩) hw.2.2.2.1.2.2 hdg hlocks
theorem py_lret {post : Int64 → List Nat → py_F → Prop} {r : Int64} (G : CallFix p m c cc nL s args Ts own) (hr : meth.sig.returnType = some .long) (hlocks : meth.locks = false) (hw : py_W E (va_A (va_pl L0 f0) sz) s L f H locs) (hp : post r L f) (hdg : decode cc pc = .ok (.lreturn, 1)) :
    W p l e R s m args below meth c H locs cells slots (MQ below (py_Ql E L0 f0 sz post) args s cells slots (va_A (va_pl L0 f0) sz)) (F0 m pc ls [.long r]) :=
  W.lret (v := r) G.1 G.2.1 hr (fun t ht hW => ⟨⟨r, (L, f), rfl, hp, by rw [ht]; exact hw.2.1, hw.2.2.1⟩, hw.2.2.2.1.F ht⟩) hw.2.2.2.1.2.2 hdg hlocks
theorem py_vret {post : List Nat → py_F → Prop} (G : CallFix p m c cc nL s args Ts own) (hr : meth.sig.returnType = none) (hlocks : meth.locks = false) (hw : py_W E (va_A (va_pl L0 f0) sz) s L f H locs) (hp : post L f) (hdg : decode cc pc = .ok (.return_, 1)) :
    W p l e R s m args below meth c H locs cells slots (MQ below (py_Qv E L0 f0 sz post) args s cells slots (va_A (va_pl L0 f0) sz)) (F0 m pc ls []) :=
  W.vret G.1 G.2.1 hr (fun t ht hW => ⟨⟨(L, f), rfl, hp, by rw [ht]; exact hw.2.1, hw.2.2.1⟩, hw.2.2.2.1.F ht⟩) hw.2.2.2.1.2.2 hdg hlocks
theorem py_rret {post : Nat → List Nat → py_F → Prop} {rt : FieldType} (G : CallFix p m c cc nL s args Ts own) (hr : meth.sig.returnType = some rt) (hrt : (∃ n, rt = .object n) ∨ ∃ t, rt = .array t) (hlocks : meth.locks = false) (hw : py_W E (va_A (va_pl L0 f0) sz) s L f H locs) (hp : post a L f) (hdg : decode cc pc = .ok (.areturn, 1)) :
    W p l e R s m args below meth c H locs cells slots (MQ below (py_Qr E L0 f0 sz post) args s cells slots (va_A (va_pl L0 f0) sz)) (F0 m pc ls [.ref a]) :=
  W.aret (v := .ref a) G.1 G.2.1 hr hrt (Or.inr ⟨a, rfl⟩) (fun t ht hW => ⟨⟨(L, f), a, rfl, trivial, hp, by rw [ht]; exact hw.2.1, hw.2.2.1⟩, hw.2.2.2.1.F ht⟩) hw.2.2.2.1.2.2 hdg hlocks
end PYR
end
section
/-! What a fresh object is: of the class, and of the reference; and that it stays so. -/
theorem py_len {xs : List Value} {n k : Nat} (h : xs.length = n) (hk : k < n) : k < xs.length := by rw [h]; exact hk
theorem py_inr {i : Int32} {n : Nat} (h : ¬ (i < 0 ∨ n ≤ i.toNatClampNeg)) : vp_in i n := h
theorem py_arr {cI : ClassId} {L : List Nat} {f f' : py_F} {a b n n1 : Nat} {g g1 g2 : Nat → Int32} (hb : py_at L f b (.inl (cI, n, .inl g))) (ha : py_at L f a (.inl (cI, n1, .inl g1))) (ha2 : py_at L f' a (.inl (cI, n1, .inl g2))) (x : py_ext L f L f' a) : ∃ g3 : Nat → Int32, py_at L f' b (.inl (cI, n, .inl g3)) := by
  by_cases e : b = a
  · subst e
    have h := hb.2.symm.trans ha.2
    injection h with h
    injection h with _ h
    injection h with h _
    subst h
    exact ⟨g2, ha2⟩
  · exact ⟨g, hb.ext x e⟩
/-- changed at two places at most -/
def py_ext2 (L : List Nat) (f : py_F) (L' : List Nat) (f' : py_F) (a a2 : Nat) : Prop := ∀ b : Nat, b ∈ L → b ≠ a → b ≠ a2 → b ∈ L' ∧ f' b = f b
def fr_H (E : py_E) (L : List Nat) (f : py_F) (h : Nat) : Prop := ∃ (tape byt vr itm dr lr dl lws nl fo va tr im di bu se mo od : Nat) (g : Nat → Int32) (xd xl xf xv xi xu xs : List Value),
  py_at L f h (.inr (11, [.ref tape, .ref vr, .ref lr, .ref lws, .ref nl, .ref fo, .ref tr, .ref im, .ref di, .ref bu, .ref se, .ref mo, .ref od, .int 0, .int (-1), .int 0])) ∧
  py_at L f tape (.inr (8, [.ref byt, .int 0, .int 0, .int 0])) ∧ py_at L f byt (.inl (E.2.1, 160, .inl g)) ∧
  py_at L f vr (.inr (10, [.ref itm, .ref dr])) ∧ py_at L f dr (.inr (9, xd)) ∧ xd.length = 10 ∧
  py_at L f lr (.inr (4, [.ref dl])) ∧ py_at L f dl (.inr (3, xl)) ∧ xl.length = 3 ∧
  py_at L f fo (.inr (2, xf)) ∧ xf.length = 12 ∧ xf[9]? = some (.ref va) ∧ xf[11]? = some (.int 0) ∧
  py_at L f va (.inr (9, xv)) ∧ xv.length = 10 ∧ xv[8]? = some (.int 0) ∧ xv[9]? = some (.int 0) ∧
  py_at L f di (.inr (1, xi)) ∧ xi.length = 3 ∧ xi[2]? = some (.int 0) ∧
  py_at L f bu (.inr (0, xu)) ∧ xu.length = 5 ∧ xu[3]? = some (.int 0) ∧
  py_at L f se (.inr (7, xs)) ∧ xs.length = 5
def fr_M (E : py_E) (L : List Nat) (f : py_F) (h : Nat) : Prop := ∃ (tp cd cl : Nat) (g1 g2 g3 : Nat → Int32) (xs : List Value) (v32 v33 v34 : Int32),
  py_at L f h (.inr (12, xs)) ∧ xs.length = 54 ∧ xs[1]? = some (.ref tp) ∧ xs[2]? = some (.int 0) ∧ xs[8]? = some (.ref cd) ∧ xs[9]? = some (.ref cl) ∧ xs[13]? = some (.int 0) ∧ xs[24]? = some (.int 0) ∧ xs[25]? = some (.int 0) ∧ xs[29]? = some (.int 0) ∧ xs[31]? = some (.int (-1)) ∧ xs[43]? = some (.int 0) ∧ xs[53]? = some (.int 0) ∧ (xs[32]? = some (.int v32) ∧ xs[33]? = some (.int v33) ∧ xs[34]? = some (.int v34)) ∧
  py_at L f tp (.inl (E.2.1, 160, .inl g1)) ∧ py_at L f cd (.inl (E.2.1, 5, .inl g2)) ∧ py_at L f cl (.inl (E.2.1, 5, .inl g3))
theorem fr_M_obj {E : py_E} {L : List Nat} {f f' : py_F} {m a ci : Nat} {ys : List Value} (h : fr_M E L f m) (ha : py_at L f a (.inr (ci, ys))) (hc : 12 ≠ ci) (x : py_ext L f L f' a) : fr_M E L f' m := by
  obtain ⟨tp, cd, cl, g1, g2, g3, xs, v32, v33, v34, h1, h2, h3, h4, h5, h6, h7, h8, h9, h10, h11, h12, h13, h17, h14, h15, h16⟩ := h
  exact ⟨tp, cd, cl, g1, g2, g3, xs, v32, v33, v34, h1.ext x (py_ne_kind h1 ha hc), h2, h3, h4, h5, h6, h7, h8, h9, h10, h11, h12, h13, h17, h14.ext x (Ne.symm (py_ne_arr ha h14)), h15.ext x (Ne.symm (py_ne_arr ha h15)), h16.ext x (Ne.symm (py_ne_arr ha h16))⟩
theorem fr_M_arr {E : py_E} {L : List Nat} {f f' : py_F} {m a n : Nat} {g g' : Nat → Int32} (h : fr_M E L f m) (ha : py_at L f a (.inl (E.2.1, n, .inl g))) (ha2 : py_at L f' a (.inl (E.2.1, n, .inl g'))) (x : py_ext L f L f' a) : fr_M E L f' m := by
  obtain ⟨tp, cd, cl, g1, g2, g3, xs, v32, v33, v34, h1, h2, h3, h4, h5, h6, h7, h8, h9, h10, h11, h12, h13, h17, h14, h15, h16⟩ := h
  obtain ⟨g1, h14⟩ := py_arr h14 ha ha2 x
  obtain ⟨g2, h15⟩ := py_arr h15 ha ha2 x
  obtain ⟨g3, h16⟩ := py_arr h16 ha ha2 x
  exact ⟨tp, cd, cl, g1, g2, g3, xs, v32, v33, v34, h1.ext x (py_ne_arr h1 ha), h2, h3, h4, h5, h6, h7, h8, h9, h10, h11, h12, h13, h17, h14, h15, h16⟩
theorem fr_M_all {E : py_E} {L L' : List Nat} {f f' : py_F} {m : Nat} (h : fr_M E L f m) (x : py_all L f L' f') : fr_M E L' f' m := by
  obtain ⟨tp, cd, cl, g1, g2, g3, xs, v32, v33, v34, h1, h2, h3, h4, h5, h6, h7, h8, h9, h10, h11, h12, h13, h17, h14, h15, h16⟩ := h
  exact ⟨tp, cd, cl, g1, g2, g3, xs, v32, v33, v34, h1.all x, h2, h3, h4, h5, h6, h7, h8, h9, h10, h11, h12, h13, h17, h14.all x, h15.all x, h16.all x⟩
theorem fr_H_all {E : py_E} {L L' : List Nat} {f f' : py_F} {h : Nat} (hF : fr_H E L f h) (x : py_all L f L' f') : fr_H E L' f' h := by
  obtain ⟨tape, byt, vr, itm, dr, lr, dl, lws, nl, fo, va, tr, im, di, bu, se, mo, od, g, xd, xl, xf, xv, xi, xu, xs, h1, h2, h3, h4, h5, h6, h7, h8, h9, h10, h11, h12, h13, h14, h15, h16, h17, h18, h19, h20, h21, h22, h23, h24, h25⟩ := hF
  exact ⟨tape, byt, vr, itm, dr, lr, dl, lws, nl, fo, va, tr, im, di, bu, se, mo, od, g, xd, xl, xf, xv, xi, xu, xs, h1.all x, h2.all x, h3.all x, h4.all x, h5.all x, h6, h7.all x, h8.all x, h9, h10.all x, h11, h12, h13, h14.all x, h15, h16, h17, h18.all x, h19, h20, h21.all x, h22, h23, h24.all x, h25⟩
theorem fr_H_ext {E : py_E} {L L' : List Nat} {f f' : py_F} {h a : Nat} {ys : List Value} (hF : fr_H E L f h) (ha : py_at L f a (.inr (12, ys))) (x : py_ext L f L' f' a) : fr_H E L' f' h := by
  obtain ⟨tape, byt, vr, itm, dr, lr, dl, lws, nl, fo, va, tr, im, di, bu, se, mo, od, g, xd, xl, xf, xv, xi, xu, xs, h1, h2, h3, h4, h5, h6, h7, h8, h9, h10, h11, h12, h13, h14, h15, h16, h17, h18, h19, h20, h21, h22, h23, h24, h25⟩ := hF
  exact ⟨tape, byt, vr, itm, dr, lr, dl, lws, nl, fo, va, tr, im, di, bu, se, mo, od, g, xd, xl, xf, xv, xi, xu, xs, h1.ext x (py_ne_kind h1 ha (by decide)), h2.ext x (py_ne_kind h2 ha (by decide)), h3.ext x (Ne.symm (py_ne_arr ha h3)), h4.ext x (py_ne_kind h4 ha (by decide)), h5.ext x (py_ne_kind h5 ha (by decide)), h6, h7.ext x (py_ne_kind h7 ha (by decide)), h8.ext x (py_ne_kind h8 ha (by decide)), h9, h10.ext x (py_ne_kind h10 ha (by decide)), h11, h12, h13, h14.ext x (py_ne_kind h14 ha (by decide)), h15, h16, h17, h18.ext x (py_ne_kind h18 ha (by decide)), h19, h20, h21.ext x (py_ne_kind h21 ha (by decide)), h22, h23, h24.ext x (py_ne_kind h24 ha (by decide)), h25⟩
theorem py_sw8 (x : Int32) : x = 0 ∨ x = 1 ∨ x = 2 ∨ x = 3 ∨ x = 4 ∨ x = 5 ∨ x = 6 ∨ x = 7 ∨ (x.toInt < 0 ∨ 7 < x.toInt) := by
  by_cases h : x.toInt < 0 ∨ 7 < x.toInt
  · exact Or.inr (Or.inr (Or.inr (Or.inr (Or.inr (Or.inr (Or.inr (Or.inr h)))))))
  · have h2 : x.toInt = 0 ∨ x.toInt = 1 ∨ x.toInt = 2 ∨ x.toInt = 3 ∨ x.toInt = 4 ∨ x.toInt = 5 ∨ x.toInt = 6 ∨ x.toInt = 7 := by omega
    rcases h2 with h2 | h2 | h2 | h2 | h2 | h2 | h2 | h2
    · exact Or.inl (Int32.toInt_inj.mp h2)
    · exact Or.inr (Or.inl (Int32.toInt_inj.mp h2))
    · exact Or.inr (Or.inr (Or.inl (Int32.toInt_inj.mp h2)))
    · exact Or.inr (Or.inr (Or.inr (Or.inl (Int32.toInt_inj.mp h2))))
    · exact Or.inr (Or.inr (Or.inr (Or.inr (Or.inl (Int32.toInt_inj.mp h2)))))
    · exact Or.inr (Or.inr (Or.inr (Or.inr (Or.inr (Or.inl (Int32.toInt_inj.mp h2))))))
    · exact Or.inr (Or.inr (Or.inr (Or.inr (Or.inr (Or.inr (Or.inl (Int32.toInt_inj.mp h2)))))))
    · exact Or.inr (Or.inr (Or.inr (Or.inr (Or.inr (Or.inr (Or.inr (Or.inl (Int32.toInt_inj.mp h2))))))))
/-- what set answers -/
def sp_set (what v : Int32) : Int32 := if (what = 0 ∧ 0 ≤ v ∧ v ≤ 100) ∨ (what = 1 ∧ 0 ≤ v ∧ v ≤ 1) ∨ (what = 2 ∧ 0 ≤ v ∧ v ≤ 99) then 1 else 0
/-- what count answers of a fresh object -/
def sp_count (what : Int32) : Int32 := if what = 0 ∨ what = 1 ∨ what = 2 ∨ what = 3 ∨ what = 4 ∨ what = 6 ∨ what = 7 then 0 else if what = 5 then -1 else -1000000
def sp_fault (sort : Int32) : Int32 := if sort = 0 ∨ sort = 1 then 0 else -2
theorem py_out8 {x : Int32} (h : x.toInt < 0 ∨ 7 < x.toInt) : ¬ x = 0 ∧ ¬ x = 1 ∧ ¬ x = 2 ∧ ¬ x = 3 ∧ ¬ x = 4 ∧ ¬ x = 5 ∧ ¬ x = 6 ∧ ¬ x = 7 := by
  refine ⟨?_, ?_, ?_, ?_, ?_, ?_, ?_, ?_⟩ <;> (intro e; subst e; revert h; decide)
end
section
theorem dX0_init_0 : decode cX0_init 0 = .ok (.aload_n 0, 1) := by decide +kernel
theorem dX0_init_1 : decode cX0_init 1 = .ok (.invokespecial 1, 3) := by decide +kernel
theorem dX0_init_4 : decode cX0_init 4 = .ok (.aload_n 0, 1) := by decide +kernel
theorem dX0_init_5 : decode cX0_init 5 = .ok (.bipush 40, 2) := by decide +kernel
theorem dX0_init_7 : decode cX0_init 7 = .ok (.newarray .int, 2) := by decide +kernel
theorem dX0_init_9 : decode cX0_init 9 = .ok (.putfield 9, 3) := by decide +kernel
theorem dX0_init_12 : decode cX0_init 12 = .ok (.aload_n 0, 1) := by decide +kernel
theorem dX0_init_13 : decode cX0_init 13 = .ok (.bipush 40, 2) := by decide +kernel
theorem dX0_init_15 : decode cX0_init 15 = .ok (.newarray .int, 2) := by decide +kernel
theorem dX0_init_17 : decode cX0_init 17 = .ok (.putfield 13, 3) := by decide +kernel
theorem dX0_init_20 : decode cX0_init 20 = .ok (.aload_n 0, 1) := by decide +kernel
theorem dX0_init_21 : decode cX0_init 21 = .ok (.bipush 40, 2) := by decide +kernel
theorem dX0_init_23 : decode cX0_init 23 = .ok (.newarray .int, 2) := by decide +kernel
theorem dX0_init_25 : decode cX0_init 25 = .ok (.putfield 16, 3) := by decide +kernel
theorem dX0_init_28 : decode cX0_init 28 = .ok (.aload_n 0, 1) := by decide +kernel
theorem dX0_init_29 : decode cX0_init 29 = .ok (.iconst 0, 1) := by decide +kernel
theorem dX0_init_30 : decode cX0_init 30 = .ok (.putfield 19, 3) := by decide +kernel
theorem dX0_init_33 : decode cX0_init 33 = .ok (.aload_n 0, 1) := by decide +kernel
theorem dX0_init_34 : decode cX0_init 34 = .ok (.bipush 10, 2) := by decide +kernel
theorem dX0_init_36 : decode cX0_init 36 = .ok (.putfield 23, 3) := by decide +kernel
theorem dX0_init_39 : decode cX0_init 39 = .ok (.return_, 1) := by decide +kernel
theorem dX10_init_0 : decode cX10_init 0 = .ok (.aload_n 0, 1) := by decide +kernel
theorem dX10_init_1 : decode cX10_init 1 = .ok (.invokespecial 3, 3) := by decide +kernel
theorem dX10_init_4 : decode cX10_init 4 = .ok (.aload_n 0, 1) := by decide +kernel
theorem dX10_init_5 : decode cX10_init 5 = .ok (.iconst 4, 1) := by decide +kernel
theorem dX10_init_6 : decode cX10_init 6 = .ok (.newarray .int, 2) := by decide +kernel
theorem dX10_init_8 : decode cX10_init 8 = .ok (.putfield 11, 3) := by decide +kernel
theorem dX10_init_11 : decode cX10_init 11 = .ok (.aload_n 0, 1) := by decide +kernel
theorem dX10_init_12 : decode cX10_init 12 = .ok (.new 15, 3) := by decide +kernel
theorem dX10_init_15 : decode cX10_init 15 = .ok (.dup, 1) := by decide +kernel
theorem dX10_init_16 : decode cX10_init 16 = .ok (.invokespecial 17, 3) := by decide +kernel
theorem dX10_init_19 : decode cX10_init 19 = .ok (.putfield 18, 3) := by decide +kernel
theorem dX10_init_22 : decode cX10_init 22 = .ok (.return_, 1) := by decide +kernel
theorem dX1_init_0 : decode cX1_init 0 = .ok (.aload_n 0, 1) := by decide +kernel
theorem dX1_init_1 : decode cX1_init 1 = .ok (.invokespecial 5, 3) := by decide +kernel
theorem dX1_init_4 : decode cX1_init 4 = .ok (.aload_n 0, 1) := by decide +kernel
theorem dX1_init_5 : decode cX1_init 5 = .ok (.sipush 600, 3) := by decide +kernel
theorem dX1_init_8 : decode cX1_init 8 = .ok (.newarray .int, 2) := by decide +kernel
theorem dX1_init_10 : decode cX1_init 10 = .ok (.putfield 13, 3) := by decide +kernel
theorem dX1_init_13 : decode cX1_init 13 = .ok (.aload_n 0, 1) := by decide +kernel
theorem dX1_init_14 : decode cX1_init 14 = .ok (.sipush 600, 3) := by decide +kernel
theorem dX1_init_17 : decode cX1_init 17 = .ok (.newarray .int, 2) := by decide +kernel
theorem dX1_init_19 : decode cX1_init 19 = .ok (.putfield 17, 3) := by decide +kernel
theorem dX1_init_22 : decode cX1_init 22 = .ok (.aload_n 0, 1) := by decide +kernel
theorem dX1_init_23 : decode cX1_init 23 = .ok (.iconst 0, 1) := by decide +kernel
theorem dX1_init_24 : decode cX1_init 24 = .ok (.putfield 20, 3) := by decide +kernel
theorem dX1_init_27 : decode cX1_init 27 = .ok (.return_, 1) := by decide +kernel
theorem dX2_init_0 : decode cX2_init 0 = .ok (.aload_n 0, 1) := by decide +kernel
theorem dX2_init_1 : decode cX2_init 1 = .ok (.invokespecial 3, 3) := by decide +kernel
theorem dX2_init_4 : decode cX2_init 4 = .ok (.aload_n 0, 1) := by decide +kernel
theorem dX2_init_5 : decode cX2_init 5 = .ok (.bipush 10, 2) := by decide +kernel
theorem dX2_init_7 : decode cX2_init 7 = .ok (.newarray .int, 2) := by decide +kernel
theorem dX2_init_9 : decode cX2_init 9 = .ok (.putfield 11, 3) := by decide +kernel
theorem dX2_init_12 : decode cX2_init 12 = .ok (.aload_n 0, 1) := by decide +kernel
theorem dX2_init_13 : decode cX2_init 13 = .ok (.bipush 10, 2) := by decide +kernel
theorem dX2_init_15 : decode cX2_init 15 = .ok (.newarray .int, 2) := by decide +kernel
theorem dX2_init_17 : decode cX2_init 17 = .ok (.putfield 17, 3) := by decide +kernel
theorem dX2_init_20 : decode cX2_init 20 = .ok (.aload_n 0, 1) := by decide +kernel
theorem dX2_init_21 : decode cX2_init 21 = .ok (.bipush 10, 2) := by decide +kernel
theorem dX2_init_23 : decode cX2_init 23 = .ok (.newarray .int, 2) := by decide +kernel
theorem dX2_init_25 : decode cX2_init 25 = .ok (.putfield 20, 3) := by decide +kernel
theorem dX2_init_28 : decode cX2_init 28 = .ok (.aload_n 0, 1) := by decide +kernel
theorem dX2_init_29 : decode cX2_init 29 = .ok (.bipush 10, 2) := by decide +kernel
theorem dX2_init_31 : decode cX2_init 31 = .ok (.newarray .int, 2) := by decide +kernel
theorem dX2_init_33 : decode cX2_init 33 = .ok (.putfield 23, 3) := by decide +kernel
theorem dX2_init_36 : decode cX2_init 36 = .ok (.aload_n 0, 1) := by decide +kernel
theorem dX2_init_37 : decode cX2_init 37 = .ok (.bipush 10, 2) := by decide +kernel
theorem dX2_init_39 : decode cX2_init 39 = .ok (.newarray .int, 2) := by decide +kernel
theorem dX2_init_41 : decode cX2_init 41 = .ok (.putfield 26, 3) := by decide +kernel
theorem dX2_init_44 : decode cX2_init 44 = .ok (.aload_n 0, 1) := by decide +kernel
theorem dX2_init_45 : decode cX2_init 45 = .ok (.bipush 10, 2) := by decide +kernel
theorem dX2_init_47 : decode cX2_init 47 = .ok (.newarray .int, 2) := by decide +kernel
theorem dX2_init_49 : decode cX2_init 49 = .ok (.putfield 29, 3) := by decide +kernel
theorem dX2_init_52 : decode cX2_init 52 = .ok (.aload_n 0, 1) := by decide +kernel
theorem dX2_init_53 : decode cX2_init 53 = .ok (.bipush 10, 2) := by decide +kernel
theorem dX2_init_55 : decode cX2_init 55 = .ok (.newarray .int, 2) := by decide +kernel
theorem dX2_init_57 : decode cX2_init 57 = .ok (.putfield 32, 3) := by decide +kernel
theorem dX2_init_60 : decode cX2_init 60 = .ok (.aload_n 0, 1) := by decide +kernel
theorem dX2_init_61 : decode cX2_init 61 = .ok (.bipush 10, 2) := by decide +kernel
theorem dX2_init_63 : decode cX2_init 63 = .ok (.newarray .int, 2) := by decide +kernel
theorem dX2_init_65 : decode cX2_init 65 = .ok (.putfield 35, 3) := by decide +kernel
theorem dX2_init_68 : decode cX2_init 68 = .ok (.aload_n 0, 1) := by decide +kernel
theorem dX2_init_69 : decode cX2_init 69 = .ok (.bipush 10, 2) := by decide +kernel
theorem dX2_init_71 : decode cX2_init 71 = .ok (.newarray .boolean, 2) := by decide +kernel
theorem dX2_init_73 : decode cX2_init 73 = .ok (.putfield 38, 3) := by decide +kernel
theorem dX2_init_76 : decode cX2_init 76 = .ok (.aload_n 0, 1) := by decide +kernel
theorem dX2_init_77 : decode cX2_init 77 = .ok (.new 9, 3) := by decide +kernel
theorem dX2_init_80 : decode cX2_init 80 = .ok (.dup, 1) := by decide +kernel
theorem dX2_init_81 : decode cX2_init 81 = .ok (.invokespecial 42, 3) := by decide +kernel
theorem dX2_init_84 : decode cX2_init 84 = .ok (.putfield 43, 3) := by decide +kernel
theorem dX2_init_87 : decode cX2_init 87 = .ok (.aload_n 0, 1) := by decide +kernel
theorem dX2_init_88 : decode cX2_init 88 = .ok (.lconst 0, 1) := by decide +kernel
theorem dX2_init_89 : decode cX2_init 89 = .ok (.putfield 47, 3) := by decide +kernel
theorem dX2_init_92 : decode cX2_init 92 = .ok (.aload_n 0, 1) := by decide +kernel
theorem dX2_init_93 : decode cX2_init 93 = .ok (.iconst 0, 1) := by decide +kernel
theorem dX2_init_94 : decode cX2_init 94 = .ok (.putfield 51, 3) := by decide +kernel
theorem dX2_init_97 : decode cX2_init 97 = .ok (.return_, 1) := by decide +kernel
theorem dX3_add_0 : decode cX3_add 0 = .ok (.aload_n 0, 1) := by decide +kernel
theorem dX3_add_1 : decode cX3_add 1 = .ok (.getfield 18, 3) := by decide +kernel
theorem dX3_add_4 : decode cX3_add 4 = .ok (.aload_n 0, 1) := by decide +kernel
theorem dX3_add_5 : decode cX3_add 5 = .ok (.getfield 9, 3) := by decide +kernel
theorem dX3_add_8 : decode cX3_add 8 = .ok (.arraylength, 1) := by decide +kernel
theorem dX3_add_9 : decode cX3_add 9 = .ok (.if_icmp .ge 28, 3) := by decide +kernel
theorem dX3_add_12 : decode cX3_add 12 = .ok (.aload_n 0, 1) := by decide +kernel
theorem dX3_add_13 : decode cX3_add 13 = .ok (.getfield 9, 3) := by decide +kernel
theorem dX3_add_16 : decode cX3_add 16 = .ok (.aload_n 0, 1) := by decide +kernel
theorem dX3_add_17 : decode cX3_add 17 = .ok (.getfield 18, 3) := by decide +kernel
theorem dX3_add_20 : decode cX3_add 20 = .ok (.iload_n 1, 1) := by decide +kernel
theorem dX3_add_21 : decode cX3_add 21 = .ok (.bipush 16, 2) := by decide +kernel
theorem dX3_add_23 : decode cX3_add 23 = .ok (.ishl, 1) := by decide +kernel
theorem dX3_add_24 : decode cX3_add 24 = .ok (.iload_n 2, 1) := by decide +kernel
theorem dX3_add_25 : decode cX3_add 25 = .ok (.ior, 1) := by decide +kernel
theorem dX3_add_26 : decode cX3_add 26 = .ok (.iastore, 1) := by decide +kernel
theorem dX3_add_27 : decode cX3_add 27 = .ok (.aload_n 0, 1) := by decide +kernel
theorem dX3_add_28 : decode cX3_add 28 = .ok (.dup, 1) := by decide +kernel
theorem dX3_add_29 : decode cX3_add 29 = .ok (.getfield 18, 3) := by decide +kernel
theorem dX3_add_32 : decode cX3_add 32 = .ok (.iconst 1, 1) := by decide +kernel
theorem dX3_add_33 : decode cX3_add 33 = .ok (.iadd, 1) := by decide +kernel
theorem dX3_add_34 : decode cX3_add 34 = .ok (.putfield 18, 3) := by decide +kernel
theorem dX3_add_37 : decode cX3_add 37 = .ok (.return_, 1) := by decide +kernel
theorem dX3_bornLessDead_0 : decode cX3_bornLessDead 0 = .ok (.new 10, 3) := by decide +kernel
theorem dX3_bornLessDead_3 : decode cX3_bornLessDead 3 = .ok (.dup, 1) := by decide +kernel
theorem dX3_bornLessDead_4 : decode cX3_bornLessDead 4 = .ok (.invokespecial 22, 3) := by decide +kernel
theorem dX3_bornLessDead_7 : decode cX3_bornLessDead 7 = .ok (.astore_n 0, 1) := by decide +kernel
theorem dX3_bornLessDead_8 : decode cX3_bornLessDead 8 = .ok (.aload_n 0, 1) := by decide +kernel
theorem dX3_bornLessDead_9 : decode cX3_bornLessDead 9 = .ok (.bipush 121, 2) := by decide +kernel
theorem dX3_bornLessDead_11 : decode cX3_bornLessDead 11 = .ok (.iconst 0, 1) := by decide +kernel
theorem dX3_bornLessDead_12 : decode cX3_bornLessDead 12 = .ok (.invokevirtual 23, 3) := by decide +kernel
theorem dX3_bornLessDead_15 : decode cX3_bornLessDead 15 = .ok (.aload_n 0, 1) := by decide +kernel
theorem dX3_bornLessDead_16 : decode cX3_bornLessDead 16 = .ok (.bipush 121, 2) := by decide +kernel
theorem dX3_bornLessDead_18 : decode cX3_bornLessDead 18 = .ok (.iconst 1, 1) := by decide +kernel
theorem dX3_bornLessDead_19 : decode cX3_bornLessDead 19 = .ok (.invokevirtual 23, 3) := by decide +kernel
theorem dX3_bornLessDead_22 : decode cX3_bornLessDead 22 = .ok (.aload_n 0, 1) := by decide +kernel
theorem dX3_bornLessDead_23 : decode cX3_bornLessDead 23 = .ok (.bipush 45, 2) := by decide +kernel
theorem dX3_bornLessDead_25 : decode cX3_bornLessDead 25 = .ok (.iconst 0, 1) := by decide +kernel
theorem dX3_bornLessDead_26 : decode cX3_bornLessDead 26 = .ok (.invokevirtual 23, 3) := by decide +kernel
theorem dX3_bornLessDead_29 : decode cX3_bornLessDead 29 = .ok (.aload_n 0, 1) := by decide +kernel
theorem dX3_bornLessDead_30 : decode cX3_bornLessDead 30 = .ok (.bipush 59, 2) := by decide +kernel
theorem dX3_bornLessDead_32 : decode cX3_bornLessDead 32 = .ok (.iconst 0, 1) := by decide +kernel
theorem dX3_bornLessDead_33 : decode cX3_bornLessDead 33 = .ok (.invokevirtual 23, 3) := by decide +kernel
theorem dX3_bornLessDead_36 : decode cX3_bornLessDead 36 = .ok (.aload_n 0, 1) := by decide +kernel
theorem dX3_bornLessDead_37 : decode cX3_bornLessDead 37 = .ok (.areturn, 1) := by decide +kernel
theorem dX3_init_0 : decode cX3_init 0 = .ok (.aload_n 0, 1) := by decide +kernel
theorem dX3_init_1 : decode cX3_init 1 = .ok (.invokespecial 1, 3) := by decide +kernel
theorem dX3_init_4 : decode cX3_init 4 = .ok (.aload_n 0, 1) := by decide +kernel
theorem dX3_init_5 : decode cX3_init 5 = .ok (.sipush 160, 3) := by decide +kernel
theorem dX3_init_8 : decode cX3_init 8 = .ok (.newarray .int, 2) := by decide +kernel
theorem dX3_init_10 : decode cX3_init 10 = .ok (.putfield 9, 3) := by decide +kernel
theorem dX3_init_13 : decode cX3_init 13 = .ok (.aload_n 0, 1) := by decide +kernel
theorem dX3_init_14 : decode cX3_init 14 = .ok (.bipush 32, 2) := by decide +kernel
theorem dX3_init_16 : decode cX3_init 16 = .ok (.newarray .int, 2) := by decide +kernel
theorem dX3_init_18 : decode cX3_init 18 = .ok (.putfield 15, 3) := by decide +kernel
theorem dX3_init_21 : decode cX3_init 21 = .ok (.aload_n 0, 1) := by decide +kernel
theorem dX3_init_22 : decode cX3_init 22 = .ok (.iconst 0, 1) := by decide +kernel
theorem dX3_init_23 : decode cX3_init 23 = .ok (.putfield 18, 3) := by decide +kernel
theorem dX3_init_26 : decode cX3_init 26 = .ok (.return_, 1) := by decide +kernel
theorem dX4_init_0 : decode cX4_init 0 = .ok (.aload_n 0, 1) := by decide +kernel
theorem dX4_init_1 : decode cX4_init 1 = .ok (.invokespecial 3, 3) := by decide +kernel
theorem dX4_init_4 : decode cX4_init 4 = .ok (.aload_n 0, 1) := by decide +kernel
theorem dX4_init_5 : decode cX4_init 5 = .ok (.new 9, 3) := by decide +kernel
theorem dX4_init_8 : decode cX4_init 8 = .ok (.dup, 1) := by decide +kernel
theorem dX4_init_9 : decode cX4_init 9 = .ok (.invokespecial 11, 3) := by decide +kernel
theorem dX4_init_12 : decode cX4_init 12 = .ok (.putfield 12, 3) := by decide +kernel
theorem dX4_init_15 : decode cX4_init 15 = .ok (.return_, 1) := by decide +kernel
theorem dX5_init_0 : decode cX5_init 0 = .ok (.aload_n 0, 1) := by decide +kernel
theorem dX5_init_1 : decode cX5_init 1 = .ok (.invokespecial 3, 3) := by decide +kernel
theorem dX5_init_4 : decode cX5_init 4 = .ok (.aload_n 0, 1) := by decide +kernel
theorem dX5_init_5 : decode cX5_init 5 = .ok (.bipush 8, 2) := by decide +kernel
theorem dX5_init_7 : decode cX5_init 7 = .ok (.newarray .int, 2) := by decide +kernel
theorem dX5_init_9 : decode cX5_init 9 = .ok (.putfield 11, 3) := by decide +kernel
theorem dX5_init_12 : decode cX5_init 12 = .ok (.return_, 1) := by decide +kernel
theorem dX6_init_0 : decode cX6_init 0 = .ok (.aload_n 0, 1) := by decide +kernel
theorem dX6_init_1 : decode cX6_init 1 = .ok (.invokespecial 3, 3) := by decide +kernel
theorem dX6_init_4 : decode cX6_init 4 = .ok (.aload_n 0, 1) := by decide +kernel
theorem dX6_init_5 : decode cX6_init 5 = .ok (.bipush 6, 2) := by decide +kernel
theorem dX6_init_7 : decode cX6_init 7 = .ok (.newarray .int, 2) := by decide +kernel
theorem dX6_init_9 : decode cX6_init 9 = .ok (.putfield 11, 3) := by decide +kernel
theorem dX6_init_12 : decode cX6_init 12 = .ok (.aload_n 0, 1) := by decide +kernel
theorem dX6_init_13 : decode cX6_init 13 = .ok (.bipush 22, 2) := by decide +kernel
theorem dX6_init_15 : decode cX6_init 15 = .ok (.newarray .long, 2) := by decide +kernel
theorem dX6_init_17 : decode cX6_init 17 = .ok (.putfield 17, 3) := by decide +kernel
theorem dX6_init_20 : decode cX6_init 20 = .ok (.aload_n 0, 1) := by decide +kernel
theorem dX6_init_21 : decode cX6_init 21 = .ok (.sipush 168, 3) := by decide +kernel
theorem dX6_init_24 : decode cX6_init 24 = .ok (.newarray .long, 2) := by decide +kernel
theorem dX6_init_26 : decode cX6_init 26 = .ok (.putfield 23, 3) := by decide +kernel
theorem dX6_init_29 : decode cX6_init 29 = .ok (.aload_n 0, 1) := by decide +kernel
theorem dX6_init_30 : decode cX6_init 30 = .ok (.sipush 168, 3) := by decide +kernel
theorem dX6_init_33 : decode cX6_init 33 = .ok (.newarray .long, 2) := by decide +kernel
theorem dX6_init_35 : decode cX6_init 35 = .ok (.putfield 26, 3) := by decide +kernel
theorem dX6_init_38 : decode cX6_init 38 = .ok (.aload_n 0, 1) := by decide +kernel
theorem dX6_init_39 : decode cX6_init 39 = .ok (.lconst 0, 1) := by decide +kernel
theorem dX6_init_40 : decode cX6_init 40 = .ok (.putfield 29, 3) := by decide +kernel
theorem dX6_init_43 : decode cX6_init 43 = .ok (.aload_n 0, 1) := by decide +kernel
theorem dX6_init_44 : decode cX6_init 44 = .ok (.aload_n 1, 1) := by decide +kernel
theorem dX6_init_45 : decode cX6_init 45 = .ok (.putfield 33, 3) := by decide +kernel
theorem dX6_init_48 : decode cX6_init 48 = .ok (.aload_n 0, 1) := by decide +kernel
theorem dX6_init_49 : decode cX6_init 49 = .ok (.aload_n 2, 1) := by decide +kernel
theorem dX6_init_50 : decode cX6_init 50 = .ok (.putfield 37, 3) := by decide +kernel
theorem dX6_init_53 : decode cX6_init 53 = .ok (.return_, 1) := by decide +kernel
theorem dX7_init_0 : decode cX7_init 0 = .ok (.aload_n 0, 1) := by decide +kernel
theorem dX7_init_1 : decode cX7_init 1 = .ok (.invokespecial 3, 3) := by decide +kernel
theorem dX7_init_4 : decode cX7_init 4 = .ok (.aload_n 0, 1) := by decide +kernel
theorem dX7_init_5 : decode cX7_init 5 = .ok (.bipush 8, 2) := by decide +kernel
theorem dX7_init_7 : decode cX7_init 7 = .ok (.newarray .int, 2) := by decide +kernel
theorem dX7_init_9 : decode cX7_init 9 = .ok (.putfield 11, 3) := by decide +kernel
theorem dX7_init_12 : decode cX7_init 12 = .ok (.aload_n 0, 1) := by decide +kernel
theorem dX7_init_13 : decode cX7_init 13 = .ok (.bipush 6, 2) := by decide +kernel
theorem dX7_init_15 : decode cX7_init 15 = .ok (.newarray .int, 2) := by decide +kernel
theorem dX7_init_17 : decode cX7_init 17 = .ok (.putfield 19, 3) := by decide +kernel
theorem dX7_init_20 : decode cX7_init 20 = .ok (.aload_n 0, 1) := by decide +kernel
theorem dX7_init_21 : decode cX7_init 21 = .ok (.bipush 10, 2) := by decide +kernel
theorem dX7_init_23 : decode cX7_init 23 = .ok (.newarray .int, 2) := by decide +kernel
theorem dX7_init_25 : decode cX7_init 25 = .ok (.putfield 22, 3) := by decide +kernel
theorem dX7_init_28 : decode cX7_init 28 = .ok (.aload_n 0, 1) := by decide +kernel
theorem dX7_init_29 : decode cX7_init 29 = .ok (.bipush 50, 2) := by decide +kernel
theorem dX7_init_31 : decode cX7_init 31 = .ok (.putfield 25, 3) := by decide +kernel
theorem dX7_init_34 : decode cX7_init 34 = .ok (.aload_n 0, 1) := by decide +kernel
theorem dX7_init_35 : decode cX7_init 35 = .ok (.iconst 0, 1) := by decide +kernel
theorem dX7_init_36 : decode cX7_init 36 = .ok (.putfield 29, 3) := by decide +kernel
theorem dX7_init_39 : decode cX7_init 39 = .ok (.return_, 1) := by decide +kernel
theorem dX8_init_0 : decode cX8_init 0 = .ok (.aload_n 0, 1) := by decide +kernel
theorem dX8_init_1 : decode cX8_init 1 = .ok (.invokespecial 1, 3) := by decide +kernel
theorem dX8_init_4 : decode cX8_init 4 = .ok (.aload_n 0, 1) := by decide +kernel
theorem dX8_init_5 : decode cX8_init 5 = .ok (.sipush 160, 3) := by decide +kernel
theorem dX8_init_8 : decode cX8_init 8 = .ok (.newarray .int, 2) := by decide +kernel
theorem dX8_init_10 : decode cX8_init 10 = .ok (.putfield 9, 3) := by decide +kernel
theorem dX8_init_13 : decode cX8_init 13 = .ok (.aload_n 0, 1) := by decide +kernel
theorem dX8_init_14 : decode cX8_init 14 = .ok (.iconst 0, 1) := by decide +kernel
theorem dX8_init_15 : decode cX8_init 15 = .ok (.putfield 13, 3) := by decide +kernel
theorem dX8_init_18 : decode cX8_init 18 = .ok (.aload_n 0, 1) := by decide +kernel
theorem dX8_init_19 : decode cX8_init 19 = .ok (.iconst 0, 1) := by decide +kernel
theorem dX8_init_20 : decode cX8_init 20 = .ok (.putfield 17, 3) := by decide +kernel
theorem dX8_init_23 : decode cX8_init 23 = .ok (.aload_n 0, 1) := by decide +kernel
theorem dX8_init_24 : decode cX8_init 24 = .ok (.iconst 0, 1) := by decide +kernel
theorem dX8_init_25 : decode cX8_init 25 = .ok (.putfield 20, 3) := by decide +kernel
theorem dX8_init_28 : decode cX8_init 28 = .ok (.return_, 1) := by decide +kernel
theorem dX9_init_0 : decode cX9_init 0 = .ok (.aload_n 0, 1) := by decide +kernel
theorem dX9_init_1 : decode cX9_init 1 = .ok (.invokespecial 1, 3) := by decide +kernel
theorem dX9_init_4 : decode cX9_init 4 = .ok (.aload_n 0, 1) := by decide +kernel
theorem dX9_init_5 : decode cX9_init 5 = .ok (.bipush 8, 2) := by decide +kernel
theorem dX9_init_7 : decode cX9_init 7 = .ok (.newarray .int, 2) := by decide +kernel
theorem dX9_init_9 : decode cX9_init 9 = .ok (.putfield 9, 3) := by decide +kernel
theorem dX9_init_12 : decode cX9_init 12 = .ok (.aload_n 0, 1) := by decide +kernel
theorem dX9_init_13 : decode cX9_init 13 = .ok (.bipush 8, 2) := by decide +kernel
theorem dX9_init_15 : decode cX9_init 15 = .ok (.newarray .int, 2) := by decide +kernel
theorem dX9_init_17 : decode cX9_init 17 = .ok (.putfield 13, 3) := by decide +kernel
theorem dX9_init_20 : decode cX9_init 20 = .ok (.aload_n 0, 1) := by decide +kernel
theorem dX9_init_21 : decode cX9_init 21 = .ok (.bipush 8, 2) := by decide +kernel
theorem dX9_init_23 : decode cX9_init 23 = .ok (.newarray .int, 2) := by decide +kernel
theorem dX9_init_25 : decode cX9_init 25 = .ok (.putfield 16, 3) := by decide +kernel
theorem dX9_init_28 : decode cX9_init 28 = .ok (.aload_n 0, 1) := by decide +kernel
theorem dX9_init_29 : decode cX9_init 29 = .ok (.bipush 8, 2) := by decide +kernel
theorem dX9_init_31 : decode cX9_init 31 = .ok (.newarray .int, 2) := by decide +kernel
theorem dX9_init_33 : decode cX9_init 33 = .ok (.putfield 19, 3) := by decide +kernel
theorem dX9_init_36 : decode cX9_init 36 = .ok (.aload_n 0, 1) := by decide +kernel
theorem dX9_init_37 : decode cX9_init 37 = .ok (.bipush 10, 2) := by decide +kernel
theorem dX9_init_39 : decode cX9_init 39 = .ok (.newarray .int, 2) := by decide +kernel
theorem dX9_init_41 : decode cX9_init 41 = .ok (.putfield 22, 3) := by decide +kernel
theorem dX9_init_44 : decode cX9_init 44 = .ok (.aload_n 0, 1) := by decide +kernel
theorem dX9_init_45 : decode cX9_init 45 = .ok (.bipush 10, 2) := by decide +kernel
theorem dX9_init_47 : decode cX9_init 47 = .ok (.newarray .int, 2) := by decide +kernel
theorem dX9_init_49 : decode cX9_init 49 = .ok (.putfield 25, 3) := by decide +kernel
theorem dX9_init_52 : decode cX9_init 52 = .ok (.aload_n 0, 1) := by decide +kernel
theorem dX9_init_53 : decode cX9_init 53 = .ok (.bipush 10, 2) := by decide +kernel
theorem dX9_init_55 : decode cX9_init 55 = .ok (.newarray .int, 2) := by decide +kernel
theorem dX9_init_57 : decode cX9_init 57 = .ok (.putfield 28, 3) := by decide +kernel
theorem dX9_init_60 : decode cX9_init 60 = .ok (.aload_n 0, 1) := by decide +kernel
theorem dX9_init_61 : decode cX9_init 61 = .ok (.bipush 10, 2) := by decide +kernel
theorem dX9_init_63 : decode cX9_init 63 = .ok (.newarray .int, 2) := by decide +kernel
theorem dX9_init_65 : decode cX9_init 65 = .ok (.putfield 31, 3) := by decide +kernel
theorem dX9_init_68 : decode cX9_init 68 = .ok (.aload_n 0, 1) := by decide +kernel
theorem dX9_init_69 : decode cX9_init 69 = .ok (.iconst 0, 1) := by decide +kernel
theorem dX9_init_70 : decode cX9_init 70 = .ok (.putfield 34, 3) := by decide +kernel
theorem dX9_init_73 : decode cX9_init 73 = .ok (.aload_n 0, 1) := by decide +kernel
theorem dX9_init_74 : decode cX9_init 74 = .ok (.iconst 0, 1) := by decide +kernel
theorem dX9_init_75 : decode cX9_init 75 = .ok (.putfield 38, 3) := by decide +kernel
theorem dX9_init_78 : decode cX9_init 78 = .ok (.return_, 1) := by decide +kernel
def w_X8_init : List Cond := .code yX8_init cX8_init 1 none :: ([Cond.methodLink RX8 1 objectInit, Cond.instanceMethod objectInit, Cond.code objectInit ⟨#[0xb1]⟩ 1 none, Cond.arrayClass .int, Cond.fieldLink RX8 9 "HeadYear$Tape" "bytes" "[I", Cond.fieldLink RX8 13 "HeadYear$Tape" "length" "I", Cond.fieldLink RX8 17 "HeadYear$Tape" "at" "I", Cond.fieldLink RX8 20 "HeadYear$Tape" "number" "I"] ++ (u_ws RX8 TX8 4 ++ ([])))
theorem in_X8_init_X8 : ∀ w ∈ u_ws RX8 TX8 4, w ∈ w_X8_init := fun _ h => List.mem_cons_of_mem _ (List.mem_append_right _ (List.mem_append_left _ h))
set_option maxHeartbeats 4000000 in
set_option maxRecDepth 100000 in
theorem c_X8_init (l : Launch) (E : py_E) (L : List Nat) (f : py_F) (sz : Nat) (h : Nat) (hh : py_at L f h (.inr (8, [.null, .int 0, .int 0, .int 0]))) : Met l yX8_init w_X8_init ({ frames := 1, cells := 1, slots := 160, locals := 12 }) (py_Pc E [.ref h] L f sz) (py_Qv E L f sz (fun L1 f1 => ∃ byt : Nat, py_at L1 f1 h (.inr (8, [.ref byt, .int 0, .int 0, .int 0])) ∧ py_at L1 f1 byt (.inl (E.2.1, 160, .inl (fun _ => 0))) ∧ py_ext L f L1 f1 h)) 1 160 (va_A (va_pl L f) sz) := by
  refine Met.ofW (cc := cX8_init) (maxL := 1) (ret := none) (by decide) rfl ?_
  intro p e s m args below meth c s₁ B hml hv
  obtain ⟨rfl, rfl, hw⟩ := py_start hv
  have G : CallFix p m c cX8_init 1 s _ w_X8_init RX8 := ⟨B.exec, B.bytes, hml, findClass_of_methodNamed B.named, atoms_spec (ws := w_X8_init) B.pre⟩
  have hr := B.returns
  have hlk := B.notSynchronized
  have hin : meth.name = "<init>" := (name_of_methodNamed B.named B.method).1
  have hl := lv_entry ([.ref h]) (n := 1) (Nat.le_of_ble_eq_true rfl)
  rw [lg_entry_eq]
  generalize (lg_sl ([.ref h]) ++ List.replicate (1 - (lg_sl ([.ref h])).length) Slot.unset).toArray = ls at hl ⊢
  have hl : lv_has ls 1 [(0, .ref h)] := hl
  refine lv_aload_n G.1 G.2.1 dX8_init_0 rfl (lv_at hl 0 rfl) ?_
  refine py_objInit G hl.1 (by decide +kernel) (by decide +kernel) (by decide +kernel) dX8_init_1 (Nat.le_of_ble_eq_true rfl) (Nat.le_of_ble_eq_true rfl) ?_
  refine lv_aload_n G.1 G.2.1 dX8_init_4 rfl (lv_at hl 0 rfl) ?_
  refine lv_sipush (v := 160) G.1 G.2.1 dX8_init_5 (by decide) ?_
  refine py_newI (N := 160) G hw (by decide +kernel) (by decide) (by decide) (Nat.le_of_ble_eq_true rfl) (Nat.le_of_ble_eq_true rfl) (Nat.le_of_ble_eq_true rfl) dX8_init_8 (fun q_1 L_2 f_3 H_4 hq_5 h_6 x_7 hw => ?_)
  have ne_8 : h ≠ q_1 := py_ne_new hh hq_5
  have hh := hh.all x_7
  refine py_putF (C := RX8) (T := TX8) (N := 4) (k := 0) (v := .ref q_1) (fs' := [.ref q_1, .int 0, .int 0, .int 0]) (ty0 := tyX8) G hin hw tyX8_ok nmX8 in_X8_init_X8 rfl hh (by decide) (by decide +kernel) rfl rfl rfl rfl rfl (Nat.le_of_ble_eq_true rfl) rfl dX8_init_10 (fun f_9 H_10 locs h_11 x_12 hw => ?_)
  have h_6 := h_6.ext x_12 (Ne.symm ne_8)
  refine lv_aload_n G.1 G.2.1 dX8_init_13 rfl (lv_at hl 0 rfl) ?_
  refine lv_iconst (v := 0) G.1 G.2.1 dX8_init_14 (by decide) ?_
  refine py_put (C := RX8) (T := TX8) (N := 4) (k := 1) (v := .int 0) (fs' := [.ref q_1, .int 0, .int 0, .int 0]) (ty0 := tyX8) G hw tyX8_ok nmX8 in_X8_init_X8 rfl h_11 (by decide) (by decide +kernel) rfl rfl rfl rfl (Nat.le_of_ble_eq_true rfl) rfl dX8_init_15 (fun f_13 H_14 locs h_15 x_16 hw => ?_)
  have h_6 := h_6.ext x_16 (Ne.symm ne_8)
  refine lv_aload_n G.1 G.2.1 dX8_init_18 rfl (lv_at hl 0 rfl) ?_
  refine lv_iconst (v := 0) G.1 G.2.1 dX8_init_19 (by decide) ?_
  refine py_put (C := RX8) (T := TX8) (N := 4) (k := 2) (v := .int 0) (fs' := [.ref q_1, .int 0, .int 0, .int 0]) (ty0 := tyX8) G hw tyX8_ok nmX8 in_X8_init_X8 rfl h_15 (by decide) (by decide +kernel) rfl rfl rfl rfl (Nat.le_of_ble_eq_true rfl) rfl dX8_init_20 (fun f_17 H_18 locs h_19 x_20 hw => ?_)
  have h_6 := h_6.ext x_20 (Ne.symm ne_8)
  refine lv_aload_n G.1 G.2.1 dX8_init_23 rfl (lv_at hl 0 rfl) ?_
  refine lv_iconst (v := 0) G.1 G.2.1 dX8_init_24 (by decide) ?_
  refine py_put (C := RX8) (T := TX8) (N := 4) (k := 3) (v := .int 0) (fs' := [.ref q_1, .int 0, .int 0, .int 0]) (ty0 := tyX8) G hw tyX8_ok nmX8 in_X8_init_X8 rfl h_19 (by decide) (by decide +kernel) rfl rfl rfl rfl (Nat.le_of_ble_eq_true rfl) rfl dX8_init_25 (fun f_21 H_22 locs h_23 x_24 hw => ?_)
  have h_6 := h_6.ext x_24 (Ne.symm ne_8)
  refine W.widen (k := 1) (n := 160) (Nat.le_of_ble_eq_true rfl) (Nat.le_of_ble_eq_true rfl) ?_
  have xt_25 : py_ext L f L_2 f_21 h := fun b hb hn => by
    have n1 : b ≠ q_1 := fun h => hq_5 (h ▸ hb)
    obtain ⟨m1, e1⟩ := x_7 b hb
    obtain ⟨m2, e2⟩ := x_12 b m1 hn
    obtain ⟨m3, e3⟩ := x_16 b m2 hn
    obtain ⟨m4, e4⟩ := x_20 b m3 hn
    obtain ⟨m5, e5⟩ := x_24 b m4 hn
    exact ⟨m5, e5.trans (e4.trans (e3.trans (e2.trans (e1.trans (rfl)))))⟩
  exact py_vret G hr hlk hw ⟨_, h_23, h_6, xt_25⟩ dX8_init_28

def w_X9_init : List Cond := .code yX9_init cX9_init 1 none :: ([Cond.methodLink RX9 1 objectInit, Cond.instanceMethod objectInit, Cond.code objectInit ⟨#[0xb1]⟩ 1 none, Cond.arrayClass .int, Cond.fieldLink RX9 9 "HeadYear$Valley" "huts" "[I", Cond.fieldLink RX9 13 "HeadYear$Valley" "food" "[I", Cond.fieldLink RX9 16 "HeadYear$Valley" "danger" "[I", Cond.fieldLink RX9 19 "HeadYear$Valley" "brow" "[I", Cond.fieldLink RX9 22 "HeadYear$Valley" "firstHeads" "[I", Cond.fieldLink RX9 25 "HeadYear$Valley" "firstLevel" "[I", Cond.fieldLink RX9 28 "HeadYear$Valley" "birth" "[I", Cond.fieldLink RX9 31 "HeadYear$Valley" "twin" "[I", Cond.fieldLink RX9 34 "HeadYear$Valley" "levels" "I", Cond.fieldLink RX9 38 "HeadYear$Valley" "families" "I"] ++ (u_ws RX9 TX9 10 ++ ([])))
theorem in_X9_init_X9 : ∀ w ∈ u_ws RX9 TX9 10, w ∈ w_X9_init := fun _ h => List.mem_cons_of_mem _ (List.mem_append_right _ (List.mem_append_left _ h))
set_option maxHeartbeats 4000000 in
set_option maxRecDepth 100000 in
theorem c_X9_init (l : Launch) (E : py_E) (L : List Nat) (f : py_F) (sz : Nat) (h : Nat) (hh : py_at L f h (.inr (9, [.null, .null, .null, .null, .null, .null, .null, .null, .int 0, .int 0]))) : Met l yX9_init w_X9_init ({ frames := 1, cells := 8, slots := 72, locals := 12 }) (py_Pc E [.ref h] L f sz) (py_Qv E L f sz (fun L1 f1 => ∃ xs : List Value, py_at L1 f1 h (.inr (9, xs)) ∧ xs.length = 10 ∧ xs[8]? = some (.int 0) ∧ xs[9]? = some (.int 0) ∧ py_ext L f L1 f1 h)) 8 72 (va_A (va_pl L f) sz) := by
  refine Met.ofW (cc := cX9_init) (maxL := 1) (ret := none) (by decide) rfl ?_
  intro p e s m args below meth c s₁ B hml hv
  obtain ⟨rfl, rfl, hw⟩ := py_start hv
  have G : CallFix p m c cX9_init 1 s _ w_X9_init RX9 := ⟨B.exec, B.bytes, hml, findClass_of_methodNamed B.named, atoms_spec (ws := w_X9_init) B.pre⟩
  have hr := B.returns
  have hlk := B.notSynchronized
  have hin : meth.name = "<init>" := (name_of_methodNamed B.named B.method).1
  have hl := lv_entry ([.ref h]) (n := 1) (Nat.le_of_ble_eq_true rfl)
  rw [lg_entry_eq]
  generalize (lg_sl ([.ref h]) ++ List.replicate (1 - (lg_sl ([.ref h])).length) Slot.unset).toArray = ls at hl ⊢
  have hl : lv_has ls 1 [(0, .ref h)] := hl
  refine lv_aload_n G.1 G.2.1 dX9_init_0 rfl (lv_at hl 0 rfl) ?_
  refine py_objInit G hl.1 (by decide +kernel) (by decide +kernel) (by decide +kernel) dX9_init_1 (Nat.le_of_ble_eq_true rfl) (Nat.le_of_ble_eq_true rfl) ?_
  refine lv_aload_n G.1 G.2.1 dX9_init_4 rfl (lv_at hl 0 rfl) ?_
  refine lv_bipush (v := 8) G.1 G.2.1 dX9_init_5 (by decide) ?_
  refine py_newI (N := 8) G hw (by decide +kernel) (by decide) (by decide) (Nat.le_of_ble_eq_true rfl) (Nat.le_of_ble_eq_true rfl) (Nat.le_of_ble_eq_true rfl) dX9_init_7 (fun q_1 L_2 f_3 H_4 hq_5 h_6 x_7 hw => ?_)
  have ne_8 : h ≠ q_1 := py_ne_new hh hq_5
  have hh := hh.all x_7
  refine py_putF (C := RX9) (T := TX9) (N := 10) (k := 0) (v := .ref q_1) (fs' := [.ref q_1, .null, .null, .null, .null, .null, .null, .null, .int 0, .int 0]) (ty0 := tyX9) G hin hw tyX9_ok nmX9 in_X9_init_X9 rfl hh (by decide) (by decide +kernel) rfl rfl rfl rfl rfl (Nat.le_of_ble_eq_true rfl) rfl dX9_init_9 (fun f_9 H_10 locs h_11 x_12 hw => ?_)
  refine lv_aload_n G.1 G.2.1 dX9_init_12 rfl (lv_at hl 0 rfl) ?_
  refine lv_bipush (v := 8) G.1 G.2.1 dX9_init_13 (by decide) ?_
  refine py_newI (N := 8) G hw (by decide +kernel) (by decide) (by decide) (Nat.le_of_ble_eq_true rfl) (Nat.le_of_ble_eq_true rfl) (Nat.le_of_ble_eq_true rfl) dX9_init_15 (fun q_13 L_14 f_15 H_16 hq_17 h_18 x_19 hw => ?_)
  have ne_20 : h ≠ q_13 := py_ne_new h_11 hq_17
  have h_11 := h_11.all x_19
  refine py_putF (C := RX9) (T := TX9) (N := 10) (k := 1) (v := .ref q_13) (fs' := [.ref q_1, .ref q_13, .null, .null, .null, .null, .null, .null, .int 0, .int 0]) (ty0 := tyX9) G hin hw tyX9_ok nmX9 in_X9_init_X9 rfl h_11 (by decide) (by decide +kernel) rfl rfl rfl rfl rfl (Nat.le_of_ble_eq_true rfl) rfl dX9_init_17 (fun f_21 H_22 locs h_23 x_24 hw => ?_)
  refine lv_aload_n G.1 G.2.1 dX9_init_20 rfl (lv_at hl 0 rfl) ?_
  refine lv_bipush (v := 8) G.1 G.2.1 dX9_init_21 (by decide) ?_
  refine py_newI (N := 8) G hw (by decide +kernel) (by decide) (by decide) (Nat.le_of_ble_eq_true rfl) (Nat.le_of_ble_eq_true rfl) (Nat.le_of_ble_eq_true rfl) dX9_init_23 (fun q_25 L_26 f_27 H_28 hq_29 h_30 x_31 hw => ?_)
  have ne_32 : h ≠ q_25 := py_ne_new h_23 hq_29
  have h_23 := h_23.all x_31
  refine py_putF (C := RX9) (T := TX9) (N := 10) (k := 2) (v := .ref q_25) (fs' := [.ref q_1, .ref q_13, .ref q_25, .null, .null, .null, .null, .null, .int 0, .int 0]) (ty0 := tyX9) G hin hw tyX9_ok nmX9 in_X9_init_X9 rfl h_23 (by decide) (by decide +kernel) rfl rfl rfl rfl rfl (Nat.le_of_ble_eq_true rfl) rfl dX9_init_25 (fun f_33 H_34 locs h_35 x_36 hw => ?_)
  refine lv_aload_n G.1 G.2.1 dX9_init_28 rfl (lv_at hl 0 rfl) ?_
  refine lv_bipush (v := 8) G.1 G.2.1 dX9_init_29 (by decide) ?_
  refine py_newI (N := 8) G hw (by decide +kernel) (by decide) (by decide) (Nat.le_of_ble_eq_true rfl) (Nat.le_of_ble_eq_true rfl) (Nat.le_of_ble_eq_true rfl) dX9_init_31 (fun q_37 L_38 f_39 H_40 hq_41 h_42 x_43 hw => ?_)
  have ne_44 : h ≠ q_37 := py_ne_new h_35 hq_41
  have h_35 := h_35.all x_43
  refine py_putF (C := RX9) (T := TX9) (N := 10) (k := 3) (v := .ref q_37) (fs' := [.ref q_1, .ref q_13, .ref q_25, .ref q_37, .null, .null, .null, .null, .int 0, .int 0]) (ty0 := tyX9) G hin hw tyX9_ok nmX9 in_X9_init_X9 rfl h_35 (by decide) (by decide +kernel) rfl rfl rfl rfl rfl (Nat.le_of_ble_eq_true rfl) rfl dX9_init_33 (fun f_45 H_46 locs h_47 x_48 hw => ?_)
  refine lv_aload_n G.1 G.2.1 dX9_init_36 rfl (lv_at hl 0 rfl) ?_
  refine lv_bipush (v := 10) G.1 G.2.1 dX9_init_37 (by decide) ?_
  refine py_newI (N := 10) G hw (by decide +kernel) (by decide) (by decide) (Nat.le_of_ble_eq_true rfl) (Nat.le_of_ble_eq_true rfl) (Nat.le_of_ble_eq_true rfl) dX9_init_39 (fun q_49 L_50 f_51 H_52 hq_53 h_54 x_55 hw => ?_)
  have ne_56 : h ≠ q_49 := py_ne_new h_47 hq_53
  have h_47 := h_47.all x_55
  refine py_putF (C := RX9) (T := TX9) (N := 10) (k := 4) (v := .ref q_49) (fs' := [.ref q_1, .ref q_13, .ref q_25, .ref q_37, .ref q_49, .null, .null, .null, .int 0, .int 0]) (ty0 := tyX9) G hin hw tyX9_ok nmX9 in_X9_init_X9 rfl h_47 (by decide) (by decide +kernel) rfl rfl rfl rfl rfl (Nat.le_of_ble_eq_true rfl) rfl dX9_init_41 (fun f_57 H_58 locs h_59 x_60 hw => ?_)
  refine lv_aload_n G.1 G.2.1 dX9_init_44 rfl (lv_at hl 0 rfl) ?_
  refine lv_bipush (v := 10) G.1 G.2.1 dX9_init_45 (by decide) ?_
  refine py_newI (N := 10) G hw (by decide +kernel) (by decide) (by decide) (Nat.le_of_ble_eq_true rfl) (Nat.le_of_ble_eq_true rfl) (Nat.le_of_ble_eq_true rfl) dX9_init_47 (fun q_61 L_62 f_63 H_64 hq_65 h_66 x_67 hw => ?_)
  have ne_68 : h ≠ q_61 := py_ne_new h_59 hq_65
  have h_59 := h_59.all x_67
  refine py_putF (C := RX9) (T := TX9) (N := 10) (k := 5) (v := .ref q_61) (fs' := [.ref q_1, .ref q_13, .ref q_25, .ref q_37, .ref q_49, .ref q_61, .null, .null, .int 0, .int 0]) (ty0 := tyX9) G hin hw tyX9_ok nmX9 in_X9_init_X9 rfl h_59 (by decide) (by decide +kernel) rfl rfl rfl rfl rfl (Nat.le_of_ble_eq_true rfl) rfl dX9_init_49 (fun f_69 H_70 locs h_71 x_72 hw => ?_)
  refine lv_aload_n G.1 G.2.1 dX9_init_52 rfl (lv_at hl 0 rfl) ?_
  refine lv_bipush (v := 10) G.1 G.2.1 dX9_init_53 (by decide) ?_
  refine py_newI (N := 10) G hw (by decide +kernel) (by decide) (by decide) (Nat.le_of_ble_eq_true rfl) (Nat.le_of_ble_eq_true rfl) (Nat.le_of_ble_eq_true rfl) dX9_init_55 (fun q_73 L_74 f_75 H_76 hq_77 h_78 x_79 hw => ?_)
  have ne_80 : h ≠ q_73 := py_ne_new h_71 hq_77
  have h_71 := h_71.all x_79
  refine py_putF (C := RX9) (T := TX9) (N := 10) (k := 6) (v := .ref q_73) (fs' := [.ref q_1, .ref q_13, .ref q_25, .ref q_37, .ref q_49, .ref q_61, .ref q_73, .null, .int 0, .int 0]) (ty0 := tyX9) G hin hw tyX9_ok nmX9 in_X9_init_X9 rfl h_71 (by decide) (by decide +kernel) rfl rfl rfl rfl rfl (Nat.le_of_ble_eq_true rfl) rfl dX9_init_57 (fun f_81 H_82 locs h_83 x_84 hw => ?_)
  refine lv_aload_n G.1 G.2.1 dX9_init_60 rfl (lv_at hl 0 rfl) ?_
  refine lv_bipush (v := 10) G.1 G.2.1 dX9_init_61 (by decide) ?_
  refine py_newI (N := 10) G hw (by decide +kernel) (by decide) (by decide) (Nat.le_of_ble_eq_true rfl) (Nat.le_of_ble_eq_true rfl) (Nat.le_of_ble_eq_true rfl) dX9_init_63 (fun q_85 L_86 f_87 H_88 hq_89 h_90 x_91 hw => ?_)
  have ne_92 : h ≠ q_85 := py_ne_new h_83 hq_89
  have h_83 := h_83.all x_91
  refine py_putF (C := RX9) (T := TX9) (N := 10) (k := 7) (v := .ref q_85) (fs' := [.ref q_1, .ref q_13, .ref q_25, .ref q_37, .ref q_49, .ref q_61, .ref q_73, .ref q_85, .int 0, .int 0]) (ty0 := tyX9) G hin hw tyX9_ok nmX9 in_X9_init_X9 rfl h_83 (by decide) (by decide +kernel) rfl rfl rfl rfl rfl (Nat.le_of_ble_eq_true rfl) rfl dX9_init_65 (fun f_93 H_94 locs h_95 x_96 hw => ?_)
  refine lv_aload_n G.1 G.2.1 dX9_init_68 rfl (lv_at hl 0 rfl) ?_
  refine lv_iconst (v := 0) G.1 G.2.1 dX9_init_69 (by decide) ?_
  refine py_put (C := RX9) (T := TX9) (N := 10) (k := 8) (v := .int 0) (fs' := [.ref q_1, .ref q_13, .ref q_25, .ref q_37, .ref q_49, .ref q_61, .ref q_73, .ref q_85, .int 0, .int 0]) (ty0 := tyX9) G hw tyX9_ok nmX9 in_X9_init_X9 rfl h_95 (by decide) (by decide +kernel) rfl rfl rfl rfl (Nat.le_of_ble_eq_true rfl) rfl dX9_init_70 (fun f_97 H_98 locs h_99 x_100 hw => ?_)
  refine lv_aload_n G.1 G.2.1 dX9_init_73 rfl (lv_at hl 0 rfl) ?_
  refine lv_iconst (v := 0) G.1 G.2.1 dX9_init_74 (by decide) ?_
  refine py_put (C := RX9) (T := TX9) (N := 10) (k := 9) (v := .int 0) (fs' := [.ref q_1, .ref q_13, .ref q_25, .ref q_37, .ref q_49, .ref q_61, .ref q_73, .ref q_85, .int 0, .int 0]) (ty0 := tyX9) G hw tyX9_ok nmX9 in_X9_init_X9 rfl h_99 (by decide) (by decide +kernel) rfl rfl rfl rfl (Nat.le_of_ble_eq_true rfl) rfl dX9_init_75 (fun f_101 H_102 locs h_103 x_104 hw => ?_)
  refine W.widen (k := 8) (n := 72) (Nat.le_of_ble_eq_true rfl) (Nat.le_of_ble_eq_true rfl) ?_
  have xt_105 : py_ext L f L_86 f_101 h := fun b hb hn => by
    have n1 : b ≠ q_1 := fun h => hq_5 (h ▸ hb)
    obtain ⟨m1, e1⟩ := x_7 b hb
    obtain ⟨m2, e2⟩ := x_12 b m1 hn
    have n3 : b ≠ q_13 := fun h => hq_17 (h ▸ m2)
    obtain ⟨m3, e3⟩ := x_19 b m2
    obtain ⟨m4, e4⟩ := x_24 b m3 hn
    have n5 : b ≠ q_25 := fun h => hq_29 (h ▸ m4)
    obtain ⟨m5, e5⟩ := x_31 b m4
    obtain ⟨m6, e6⟩ := x_36 b m5 hn
    have n7 : b ≠ q_37 := fun h => hq_41 (h ▸ m6)
    obtain ⟨m7, e7⟩ := x_43 b m6
    obtain ⟨m8, e8⟩ := x_48 b m7 hn
    have n9 : b ≠ q_49 := fun h => hq_53 (h ▸ m8)
    obtain ⟨m9, e9⟩ := x_55 b m8
    obtain ⟨m10, e10⟩ := x_60 b m9 hn
    have n11 : b ≠ q_61 := fun h => hq_65 (h ▸ m10)
    obtain ⟨m11, e11⟩ := x_67 b m10
    obtain ⟨m12, e12⟩ := x_72 b m11 hn
    have n13 : b ≠ q_73 := fun h => hq_77 (h ▸ m12)
    obtain ⟨m13, e13⟩ := x_79 b m12
    obtain ⟨m14, e14⟩ := x_84 b m13 hn
    have n15 : b ≠ q_85 := fun h => hq_89 (h ▸ m14)
    obtain ⟨m15, e15⟩ := x_91 b m14
    obtain ⟨m16, e16⟩ := x_96 b m15 hn
    obtain ⟨m17, e17⟩ := x_100 b m16 hn
    obtain ⟨m18, e18⟩ := x_104 b m17 hn
    exact ⟨m18, e18.trans (e17.trans (e16.trans (e15.trans (e14.trans (e13.trans (e12.trans (e11.trans (e10.trans (e9.trans (e8.trans (e7.trans (e6.trans (e5.trans (e4.trans (e3.trans (e2.trans (e1.trans (rfl))))))))))))))))))⟩
  exact py_vret G hr hlk hw ⟨_, h_103, rfl, rfl, rfl, xt_105⟩ dX9_init_78

def w_X3_init : List Cond := .code yX3_init cX3_init 1 none :: ([Cond.methodLink RX3 1 objectInit, Cond.instanceMethod objectInit, Cond.code objectInit ⟨#[0xb1]⟩ 1 none, Cond.arrayClass .int, Cond.fieldLink RX3 9 "HeadYear$Law" "code" "[I", Cond.fieldLink RX3 15 "HeadYear$Law" "stack" "[I", Cond.fieldLink RX3 18 "HeadYear$Law" "length" "I"] ++ (u_ws RX3 TX3 3 ++ ([])))
theorem in_X3_init_X3 : ∀ w ∈ u_ws RX3 TX3 3, w ∈ w_X3_init := fun _ h => List.mem_cons_of_mem _ (List.mem_append_right _ (List.mem_append_left _ h))
set_option maxHeartbeats 4000000 in
set_option maxRecDepth 100000 in
theorem c_X3_init (l : Launch) (E : py_E) (L : List Nat) (f : py_F) (sz : Nat) (h : Nat) (hh : py_at L f h (.inr (3, [.null, .null, .int 0]))) : Met l yX3_init w_X3_init ({ frames := 1, cells := 2, slots := 192, locals := 12 }) (py_Pc E [.ref h] L f sz) (py_Qv E L f sz (fun L1 f1 => ∃ co st : Nat, py_at L1 f1 h (.inr (3, [.ref co, .ref st, .int 0])) ∧ py_at L1 f1 co (.inl (E.2.1, 160, .inl (fun _ => 0))) ∧ co ∉ L ∧ py_ext L f L1 f1 h)) 2 192 (va_A (va_pl L f) sz) := by
  refine Met.ofW (cc := cX3_init) (maxL := 1) (ret := none) (by decide) rfl ?_
  intro p e s m args below meth c s₁ B hml hv
  obtain ⟨rfl, rfl, hw⟩ := py_start hv
  have G : CallFix p m c cX3_init 1 s _ w_X3_init RX3 := ⟨B.exec, B.bytes, hml, findClass_of_methodNamed B.named, atoms_spec (ws := w_X3_init) B.pre⟩
  have hr := B.returns
  have hlk := B.notSynchronized
  have hin : meth.name = "<init>" := (name_of_methodNamed B.named B.method).1
  have hl := lv_entry ([.ref h]) (n := 1) (Nat.le_of_ble_eq_true rfl)
  rw [lg_entry_eq]
  generalize (lg_sl ([.ref h]) ++ List.replicate (1 - (lg_sl ([.ref h])).length) Slot.unset).toArray = ls at hl ⊢
  have hl : lv_has ls 1 [(0, .ref h)] := hl
  refine lv_aload_n G.1 G.2.1 dX3_init_0 rfl (lv_at hl 0 rfl) ?_
  refine py_objInit G hl.1 (by decide +kernel) (by decide +kernel) (by decide +kernel) dX3_init_1 (Nat.le_of_ble_eq_true rfl) (Nat.le_of_ble_eq_true rfl) ?_
  refine lv_aload_n G.1 G.2.1 dX3_init_4 rfl (lv_at hl 0 rfl) ?_
  refine lv_sipush (v := 160) G.1 G.2.1 dX3_init_5 (by decide) ?_
  refine py_newI (N := 160) G hw (by decide +kernel) (by decide) (by decide) (Nat.le_of_ble_eq_true rfl) (Nat.le_of_ble_eq_true rfl) (Nat.le_of_ble_eq_true rfl) dX3_init_8 (fun q_1 L_2 f_3 H_4 hq_5 h_6 x_7 hw => ?_)
  have ne_8 : h ≠ q_1 := py_ne_new hh hq_5
  have hh := hh.all x_7
  refine py_putF (C := RX3) (T := TX3) (N := 3) (k := 0) (v := .ref q_1) (fs' := [.ref q_1, .null, .int 0]) (ty0 := tyX3) G hin hw tyX3_ok nmX3 in_X3_init_X3 rfl hh (by decide) (by decide +kernel) rfl rfl rfl rfl rfl (Nat.le_of_ble_eq_true rfl) rfl dX3_init_10 (fun f_9 H_10 locs h_11 x_12 hw => ?_)
  have h_6 := h_6.ext x_12 (Ne.symm ne_8)
  refine lv_aload_n G.1 G.2.1 dX3_init_13 rfl (lv_at hl 0 rfl) ?_
  refine lv_bipush (v := 32) G.1 G.2.1 dX3_init_14 (by decide) ?_
  refine py_newI (N := 32) G hw (by decide +kernel) (by decide) (by decide) (Nat.le_of_ble_eq_true rfl) (Nat.le_of_ble_eq_true rfl) (Nat.le_of_ble_eq_true rfl) dX3_init_16 (fun q_13 L_14 f_15 H_16 hq_17 h_18 x_19 hw => ?_)
  have ne_20 : h ≠ q_13 := py_ne_new h_11 hq_17
  have h_11 := h_11.all x_19
  have ne_21 : q_1 ≠ q_13 := py_ne_new h_6 hq_17
  have h_6 := h_6.all x_19
  refine py_putF (C := RX3) (T := TX3) (N := 3) (k := 1) (v := .ref q_13) (fs' := [.ref q_1, .ref q_13, .int 0]) (ty0 := tyX3) G hin hw tyX3_ok nmX3 in_X3_init_X3 rfl h_11 (by decide) (by decide +kernel) rfl rfl rfl rfl rfl (Nat.le_of_ble_eq_true rfl) rfl dX3_init_18 (fun f_22 H_23 locs h_24 x_25 hw => ?_)
  have h_6 := h_6.ext x_25 (Ne.symm ne_8)
  refine lv_aload_n G.1 G.2.1 dX3_init_21 rfl (lv_at hl 0 rfl) ?_
  refine lv_iconst (v := 0) G.1 G.2.1 dX3_init_22 (by decide) ?_
  refine py_put (C := RX3) (T := TX3) (N := 3) (k := 2) (v := .int 0) (fs' := [.ref q_1, .ref q_13, .int 0]) (ty0 := tyX3) G hw tyX3_ok nmX3 in_X3_init_X3 rfl h_24 (by decide) (by decide +kernel) rfl rfl rfl rfl (Nat.le_of_ble_eq_true rfl) rfl dX3_init_23 (fun f_26 H_27 locs h_28 x_29 hw => ?_)
  have h_6 := h_6.ext x_29 (Ne.symm ne_8)
  refine W.widen (k := 2) (n := 192) (Nat.le_of_ble_eq_true rfl) (Nat.le_of_ble_eq_true rfl) ?_
  have xt_30 : py_ext L f L_14 f_26 h := fun b hb hn => by
    have n1 : b ≠ q_1 := fun h => hq_5 (h ▸ hb)
    obtain ⟨m1, e1⟩ := x_7 b hb
    obtain ⟨m2, e2⟩ := x_12 b m1 hn
    have n3 : b ≠ q_13 := fun h => hq_17 (h ▸ m2)
    obtain ⟨m3, e3⟩ := x_19 b m2
    obtain ⟨m4, e4⟩ := x_25 b m3 hn
    obtain ⟨m5, e5⟩ := x_29 b m4 hn
    exact ⟨m5, e5.trans (e4.trans (e3.trans (e2.trans (e1.trans (rfl)))))⟩
  exact py_vret G hr hlk hw ⟨_, _, h_28, h_6, hq_5, xt_30⟩ dX3_init_26

def w_X10_init : List Cond := .code yX10_init cX10_init 1 none :: ([Cond.methodLink RX10 3 objectInit, Cond.instanceMethod objectInit, Cond.code objectInit ⟨#[0xb1]⟩ 1 none, Cond.arrayClass .int, Cond.fieldLink RX10 11 "HeadYear$ValleyReader" "items" "[I", Cond.classLink RX10 15 RX9, Cond.instantiable RX9 10, Cond.initialized RX9, Cond.instanceMethod yX9_init, Cond.fieldLink RX10 18 "HeadYear$ValleyReader" "draft" "LHeadYear$Valley;"] ++ (u_ws RX10 TX10 2 ++ (u_ws RX9 TX9 10 ++ (w_X9_init ++ ([])))))
theorem in_X10_init_X10 : ∀ w ∈ u_ws RX10 TX10 2, w ∈ w_X10_init := fun _ h => List.mem_cons_of_mem _ (List.mem_append_right _ (List.mem_append_left _ h))
theorem in_X10_init_X9 : ∀ w ∈ u_ws RX9 TX9 10, w ∈ w_X10_init := fun _ h => List.mem_cons_of_mem _ (List.mem_append_right _ (List.mem_append_right _ (List.mem_append_left _ h)))
theorem gg_X10_init_X9_init : GoodIn w_X10_init w_X9_init := goodIn_sub (fun _ h => List.mem_cons_of_mem _ (List.mem_append_right _ (List.mem_append_right _ (List.mem_append_right _ (List.mem_append_left _ h))))) (by decide +kernel)
theorem g_X10_init_X9_init_17 : GoodIn w_X10_init w_X9_init := gg_X10_init_X9_init
set_option maxHeartbeats 4000000 in
set_option maxRecDepth 100000 in
theorem c_X10_init (l : Launch) (E : py_E) (L : List Nat) (f : py_F) (sz : Nat) (h : Nat) (hh : py_at L f h (.inr (10, [.null, .null]))) : Met l yX10_init w_X10_init ({ frames := 2, cells := 10, slots := 86, locals := 32 }) (py_Pc E [.ref h] L f sz) (py_Qv E L f sz (fun L1 f1 => ∃ (itm dr : Nat) (xd : List Value), py_at L1 f1 h (.inr (10, [.ref itm, .ref dr])) ∧ py_at L1 f1 dr (.inr (9, xd)) ∧ xd.length = 10 ∧ py_ext L f L1 f1 h)) 10 86 (va_A (va_pl L f) sz) := by
  refine Met.ofW (cc := cX10_init) (maxL := 1) (ret := none) (by decide) rfl ?_
  intro p e s m args below meth c s₁ B hml hv
  obtain ⟨rfl, rfl, hw⟩ := py_start hv
  have G : CallFix p m c cX10_init 1 s _ w_X10_init RX10 := ⟨B.exec, B.bytes, hml, findClass_of_methodNamed B.named, atoms_spec (ws := w_X10_init) B.pre⟩
  have hr := B.returns
  have hlk := B.notSynchronized
  have hin : meth.name = "<init>" := (name_of_methodNamed B.named B.method).1
  have hl := lv_entry ([.ref h]) (n := 1) (Nat.le_of_ble_eq_true rfl)
  rw [lg_entry_eq]
  generalize (lg_sl ([.ref h]) ++ List.replicate (1 - (lg_sl ([.ref h])).length) Slot.unset).toArray = ls at hl ⊢
  have hl : lv_has ls 1 [(0, .ref h)] := hl
  refine lv_aload_n G.1 G.2.1 dX10_init_0 rfl (lv_at hl 0 rfl) ?_
  refine py_objInit G hl.1 (by decide +kernel) (by decide +kernel) (by decide +kernel) dX10_init_1 (Nat.le_of_ble_eq_true rfl) (Nat.le_of_ble_eq_true rfl) ?_
  refine lv_aload_n G.1 G.2.1 dX10_init_4 rfl (lv_at hl 0 rfl) ?_
  refine lv_iconst (v := 4) G.1 G.2.1 dX10_init_5 (by decide) ?_
  refine py_newI (N := 4) G hw (by decide +kernel) (by decide) (by decide) (Nat.le_of_ble_eq_true rfl) (Nat.le_of_ble_eq_true rfl) (Nat.le_of_ble_eq_true rfl) dX10_init_6 (fun q_1 L_2 f_3 H_4 hq_5 h_6 x_7 hw => ?_)
  have ne_8 : h ≠ q_1 := py_ne_new hh hq_5
  have hh := hh.all x_7
  refine py_putF (C := RX10) (T := TX10) (N := 2) (k := 0) (v := .ref q_1) (fs' := [.ref q_1, .null]) (ty0 := tyX10) G hin hw tyX10_ok nmX10 in_X10_init_X10 rfl hh (by decide) (by decide +kernel) rfl rfl rfl rfl rfl (Nat.le_of_ble_eq_true rfl) rfl dX10_init_8 (fun f_9 H_10 locs h_11 x_12 hw => ?_)
  refine lv_aload_n G.1 G.2.1 dX10_init_11 rfl (lv_at hl 0 rfl) ?_
  refine py_new (C := RX9) (T := TX9) (N := 10) (ci := 9) (fs := [.null, .null, .null, .null, .null, .null, .null, .null, .int 0, .int 0]) (ty0 := tyX9) G hw tyX9_ok in_X10_init_X9 rfl (by decide +kernel) (by decide +kernel) (by decide +kernel) (fun j hj => match j, hj with | 0, _ => rfl | 1, _ => rfl | 2, _ => rfl | 3, _ => rfl | 4, _ => rfl | 5, _ => rfl | 6, _ => rfl | 7, _ => rfl | 8, _ => rfl | 9, _ => rfl | n + 10, h => absurd h (by omega)) (Nat.le_of_ble_eq_true rfl) (Nat.le_of_ble_eq_true rfl) dX10_init_12 (fun q_13 L_14 f_15 H_16 hq_17 h_18 x_19 hw => ?_)
  have ne_20 : h ≠ q_13 := py_ne_new h_11 hq_17
  have h_11 := h_11.all x_19
  refine lv_dup G.1 G.2.1 dX10_init_15 rfl ?_
  refine py_callv hw (va_runIN (As := []) (rest := [.ref q_13, .ref h]) G (c_X9_init l E L_14 f_15 H_16.size q_13 h_18) ⟨va_cnB 0 G.2.2.2.2 g_X10_init_X9_init_17 rfl rfl rfl (hw.1.2.2 (RX10, 17, yX9_init) (List.mem_of_getElem? (i := 2) rfl)) (G.2.2.2.2 (Cond.initialized RX9) (by decide +kernel)) (by decide +kernel) ⟨(Nat.le_of_ble_eq_true rfl), (Nat.le_of_ble_eq_true rfl)⟩, rfl, G.2.2.2.2 (Cond.instanceMethod yX9_init) (by decide +kernel)⟩ (py_preS hw) rfl rfl hl.1 rfl (lv_room (Nat.le_of_ble_eq_true rfl)) dX10_init_16 ⟨(Nat.le_of_ble_eq_true rfl), (Nat.le_of_ble_eq_true rfl)⟩) (fun L_21 f_22 H_23 locs hp_24 hw => ?_)
  obtain ⟨xs_27, h_28, hl_29, hp_30, hp_31, x_26⟩ := hp_24
  have h_11 := h_11.ext x_26 ne_20
  refine py_put (C := RX10) (T := TX10) (N := 2) (k := 1) (v := .ref q_13) (fs' := [.ref q_1, .ref q_13]) (ty0 := tyX10) G hw tyX10_ok nmX10 in_X10_init_X10 rfl h_11 (by decide) (by decide +kernel) rfl rfl rfl rfl (Nat.le_of_ble_eq_true rfl) rfl dX10_init_19 (fun f_32 H_33 locs h_34 x_35 hw => ?_)
  have h_28 := h_28.ext x_35 (Ne.symm ne_20)
  refine W.widen (k := 10) (n := 86) (Nat.le_of_ble_eq_true rfl) (Nat.le_of_ble_eq_true rfl) ?_
  have xt_36 : py_ext L f L_21 f_32 h := fun b hb hn => by
    have n1 : b ≠ q_1 := fun h => hq_5 (h ▸ hb)
    obtain ⟨m1, e1⟩ := x_7 b hb
    obtain ⟨m2, e2⟩ := x_12 b m1 hn
    have n3 : b ≠ q_13 := fun h => hq_17 (h ▸ m2)
    obtain ⟨m3, e3⟩ := x_19 b m2
    obtain ⟨m4, e4⟩ := x_26 b m3 n3
    obtain ⟨m5, e5⟩ := x_35 b m4 hn
    exact ⟨m5, e5.trans (e4.trans (e3.trans (e2.trans (e1.trans (rfl)))))⟩
  exact py_vret G hr hlk hw ⟨_, _, _, h_34, h_28, hl_29, xt_36⟩ dX10_init_22

def w_X4_init : List Cond := .code yX4_init cX4_init 1 none :: ([Cond.methodLink RX4 3 objectInit, Cond.instanceMethod objectInit, Cond.code objectInit ⟨#[0xb1]⟩ 1 none, Cond.classLink RX4 9 RX3, Cond.instantiable RX3 3, Cond.initialized RX3, Cond.instanceMethod yX3_init, Cond.fieldLink RX4 12 "HeadYear$LawReader" "draft" "LHeadYear$Law;"] ++ (u_ws RX3 TX3 3 ++ (u_ws RX4 TX4 1 ++ (w_X3_init ++ ([])))))
theorem in_X4_init_X3 : ∀ w ∈ u_ws RX3 TX3 3, w ∈ w_X4_init := fun _ h => List.mem_cons_of_mem _ (List.mem_append_right _ (List.mem_append_left _ h))
theorem in_X4_init_X4 : ∀ w ∈ u_ws RX4 TX4 1, w ∈ w_X4_init := fun _ h => List.mem_cons_of_mem _ (List.mem_append_right _ (List.mem_append_right _ (List.mem_append_left _ h)))
theorem gg_X4_init_X3_init : GoodIn w_X4_init w_X3_init := goodIn_sub (fun _ h => List.mem_cons_of_mem _ (List.mem_append_right _ (List.mem_append_right _ (List.mem_append_right _ (List.mem_append_left _ h))))) (by decide +kernel)
theorem g_X4_init_X3_init_11 : GoodIn w_X4_init w_X3_init := gg_X4_init_X3_init
set_option maxHeartbeats 4000000 in
set_option maxRecDepth 100000 in
theorem c_X4_init (l : Launch) (E : py_E) (L : List Nat) (f : py_F) (sz : Nat) (h : Nat) (hh : py_at L f h (.inr (4, [.null]))) : Met l yX4_init w_X4_init ({ frames := 2, cells := 3, slots := 195, locals := 32 }) (py_Pc E [.ref h] L f sz) (py_Qv E L f sz (fun L1 f1 => ∃ (dl : Nat) (xl : List Value), py_at L1 f1 h (.inr (4, [.ref dl])) ∧ py_at L1 f1 dl (.inr (3, xl)) ∧ xl.length = 3 ∧ py_ext L f L1 f1 h)) 3 195 (va_A (va_pl L f) sz) := by
  refine Met.ofW (cc := cX4_init) (maxL := 1) (ret := none) (by decide) rfl ?_
  intro p e s m args below meth c s₁ B hml hv
  obtain ⟨rfl, rfl, hw⟩ := py_start hv
  have G : CallFix p m c cX4_init 1 s _ w_X4_init RX4 := ⟨B.exec, B.bytes, hml, findClass_of_methodNamed B.named, atoms_spec (ws := w_X4_init) B.pre⟩
  have hr := B.returns
  have hlk := B.notSynchronized
  have hin : meth.name = "<init>" := (name_of_methodNamed B.named B.method).1
  have hl := lv_entry ([.ref h]) (n := 1) (Nat.le_of_ble_eq_true rfl)
  rw [lg_entry_eq]
  generalize (lg_sl ([.ref h]) ++ List.replicate (1 - (lg_sl ([.ref h])).length) Slot.unset).toArray = ls at hl ⊢
  have hl : lv_has ls 1 [(0, .ref h)] := hl
  refine lv_aload_n G.1 G.2.1 dX4_init_0 rfl (lv_at hl 0 rfl) ?_
  refine py_objInit G hl.1 (by decide +kernel) (by decide +kernel) (by decide +kernel) dX4_init_1 (Nat.le_of_ble_eq_true rfl) (Nat.le_of_ble_eq_true rfl) ?_
  refine lv_aload_n G.1 G.2.1 dX4_init_4 rfl (lv_at hl 0 rfl) ?_
  refine py_new (C := RX3) (T := TX3) (N := 3) (ci := 3) (fs := [.null, .null, .int 0]) (ty0 := tyX3) G hw tyX3_ok in_X4_init_X3 rfl (by decide +kernel) (by decide +kernel) (by decide +kernel) (fun j hj => match j, hj with | 0, _ => rfl | 1, _ => rfl | 2, _ => rfl | n + 3, h => absurd h (by omega)) (Nat.le_of_ble_eq_true rfl) (Nat.le_of_ble_eq_true rfl) dX4_init_5 (fun q_1 L_2 f_3 H_4 hq_5 h_6 x_7 hw => ?_)
  have ne_8 : h ≠ q_1 := py_ne_new hh hq_5
  have hh := hh.all x_7
  refine lv_dup G.1 G.2.1 dX4_init_8 rfl ?_
  refine py_callv hw (va_runIN (As := []) (rest := [.ref q_1, .ref h]) G (c_X3_init l E L_2 f_3 H_4.size q_1 h_6) ⟨va_cnB 0 G.2.2.2.2 g_X4_init_X3_init_11 rfl rfl rfl (hw.1.2.2 (RX4, 11, yX3_init) (List.mem_of_getElem? (i := 4) rfl)) (G.2.2.2.2 (Cond.initialized RX3) (by decide +kernel)) (by decide +kernel) ⟨(Nat.le_of_ble_eq_true rfl), (Nat.le_of_ble_eq_true rfl)⟩, rfl, G.2.2.2.2 (Cond.instanceMethod yX3_init) (by decide +kernel)⟩ (py_preS hw) rfl rfl hl.1 rfl (lv_room (Nat.le_of_ble_eq_true rfl)) dX4_init_9 ⟨(Nat.le_of_ble_eq_true rfl), (Nat.le_of_ble_eq_true rfl)⟩) (fun L_9 f_10 H_11 locs hp_12 hw => ?_)
  obtain ⟨co_15, st_19, h_16, h_17, hco_18, x_14⟩ := hp_12
  have hh := hh.ext x_14 ne_8
  refine py_put (C := RX4) (T := TX4) (N := 1) (k := 0) (v := .ref q_1) (fs' := [.ref q_1]) (ty0 := tyX4) G hw tyX4_ok nmX4 in_X4_init_X4 rfl hh (by decide) (by decide +kernel) rfl rfl rfl rfl (Nat.le_of_ble_eq_true rfl) rfl dX4_init_12 (fun f_20 H_21 locs h_22 x_23 hw => ?_)
  have h_16 := h_16.ext x_23 (Ne.symm ne_8)
  have h_17 := h_17.ext x_23 (Ne.symm (py_ne_arr hh h_17))
  refine W.widen (k := 3) (n := 195) (Nat.le_of_ble_eq_true rfl) (Nat.le_of_ble_eq_true rfl) ?_
  have xt_24 : py_ext L f L_9 f_20 h := fun b hb hn => by
    have n1 : b ≠ q_1 := fun h => hq_5 (h ▸ hb)
    obtain ⟨m1, e1⟩ := x_7 b hb
    obtain ⟨m2, e2⟩ := x_14 b m1 n1
    obtain ⟨m3, e3⟩ := x_23 b m2 hn
    exact ⟨m3, e3.trans (e2.trans (e1.trans (rfl)))⟩
  exact py_vret G hr hlk hw ⟨_, _, h_22, h_16, rfl, xt_24⟩ dX4_init_15

def w_X2_init : List Cond := .code yX2_init cX2_init 1 none :: ([Cond.methodLink RX2 3 objectInit, Cond.instanceMethod objectInit, Cond.code objectInit ⟨#[0xb1]⟩ 1 none, Cond.arrayClass .int, Cond.fieldLink RX2 11 "HeadYear$Folk" "heads" "[I", Cond.fieldLink RX2 17 "HeadYear$Folk" "level" "[I", Cond.fieldLink RX2 20 "HeadYear$Folk" "hut" "[I", Cond.fieldLink RX2 23 "HeadYear$Folk" "debt" "[I", Cond.fieldLink RX2 26 "HeadYear$Folk" "born" "[I", Cond.fieldLink RX2 29 "HeadYear$Folk" "dead" "[I", Cond.fieldLink RX2 32 "HeadYear$Folk" "bought" "[I", Cond.fieldLink RX2 35 "HeadYear$Folk" "spent" "[I", Cond.arrayClass .boolean, Cond.fieldLink RX2 38 "HeadYear$Folk" "hushed" "[Z", Cond.classLink RX2 9 RX9, Cond.instantiable RX9 10, Cond.initialized RX9, Cond.instanceMethod yX9_init, Cond.fieldLink RX2 43 "HeadYear$Folk" "valley" "LHeadYear$Valley;", Cond.fieldLink RX2 47 "HeadYear$Folk" "x" "J", Cond.fieldLink RX2 51 "HeadYear$Folk" "years" "I"] ++ (u_ws RX2 TX2 12 ++ (u_ws RX9 TX9 10 ++ (w_X9_init ++ ([])))))
theorem in_X2_init_X2 : ∀ w ∈ u_ws RX2 TX2 12, w ∈ w_X2_init := fun _ h => List.mem_cons_of_mem _ (List.mem_append_right _ (List.mem_append_left _ h))
theorem in_X2_init_X9 : ∀ w ∈ u_ws RX9 TX9 10, w ∈ w_X2_init := fun _ h => List.mem_cons_of_mem _ (List.mem_append_right _ (List.mem_append_right _ (List.mem_append_left _ h)))
theorem gg_X2_init_X9_init : GoodIn w_X2_init w_X9_init := goodIn_sub (fun _ h => List.mem_cons_of_mem _ (List.mem_append_right _ (List.mem_append_right _ (List.mem_append_right _ (List.mem_append_left _ h))))) (by decide +kernel)
theorem g_X2_init_X9_init_42 : GoodIn w_X2_init w_X9_init := gg_X2_init_X9_init
set_option maxHeartbeats 4000000 in
set_option maxRecDepth 100000 in
theorem c_X2_init (l : Launch) (E : py_E) (L : List Nat) (f : py_F) (sz : Nat) (h : Nat) (hh : py_at L f h (.inr (2, [.null, .null, .null, .null, .null, .null, .null, .null, .null, .null, .long 0, .int 0]))) : Met l yX2_init w_X2_init ({ frames := 2, cells := 18, slots := 172, locals := 32 }) (py_Pc E [.ref h] L f sz) (py_Qv E L f sz (fun L1 f1 => ∃ (xs : List Value) (va : Nat) (xv : List Value), py_at L1 f1 h (.inr (2, xs)) ∧ xs.length = 12 ∧ xs[9]? = some (.ref va) ∧ xs[11]? = some (.int 0) ∧ py_at L1 f1 va (.inr (9, xv)) ∧ xv.length = 10 ∧ xv[8]? = some (.int 0) ∧ xv[9]? = some (.int 0) ∧ py_ext L f L1 f1 h)) 18 172 (va_A (va_pl L f) sz) := by
  refine Met.ofW (cc := cX2_init) (maxL := 1) (ret := none) (by decide) rfl ?_
  intro p e s m args below meth c s₁ B hml hv
  obtain ⟨rfl, rfl, hw⟩ := py_start hv
  have G : CallFix p m c cX2_init 1 s _ w_X2_init RX2 := ⟨B.exec, B.bytes, hml, findClass_of_methodNamed B.named, atoms_spec (ws := w_X2_init) B.pre⟩
  have hr := B.returns
  have hlk := B.notSynchronized
  have hin : meth.name = "<init>" := (name_of_methodNamed B.named B.method).1
  have hl := lv_entry ([.ref h]) (n := 1) (Nat.le_of_ble_eq_true rfl)
  rw [lg_entry_eq]
  generalize (lg_sl ([.ref h]) ++ List.replicate (1 - (lg_sl ([.ref h])).length) Slot.unset).toArray = ls at hl ⊢
  have hl : lv_has ls 1 [(0, .ref h)] := hl
  refine lv_aload_n G.1 G.2.1 dX2_init_0 rfl (lv_at hl 0 rfl) ?_
  refine py_objInit G hl.1 (by decide +kernel) (by decide +kernel) (by decide +kernel) dX2_init_1 (Nat.le_of_ble_eq_true rfl) (Nat.le_of_ble_eq_true rfl) ?_
  refine lv_aload_n G.1 G.2.1 dX2_init_4 rfl (lv_at hl 0 rfl) ?_
  refine lv_bipush (v := 10) G.1 G.2.1 dX2_init_5 (by decide) ?_
  refine py_newI (N := 10) G hw (by decide +kernel) (by decide) (by decide) (Nat.le_of_ble_eq_true rfl) (Nat.le_of_ble_eq_true rfl) (Nat.le_of_ble_eq_true rfl) dX2_init_7 (fun q_1 L_2 f_3 H_4 hq_5 h_6 x_7 hw => ?_)
  have ne_8 : h ≠ q_1 := py_ne_new hh hq_5
  have hh := hh.all x_7
  refine py_putF (C := RX2) (T := TX2) (N := 12) (k := 0) (v := .ref q_1) (fs' := [.ref q_1, .null, .null, .null, .null, .null, .null, .null, .null, .null, .long 0, .int 0]) (ty0 := tyX2) G hin hw tyX2_ok nmX2 in_X2_init_X2 rfl hh (by decide) (by decide +kernel) rfl rfl rfl rfl rfl (Nat.le_of_ble_eq_true rfl) rfl dX2_init_9 (fun f_9 H_10 locs h_11 x_12 hw => ?_)
  refine lv_aload_n G.1 G.2.1 dX2_init_12 rfl (lv_at hl 0 rfl) ?_
  refine lv_bipush (v := 10) G.1 G.2.1 dX2_init_13 (by decide) ?_
  refine py_newI (N := 10) G hw (by decide +kernel) (by decide) (by decide) (Nat.le_of_ble_eq_true rfl) (Nat.le_of_ble_eq_true rfl) (Nat.le_of_ble_eq_true rfl) dX2_init_15 (fun q_13 L_14 f_15 H_16 hq_17 h_18 x_19 hw => ?_)
  have ne_20 : h ≠ q_13 := py_ne_new h_11 hq_17
  have h_11 := h_11.all x_19
  refine py_putF (C := RX2) (T := TX2) (N := 12) (k := 1) (v := .ref q_13) (fs' := [.ref q_1, .ref q_13, .null, .null, .null, .null, .null, .null, .null, .null, .long 0, .int 0]) (ty0 := tyX2) G hin hw tyX2_ok nmX2 in_X2_init_X2 rfl h_11 (by decide) (by decide +kernel) rfl rfl rfl rfl rfl (Nat.le_of_ble_eq_true rfl) rfl dX2_init_17 (fun f_21 H_22 locs h_23 x_24 hw => ?_)
  refine lv_aload_n G.1 G.2.1 dX2_init_20 rfl (lv_at hl 0 rfl) ?_
  refine lv_bipush (v := 10) G.1 G.2.1 dX2_init_21 (by decide) ?_
  refine py_newI (N := 10) G hw (by decide +kernel) (by decide) (by decide) (Nat.le_of_ble_eq_true rfl) (Nat.le_of_ble_eq_true rfl) (Nat.le_of_ble_eq_true rfl) dX2_init_23 (fun q_25 L_26 f_27 H_28 hq_29 h_30 x_31 hw => ?_)
  have ne_32 : h ≠ q_25 := py_ne_new h_23 hq_29
  have h_23 := h_23.all x_31
  refine py_putF (C := RX2) (T := TX2) (N := 12) (k := 2) (v := .ref q_25) (fs' := [.ref q_1, .ref q_13, .ref q_25, .null, .null, .null, .null, .null, .null, .null, .long 0, .int 0]) (ty0 := tyX2) G hin hw tyX2_ok nmX2 in_X2_init_X2 rfl h_23 (by decide) (by decide +kernel) rfl rfl rfl rfl rfl (Nat.le_of_ble_eq_true rfl) rfl dX2_init_25 (fun f_33 H_34 locs h_35 x_36 hw => ?_)
  refine lv_aload_n G.1 G.2.1 dX2_init_28 rfl (lv_at hl 0 rfl) ?_
  refine lv_bipush (v := 10) G.1 G.2.1 dX2_init_29 (by decide) ?_
  refine py_newI (N := 10) G hw (by decide +kernel) (by decide) (by decide) (Nat.le_of_ble_eq_true rfl) (Nat.le_of_ble_eq_true rfl) (Nat.le_of_ble_eq_true rfl) dX2_init_31 (fun q_37 L_38 f_39 H_40 hq_41 h_42 x_43 hw => ?_)
  have ne_44 : h ≠ q_37 := py_ne_new h_35 hq_41
  have h_35 := h_35.all x_43
  refine py_putF (C := RX2) (T := TX2) (N := 12) (k := 3) (v := .ref q_37) (fs' := [.ref q_1, .ref q_13, .ref q_25, .ref q_37, .null, .null, .null, .null, .null, .null, .long 0, .int 0]) (ty0 := tyX2) G hin hw tyX2_ok nmX2 in_X2_init_X2 rfl h_35 (by decide) (by decide +kernel) rfl rfl rfl rfl rfl (Nat.le_of_ble_eq_true rfl) rfl dX2_init_33 (fun f_45 H_46 locs h_47 x_48 hw => ?_)
  refine lv_aload_n G.1 G.2.1 dX2_init_36 rfl (lv_at hl 0 rfl) ?_
  refine lv_bipush (v := 10) G.1 G.2.1 dX2_init_37 (by decide) ?_
  refine py_newI (N := 10) G hw (by decide +kernel) (by decide) (by decide) (Nat.le_of_ble_eq_true rfl) (Nat.le_of_ble_eq_true rfl) (Nat.le_of_ble_eq_true rfl) dX2_init_39 (fun q_49 L_50 f_51 H_52 hq_53 h_54 x_55 hw => ?_)
  have ne_56 : h ≠ q_49 := py_ne_new h_47 hq_53
  have h_47 := h_47.all x_55
  refine py_putF (C := RX2) (T := TX2) (N := 12) (k := 4) (v := .ref q_49) (fs' := [.ref q_1, .ref q_13, .ref q_25, .ref q_37, .ref q_49, .null, .null, .null, .null, .null, .long 0, .int 0]) (ty0 := tyX2) G hin hw tyX2_ok nmX2 in_X2_init_X2 rfl h_47 (by decide) (by decide +kernel) rfl rfl rfl rfl rfl (Nat.le_of_ble_eq_true rfl) rfl dX2_init_41 (fun f_57 H_58 locs h_59 x_60 hw => ?_)
  refine lv_aload_n G.1 G.2.1 dX2_init_44 rfl (lv_at hl 0 rfl) ?_
  refine lv_bipush (v := 10) G.1 G.2.1 dX2_init_45 (by decide) ?_
  refine py_newI (N := 10) G hw (by decide +kernel) (by decide) (by decide) (Nat.le_of_ble_eq_true rfl) (Nat.le_of_ble_eq_true rfl) (Nat.le_of_ble_eq_true rfl) dX2_init_47 (fun q_61 L_62 f_63 H_64 hq_65 h_66 x_67 hw => ?_)
  have ne_68 : h ≠ q_61 := py_ne_new h_59 hq_65
  have h_59 := h_59.all x_67
  refine py_putF (C := RX2) (T := TX2) (N := 12) (k := 5) (v := .ref q_61) (fs' := [.ref q_1, .ref q_13, .ref q_25, .ref q_37, .ref q_49, .ref q_61, .null, .null, .null, .null, .long 0, .int 0]) (ty0 := tyX2) G hin hw tyX2_ok nmX2 in_X2_init_X2 rfl h_59 (by decide) (by decide +kernel) rfl rfl rfl rfl rfl (Nat.le_of_ble_eq_true rfl) rfl dX2_init_49 (fun f_69 H_70 locs h_71 x_72 hw => ?_)
  refine lv_aload_n G.1 G.2.1 dX2_init_52 rfl (lv_at hl 0 rfl) ?_
  refine lv_bipush (v := 10) G.1 G.2.1 dX2_init_53 (by decide) ?_
  refine py_newI (N := 10) G hw (by decide +kernel) (by decide) (by decide) (Nat.le_of_ble_eq_true rfl) (Nat.le_of_ble_eq_true rfl) (Nat.le_of_ble_eq_true rfl) dX2_init_55 (fun q_73 L_74 f_75 H_76 hq_77 h_78 x_79 hw => ?_)
  have ne_80 : h ≠ q_73 := py_ne_new h_71 hq_77
  have h_71 := h_71.all x_79
  refine py_putF (C := RX2) (T := TX2) (N := 12) (k := 6) (v := .ref q_73) (fs' := [.ref q_1, .ref q_13, .ref q_25, .ref q_37, .ref q_49, .ref q_61, .ref q_73, .null, .null, .null, .long 0, .int 0]) (ty0 := tyX2) G hin hw tyX2_ok nmX2 in_X2_init_X2 rfl h_71 (by decide) (by decide +kernel) rfl rfl rfl rfl rfl (Nat.le_of_ble_eq_true rfl) rfl dX2_init_57 (fun f_81 H_82 locs h_83 x_84 hw => ?_)
  refine lv_aload_n G.1 G.2.1 dX2_init_60 rfl (lv_at hl 0 rfl) ?_
  refine lv_bipush (v := 10) G.1 G.2.1 dX2_init_61 (by decide) ?_
  refine py_newI (N := 10) G hw (by decide +kernel) (by decide) (by decide) (Nat.le_of_ble_eq_true rfl) (Nat.le_of_ble_eq_true rfl) (Nat.le_of_ble_eq_true rfl) dX2_init_63 (fun q_85 L_86 f_87 H_88 hq_89 h_90 x_91 hw => ?_)
  have ne_92 : h ≠ q_85 := py_ne_new h_83 hq_89
  have h_83 := h_83.all x_91
  refine py_putF (C := RX2) (T := TX2) (N := 12) (k := 7) (v := .ref q_85) (fs' := [.ref q_1, .ref q_13, .ref q_25, .ref q_37, .ref q_49, .ref q_61, .ref q_73, .ref q_85, .null, .null, .long 0, .int 0]) (ty0 := tyX2) G hin hw tyX2_ok nmX2 in_X2_init_X2 rfl h_83 (by decide) (by decide +kernel) rfl rfl rfl rfl rfl (Nat.le_of_ble_eq_true rfl) rfl dX2_init_65 (fun f_93 H_94 locs h_95 x_96 hw => ?_)
  refine lv_aload_n G.1 G.2.1 dX2_init_68 rfl (lv_at hl 0 rfl) ?_
  refine lv_bipush (v := 10) G.1 G.2.1 dX2_init_69 (by decide) ?_
  refine py_newZ (N := 10) G hw (by decide +kernel) (by decide) (by decide) (Nat.le_of_ble_eq_true rfl) (Nat.le_of_ble_eq_true rfl) (Nat.le_of_ble_eq_true rfl) dX2_init_71 (fun q_97 L_98 f_99 H_100 hq_101 h_102 x_103 hw => ?_)
  have ne_104 : h ≠ q_97 := py_ne_new h_95 hq_101
  have h_95 := h_95.all x_103
  refine py_putF (C := RX2) (T := TX2) (N := 12) (k := 8) (v := .ref q_97) (fs' := [.ref q_1, .ref q_13, .ref q_25, .ref q_37, .ref q_49, .ref q_61, .ref q_73, .ref q_85, .ref q_97, .null, .long 0, .int 0]) (ty0 := tyX2) G hin hw tyX2_ok nmX2 in_X2_init_X2 rfl h_95 (by decide) (by decide +kernel) rfl rfl rfl rfl rfl (Nat.le_of_ble_eq_true rfl) rfl dX2_init_73 (fun f_105 H_106 locs h_107 x_108 hw => ?_)
  refine lv_aload_n G.1 G.2.1 dX2_init_76 rfl (lv_at hl 0 rfl) ?_
  refine py_new (C := RX9) (T := TX9) (N := 10) (ci := 9) (fs := [.null, .null, .null, .null, .null, .null, .null, .null, .int 0, .int 0]) (ty0 := tyX9) G hw tyX9_ok in_X2_init_X9 rfl (by decide +kernel) (by decide +kernel) (by decide +kernel) (fun j hj => match j, hj with | 0, _ => rfl | 1, _ => rfl | 2, _ => rfl | 3, _ => rfl | 4, _ => rfl | 5, _ => rfl | 6, _ => rfl | 7, _ => rfl | 8, _ => rfl | 9, _ => rfl | n + 10, h => absurd h (by omega)) (Nat.le_of_ble_eq_true rfl) (Nat.le_of_ble_eq_true rfl) dX2_init_77 (fun q_109 L_110 f_111 H_112 hq_113 h_114 x_115 hw => ?_)
  have ne_116 : h ≠ q_109 := py_ne_new h_107 hq_113
  have h_107 := h_107.all x_115
  refine lv_dup G.1 G.2.1 dX2_init_80 rfl ?_
  refine py_callv hw (va_runIN (As := []) (rest := [.ref q_109, .ref h]) G (c_X9_init l E L_110 f_111 H_112.size q_109 h_114) ⟨va_cnB 0 G.2.2.2.2 g_X2_init_X9_init_42 rfl rfl rfl (hw.1.2.2 (RX2, 42, yX9_init) (List.mem_of_getElem? (i := 6) rfl)) (G.2.2.2.2 (Cond.initialized RX9) (by decide +kernel)) (by decide +kernel) ⟨(Nat.le_of_ble_eq_true rfl), (Nat.le_of_ble_eq_true rfl)⟩, rfl, G.2.2.2.2 (Cond.instanceMethod yX9_init) (by decide +kernel)⟩ (py_preS hw) rfl rfl hl.1 rfl (lv_room (Nat.le_of_ble_eq_true rfl)) dX2_init_81 ⟨(Nat.le_of_ble_eq_true rfl), (Nat.le_of_ble_eq_true rfl)⟩) (fun L_117 f_118 H_119 locs hp_120 hw => ?_)
  obtain ⟨xs_123, h_124, hl_125, hp_126, hp_127, x_122⟩ := hp_120
  have h_107 := h_107.ext x_122 ne_116
  refine py_put (C := RX2) (T := TX2) (N := 12) (k := 9) (v := .ref q_109) (fs' := [.ref q_1, .ref q_13, .ref q_25, .ref q_37, .ref q_49, .ref q_61, .ref q_73, .ref q_85, .ref q_97, .ref q_109, .long 0, .int 0]) (ty0 := tyX2) G hw tyX2_ok nmX2 in_X2_init_X2 rfl h_107 (by decide) (by decide +kernel) rfl rfl rfl rfl (Nat.le_of_ble_eq_true rfl) rfl dX2_init_84 (fun f_128 H_129 locs h_130 x_131 hw => ?_)
  have h_124 := h_124.ext x_131 (Ne.symm ne_116)
  refine lv_aload_n G.1 G.2.1 dX2_init_87 rfl (lv_at hl 0 rfl) ?_
  refine lv_lconst (v := 0) G.1 G.2.1 dX2_init_88 (by decide) ?_
  refine py_put (C := RX2) (T := TX2) (N := 12) (k := 10) (v := .long 0) (fs' := [.ref q_1, .ref q_13, .ref q_25, .ref q_37, .ref q_49, .ref q_61, .ref q_73, .ref q_85, .ref q_97, .ref q_109, .long 0, .int 0]) (ty0 := tyX2) G hw tyX2_ok nmX2 in_X2_init_X2 rfl h_130 (by decide) (by decide +kernel) rfl rfl rfl rfl (Nat.le_of_ble_eq_true rfl) rfl dX2_init_89 (fun f_132 H_133 locs h_134 x_135 hw => ?_)
  have h_124 := h_124.ext x_135 (Ne.symm ne_116)
  refine lv_aload_n G.1 G.2.1 dX2_init_92 rfl (lv_at hl 0 rfl) ?_
  refine lv_iconst (v := 0) G.1 G.2.1 dX2_init_93 (by decide) ?_
  refine py_put (C := RX2) (T := TX2) (N := 12) (k := 11) (v := .int 0) (fs' := [.ref q_1, .ref q_13, .ref q_25, .ref q_37, .ref q_49, .ref q_61, .ref q_73, .ref q_85, .ref q_97, .ref q_109, .long 0, .int 0]) (ty0 := tyX2) G hw tyX2_ok nmX2 in_X2_init_X2 rfl h_134 (by decide) (by decide +kernel) rfl rfl rfl rfl (Nat.le_of_ble_eq_true rfl) rfl dX2_init_94 (fun f_136 H_137 locs h_138 x_139 hw => ?_)
  have h_124 := h_124.ext x_139 (Ne.symm ne_116)
  refine W.widen (k := 18) (n := 172) (Nat.le_of_ble_eq_true rfl) (Nat.le_of_ble_eq_true rfl) ?_
  have xt_140 : py_ext L f L_117 f_136 h := fun b hb hn => by
    have n1 : b ≠ q_1 := fun h => hq_5 (h ▸ hb)
    obtain ⟨m1, e1⟩ := x_7 b hb
    obtain ⟨m2, e2⟩ := x_12 b m1 hn
    have n3 : b ≠ q_13 := fun h => hq_17 (h ▸ m2)
    obtain ⟨m3, e3⟩ := x_19 b m2
    obtain ⟨m4, e4⟩ := x_24 b m3 hn
    have n5 : b ≠ q_25 := fun h => hq_29 (h ▸ m4)
    obtain ⟨m5, e5⟩ := x_31 b m4
    obtain ⟨m6, e6⟩ := x_36 b m5 hn
    have n7 : b ≠ q_37 := fun h => hq_41 (h ▸ m6)
    obtain ⟨m7, e7⟩ := x_43 b m6
    obtain ⟨m8, e8⟩ := x_48 b m7 hn
    have n9 : b ≠ q_49 := fun h => hq_53 (h ▸ m8)
    obtain ⟨m9, e9⟩ := x_55 b m8
    obtain ⟨m10, e10⟩ := x_60 b m9 hn
    have n11 : b ≠ q_61 := fun h => hq_65 (h ▸ m10)
    obtain ⟨m11, e11⟩ := x_67 b m10
    obtain ⟨m12, e12⟩ := x_72 b m11 hn
    have n13 : b ≠ q_73 := fun h => hq_77 (h ▸ m12)
    obtain ⟨m13, e13⟩ := x_79 b m12
    obtain ⟨m14, e14⟩ := x_84 b m13 hn
    have n15 : b ≠ q_85 := fun h => hq_89 (h ▸ m14)
    obtain ⟨m15, e15⟩ := x_91 b m14
    obtain ⟨m16, e16⟩ := x_96 b m15 hn
    have n17 : b ≠ q_97 := fun h => hq_101 (h ▸ m16)
    obtain ⟨m17, e17⟩ := x_103 b m16
    obtain ⟨m18, e18⟩ := x_108 b m17 hn
    have n19 : b ≠ q_109 := fun h => hq_113 (h ▸ m18)
    obtain ⟨m19, e19⟩ := x_115 b m18
    obtain ⟨m20, e20⟩ := x_122 b m19 n19
    obtain ⟨m21, e21⟩ := x_131 b m20 hn
    obtain ⟨m22, e22⟩ := x_135 b m21 hn
    obtain ⟨m23, e23⟩ := x_139 b m22 hn
    exact ⟨m23, e23.trans (e22.trans (e21.trans (e20.trans (e19.trans (e18.trans (e17.trans (e16.trans (e15.trans (e14.trans (e13.trans (e12.trans (e11.trans (e10.trans (e9.trans (e8.trans (e7.trans (e6.trans (e5.trans (e4.trans (e3.trans (e2.trans (e1.trans (rfl)))))))))))))))))))))))⟩
  exact py_vret G hr hlk hw ⟨_, q_109, _, h_138, rfl, rfl, rfl, h_124, hl_125, hp_126, hp_127, xt_140⟩ dX2_init_97

def w_X1_init : List Cond := .code yX1_init cX1_init 1 none :: ([Cond.methodLink RX1 5 objectInit, Cond.instanceMethod objectInit, Cond.code objectInit ⟨#[0xb1]⟩ 1 none, Cond.arrayClass .int, Cond.fieldLink RX1 13 "HeadYear$Diary" "level" "[I", Cond.fieldLink RX1 17 "HeadYear$Diary" "heads" "[I", Cond.fieldLink RX1 20 "HeadYear$Diary" "years" "I"] ++ (u_ws RX1 TX1 3 ++ ([])))
theorem in_X1_init_X1 : ∀ w ∈ u_ws RX1 TX1 3, w ∈ w_X1_init := fun _ h => List.mem_cons_of_mem _ (List.mem_append_right _ (List.mem_append_left _ h))
set_option maxHeartbeats 4000000 in
set_option maxRecDepth 100000 in
theorem c_X1_init (l : Launch) (E : py_E) (L : List Nat) (f : py_F) (sz : Nat) (h : Nat) (hh : py_at L f h (.inr (1, [.null, .null, .int 0]))) : Met l yX1_init w_X1_init ({ frames := 1, cells := 2, slots := 1200, locals := 12 }) (py_Pc E [.ref h] L f sz) (py_Qv E L f sz (fun L1 f1 => ∃ xs : List Value, py_at L1 f1 h (.inr (1, xs)) ∧ xs.length = 3 ∧ xs[2]? = some (.int 0) ∧ py_ext L f L1 f1 h)) 2 1200 (va_A (va_pl L f) sz) := by
  refine Met.ofW (cc := cX1_init) (maxL := 1) (ret := none) (by decide) rfl ?_
  intro p e s m args below meth c s₁ B hml hv
  obtain ⟨rfl, rfl, hw⟩ := py_start hv
  have G : CallFix p m c cX1_init 1 s _ w_X1_init RX1 := ⟨B.exec, B.bytes, hml, findClass_of_methodNamed B.named, atoms_spec (ws := w_X1_init) B.pre⟩
  have hr := B.returns
  have hlk := B.notSynchronized
  have hin : meth.name = "<init>" := (name_of_methodNamed B.named B.method).1
  have hl := lv_entry ([.ref h]) (n := 1) (Nat.le_of_ble_eq_true rfl)
  rw [lg_entry_eq]
  generalize (lg_sl ([.ref h]) ++ List.replicate (1 - (lg_sl ([.ref h])).length) Slot.unset).toArray = ls at hl ⊢
  have hl : lv_has ls 1 [(0, .ref h)] := hl
  refine lv_aload_n G.1 G.2.1 dX1_init_0 rfl (lv_at hl 0 rfl) ?_
  refine py_objInit G hl.1 (by decide +kernel) (by decide +kernel) (by decide +kernel) dX1_init_1 (Nat.le_of_ble_eq_true rfl) (Nat.le_of_ble_eq_true rfl) ?_
  refine lv_aload_n G.1 G.2.1 dX1_init_4 rfl (lv_at hl 0 rfl) ?_
  refine lv_sipush (v := 600) G.1 G.2.1 dX1_init_5 (by decide) ?_
  refine py_newI (N := 600) G hw (by decide +kernel) (by decide) (by decide) (Nat.le_of_ble_eq_true rfl) (Nat.le_of_ble_eq_true rfl) (Nat.le_of_ble_eq_true rfl) dX1_init_8 (fun q_1 L_2 f_3 H_4 hq_5 h_6 x_7 hw => ?_)
  have ne_8 : h ≠ q_1 := py_ne_new hh hq_5
  have hh := hh.all x_7
  refine py_putF (C := RX1) (T := TX1) (N := 3) (k := 0) (v := .ref q_1) (fs' := [.ref q_1, .null, .int 0]) (ty0 := tyX1) G hin hw tyX1_ok nmX1 in_X1_init_X1 rfl hh (by decide) (by decide +kernel) rfl rfl rfl rfl rfl (Nat.le_of_ble_eq_true rfl) rfl dX1_init_10 (fun f_9 H_10 locs h_11 x_12 hw => ?_)
  refine lv_aload_n G.1 G.2.1 dX1_init_13 rfl (lv_at hl 0 rfl) ?_
  refine lv_sipush (v := 600) G.1 G.2.1 dX1_init_14 (by decide) ?_
  refine py_newI (N := 600) G hw (by decide +kernel) (by decide) (by decide) (Nat.le_of_ble_eq_true rfl) (Nat.le_of_ble_eq_true rfl) (Nat.le_of_ble_eq_true rfl) dX1_init_17 (fun q_13 L_14 f_15 H_16 hq_17 h_18 x_19 hw => ?_)
  have ne_20 : h ≠ q_13 := py_ne_new h_11 hq_17
  have h_11 := h_11.all x_19
  refine py_putF (C := RX1) (T := TX1) (N := 3) (k := 1) (v := .ref q_13) (fs' := [.ref q_1, .ref q_13, .int 0]) (ty0 := tyX1) G hin hw tyX1_ok nmX1 in_X1_init_X1 rfl h_11 (by decide) (by decide +kernel) rfl rfl rfl rfl rfl (Nat.le_of_ble_eq_true rfl) rfl dX1_init_19 (fun f_21 H_22 locs h_23 x_24 hw => ?_)
  refine lv_aload_n G.1 G.2.1 dX1_init_22 rfl (lv_at hl 0 rfl) ?_
  refine lv_iconst (v := 0) G.1 G.2.1 dX1_init_23 (by decide) ?_
  refine py_put (C := RX1) (T := TX1) (N := 3) (k := 2) (v := .int 0) (fs' := [.ref q_1, .ref q_13, .int 0]) (ty0 := tyX1) G hw tyX1_ok nmX1 in_X1_init_X1 rfl h_23 (by decide) (by decide +kernel) rfl rfl rfl rfl (Nat.le_of_ble_eq_true rfl) rfl dX1_init_24 (fun f_25 H_26 locs h_27 x_28 hw => ?_)
  refine W.widen (k := 2) (n := 1200) (Nat.le_of_ble_eq_true rfl) (Nat.le_of_ble_eq_true rfl) ?_
  have xt_29 : py_ext L f L_14 f_25 h := fun b hb hn => by
    have n1 : b ≠ q_1 := fun h => hq_5 (h ▸ hb)
    obtain ⟨m1, e1⟩ := x_7 b hb
    obtain ⟨m2, e2⟩ := x_12 b m1 hn
    have n3 : b ≠ q_13 := fun h => hq_17 (h ▸ m2)
    obtain ⟨m3, e3⟩ := x_19 b m2
    obtain ⟨m4, e4⟩ := x_24 b m3 hn
    obtain ⟨m5, e5⟩ := x_28 b m4 hn
    exact ⟨m5, e5.trans (e4.trans (e3.trans (e2.trans (e1.trans (rfl)))))⟩
  exact py_vret G hr hlk hw ⟨_, h_27, rfl, rfl, xt_29⟩ dX1_init_27

def w_X0_init : List Cond := .code yX0_init cX0_init 1 none :: ([Cond.methodLink RX0 1 objectInit, Cond.instanceMethod objectInit, Cond.code objectInit ⟨#[0xb1]⟩ 1 none, Cond.arrayClass .int, Cond.fieldLink RX0 9 "HeadYear$Buyings" "family" "[I", Cond.fieldLink RX0 13 "HeadYear$Buyings" "levels" "[I", Cond.fieldLink RX0 16 "HeadYear$Buyings" "cost" "[I", Cond.fieldLink RX0 19 "HeadYear$Buyings" "count" "I", Cond.fieldLink RX0 23 "HeadYear$Buyings" "price" "I"] ++ (u_ws RX0 TX0 5 ++ ([])))
theorem in_X0_init_X0 : ∀ w ∈ u_ws RX0 TX0 5, w ∈ w_X0_init := fun _ h => List.mem_cons_of_mem _ (List.mem_append_right _ (List.mem_append_left _ h))
set_option maxHeartbeats 4000000 in
set_option maxRecDepth 100000 in
theorem c_X0_init (l : Launch) (E : py_E) (L : List Nat) (f : py_F) (sz : Nat) (h : Nat) (hh : py_at L f h (.inr (0, [.null, .null, .null, .int 0, .int 0]))) : Met l yX0_init w_X0_init ({ frames := 1, cells := 3, slots := 120, locals := 12 }) (py_Pc E [.ref h] L f sz) (py_Qv E L f sz (fun L1 f1 => ∃ xs : List Value, py_at L1 f1 h (.inr (0, xs)) ∧ xs.length = 5 ∧ xs[3]? = some (.int 0) ∧ py_ext L f L1 f1 h)) 3 120 (va_A (va_pl L f) sz) := by
  refine Met.ofW (cc := cX0_init) (maxL := 1) (ret := none) (by decide) rfl ?_
  intro p e s m args below meth c s₁ B hml hv
  obtain ⟨rfl, rfl, hw⟩ := py_start hv
  have G : CallFix p m c cX0_init 1 s _ w_X0_init RX0 := ⟨B.exec, B.bytes, hml, findClass_of_methodNamed B.named, atoms_spec (ws := w_X0_init) B.pre⟩
  have hr := B.returns
  have hlk := B.notSynchronized
  have hin : meth.name = "<init>" := (name_of_methodNamed B.named B.method).1
  have hl := lv_entry ([.ref h]) (n := 1) (Nat.le_of_ble_eq_true rfl)
  rw [lg_entry_eq]
  generalize (lg_sl ([.ref h]) ++ List.replicate (1 - (lg_sl ([.ref h])).length) Slot.unset).toArray = ls at hl ⊢
  have hl : lv_has ls 1 [(0, .ref h)] := hl
  refine lv_aload_n G.1 G.2.1 dX0_init_0 rfl (lv_at hl 0 rfl) ?_
  refine py_objInit G hl.1 (by decide +kernel) (by decide +kernel) (by decide +kernel) dX0_init_1 (Nat.le_of_ble_eq_true rfl) (Nat.le_of_ble_eq_true rfl) ?_
  refine lv_aload_n G.1 G.2.1 dX0_init_4 rfl (lv_at hl 0 rfl) ?_
  refine lv_bipush (v := 40) G.1 G.2.1 dX0_init_5 (by decide) ?_
  refine py_newI (N := 40) G hw (by decide +kernel) (by decide) (by decide) (Nat.le_of_ble_eq_true rfl) (Nat.le_of_ble_eq_true rfl) (Nat.le_of_ble_eq_true rfl) dX0_init_7 (fun q_1 L_2 f_3 H_4 hq_5 h_6 x_7 hw => ?_)
  have ne_8 : h ≠ q_1 := py_ne_new hh hq_5
  have hh := hh.all x_7
  refine py_putF (C := RX0) (T := TX0) (N := 5) (k := 0) (v := .ref q_1) (fs' := [.ref q_1, .null, .null, .int 0, .int 0]) (ty0 := tyX0) G hin hw tyX0_ok nmX0 in_X0_init_X0 rfl hh (by decide) (by decide +kernel) rfl rfl rfl rfl rfl (Nat.le_of_ble_eq_true rfl) rfl dX0_init_9 (fun f_9 H_10 locs h_11 x_12 hw => ?_)
  refine lv_aload_n G.1 G.2.1 dX0_init_12 rfl (lv_at hl 0 rfl) ?_
  refine lv_bipush (v := 40) G.1 G.2.1 dX0_init_13 (by decide) ?_
  refine py_newI (N := 40) G hw (by decide +kernel) (by decide) (by decide) (Nat.le_of_ble_eq_true rfl) (Nat.le_of_ble_eq_true rfl) (Nat.le_of_ble_eq_true rfl) dX0_init_15 (fun q_13 L_14 f_15 H_16 hq_17 h_18 x_19 hw => ?_)
  have ne_20 : h ≠ q_13 := py_ne_new h_11 hq_17
  have h_11 := h_11.all x_19
  refine py_putF (C := RX0) (T := TX0) (N := 5) (k := 1) (v := .ref q_13) (fs' := [.ref q_1, .ref q_13, .null, .int 0, .int 0]) (ty0 := tyX0) G hin hw tyX0_ok nmX0 in_X0_init_X0 rfl h_11 (by decide) (by decide +kernel) rfl rfl rfl rfl rfl (Nat.le_of_ble_eq_true rfl) rfl dX0_init_17 (fun f_21 H_22 locs h_23 x_24 hw => ?_)
  refine lv_aload_n G.1 G.2.1 dX0_init_20 rfl (lv_at hl 0 rfl) ?_
  refine lv_bipush (v := 40) G.1 G.2.1 dX0_init_21 (by decide) ?_
  refine py_newI (N := 40) G hw (by decide +kernel) (by decide) (by decide) (Nat.le_of_ble_eq_true rfl) (Nat.le_of_ble_eq_true rfl) (Nat.le_of_ble_eq_true rfl) dX0_init_23 (fun q_25 L_26 f_27 H_28 hq_29 h_30 x_31 hw => ?_)
  have ne_32 : h ≠ q_25 := py_ne_new h_23 hq_29
  have h_23 := h_23.all x_31
  refine py_putF (C := RX0) (T := TX0) (N := 5) (k := 2) (v := .ref q_25) (fs' := [.ref q_1, .ref q_13, .ref q_25, .int 0, .int 0]) (ty0 := tyX0) G hin hw tyX0_ok nmX0 in_X0_init_X0 rfl h_23 (by decide) (by decide +kernel) rfl rfl rfl rfl rfl (Nat.le_of_ble_eq_true rfl) rfl dX0_init_25 (fun f_33 H_34 locs h_35 x_36 hw => ?_)
  refine lv_aload_n G.1 G.2.1 dX0_init_28 rfl (lv_at hl 0 rfl) ?_
  refine lv_iconst (v := 0) G.1 G.2.1 dX0_init_29 (by decide) ?_
  refine py_put (C := RX0) (T := TX0) (N := 5) (k := 3) (v := .int 0) (fs' := [.ref q_1, .ref q_13, .ref q_25, .int 0, .int 0]) (ty0 := tyX0) G hw tyX0_ok nmX0 in_X0_init_X0 rfl h_35 (by decide) (by decide +kernel) rfl rfl rfl rfl (Nat.le_of_ble_eq_true rfl) rfl dX0_init_30 (fun f_37 H_38 locs h_39 x_40 hw => ?_)
  refine lv_aload_n G.1 G.2.1 dX0_init_33 rfl (lv_at hl 0 rfl) ?_
  refine lv_bipush (v := 10) G.1 G.2.1 dX0_init_34 (by decide) ?_
  refine py_put (C := RX0) (T := TX0) (N := 5) (k := 4) (v := .int 10) (fs' := [.ref q_1, .ref q_13, .ref q_25, .int 0, .int 10]) (ty0 := tyX0) G hw tyX0_ok nmX0 in_X0_init_X0 rfl h_39 (by decide) (by decide +kernel) rfl rfl rfl rfl (Nat.le_of_ble_eq_true rfl) rfl dX0_init_36 (fun f_41 H_42 locs h_43 x_44 hw => ?_)
  refine W.widen (k := 3) (n := 120) (Nat.le_of_ble_eq_true rfl) (Nat.le_of_ble_eq_true rfl) ?_
  have xt_45 : py_ext L f L_26 f_41 h := fun b hb hn => by
    have n1 : b ≠ q_1 := fun h => hq_5 (h ▸ hb)
    obtain ⟨m1, e1⟩ := x_7 b hb
    obtain ⟨m2, e2⟩ := x_12 b m1 hn
    have n3 : b ≠ q_13 := fun h => hq_17 (h ▸ m2)
    obtain ⟨m3, e3⟩ := x_19 b m2
    obtain ⟨m4, e4⟩ := x_24 b m3 hn
    have n5 : b ≠ q_25 := fun h => hq_29 (h ▸ m4)
    obtain ⟨m5, e5⟩ := x_31 b m4
    obtain ⟨m6, e6⟩ := x_36 b m5 hn
    obtain ⟨m7, e7⟩ := x_40 b m6 hn
    obtain ⟨m8, e8⟩ := x_44 b m7 hn
    exact ⟨m8, e8.trans (e7.trans (e6.trans (e5.trans (e4.trans (e3.trans (e2.trans (e1.trans (rfl))))))))⟩
  exact py_vret G hr hlk hw ⟨_, h_43, rfl, rfl, xt_45⟩ dX0_init_39

def w_X7_init : List Cond := .code yX7_init cX7_init 1 none :: ([Cond.methodLink RX7 3 objectInit, Cond.instanceMethod objectInit, Cond.code objectInit ⟨#[0xb1]⟩ 1 none, Cond.arrayClass .int, Cond.fieldLink RX7 11 "HeadYear$Seasons" "lacks" "[I", Cond.fieldLink RX7 19 "HeadYear$Seasons" "letters" "[I", Cond.fieldLink RX7 22 "HeadYear$Seasons" "ring" "[I", Cond.fieldLink RX7 25 "HeadYear$Seasons" "find" "I", Cond.fieldLink RX7 29 "HeadYear$Seasons" "luck" "Z"] ++ (u_ws RX7 TX7 5 ++ ([])))
theorem in_X7_init_X7 : ∀ w ∈ u_ws RX7 TX7 5, w ∈ w_X7_init := fun _ h => List.mem_cons_of_mem _ (List.mem_append_right _ (List.mem_append_left _ h))
set_option maxHeartbeats 4000000 in
set_option maxRecDepth 100000 in
theorem c_X7_init (l : Launch) (E : py_E) (L : List Nat) (f : py_F) (sz : Nat) (h : Nat) (hh : py_at L f h (.inr (7, [.null, .null, .null, .int 0, .int 0]))) : Met l yX7_init w_X7_init ({ frames := 1, cells := 3, slots := 24, locals := 12 }) (py_Pc E [.ref h] L f sz) (py_Qv E L f sz (fun L1 f1 => ∃ xs : List Value, py_at L1 f1 h (.inr (7, xs)) ∧ xs.length = 5 ∧ py_ext L f L1 f1 h)) 3 24 (va_A (va_pl L f) sz) := by
  refine Met.ofW (cc := cX7_init) (maxL := 1) (ret := none) (by decide) rfl ?_
  intro p e s m args below meth c s₁ B hml hv
  obtain ⟨rfl, rfl, hw⟩ := py_start hv
  have G : CallFix p m c cX7_init 1 s _ w_X7_init RX7 := ⟨B.exec, B.bytes, hml, findClass_of_methodNamed B.named, atoms_spec (ws := w_X7_init) B.pre⟩
  have hr := B.returns
  have hlk := B.notSynchronized
  have hin : meth.name = "<init>" := (name_of_methodNamed B.named B.method).1
  have hl := lv_entry ([.ref h]) (n := 1) (Nat.le_of_ble_eq_true rfl)
  rw [lg_entry_eq]
  generalize (lg_sl ([.ref h]) ++ List.replicate (1 - (lg_sl ([.ref h])).length) Slot.unset).toArray = ls at hl ⊢
  have hl : lv_has ls 1 [(0, .ref h)] := hl
  refine lv_aload_n G.1 G.2.1 dX7_init_0 rfl (lv_at hl 0 rfl) ?_
  refine py_objInit G hl.1 (by decide +kernel) (by decide +kernel) (by decide +kernel) dX7_init_1 (Nat.le_of_ble_eq_true rfl) (Nat.le_of_ble_eq_true rfl) ?_
  refine lv_aload_n G.1 G.2.1 dX7_init_4 rfl (lv_at hl 0 rfl) ?_
  refine lv_bipush (v := 8) G.1 G.2.1 dX7_init_5 (by decide) ?_
  refine py_newI (N := 8) G hw (by decide +kernel) (by decide) (by decide) (Nat.le_of_ble_eq_true rfl) (Nat.le_of_ble_eq_true rfl) (Nat.le_of_ble_eq_true rfl) dX7_init_7 (fun q_1 L_2 f_3 H_4 hq_5 h_6 x_7 hw => ?_)
  have ne_8 : h ≠ q_1 := py_ne_new hh hq_5
  have hh := hh.all x_7
  refine py_putF (C := RX7) (T := TX7) (N := 5) (k := 0) (v := .ref q_1) (fs' := [.ref q_1, .null, .null, .int 0, .int 0]) (ty0 := tyX7) G hin hw tyX7_ok nmX7 in_X7_init_X7 rfl hh (by decide) (by decide +kernel) rfl rfl rfl rfl rfl (Nat.le_of_ble_eq_true rfl) rfl dX7_init_9 (fun f_9 H_10 locs h_11 x_12 hw => ?_)
  refine lv_aload_n G.1 G.2.1 dX7_init_12 rfl (lv_at hl 0 rfl) ?_
  refine lv_bipush (v := 6) G.1 G.2.1 dX7_init_13 (by decide) ?_
  refine py_newI (N := 6) G hw (by decide +kernel) (by decide) (by decide) (Nat.le_of_ble_eq_true rfl) (Nat.le_of_ble_eq_true rfl) (Nat.le_of_ble_eq_true rfl) dX7_init_15 (fun q_13 L_14 f_15 H_16 hq_17 h_18 x_19 hw => ?_)
  have ne_20 : h ≠ q_13 := py_ne_new h_11 hq_17
  have h_11 := h_11.all x_19
  refine py_putF (C := RX7) (T := TX7) (N := 5) (k := 1) (v := .ref q_13) (fs' := [.ref q_1, .ref q_13, .null, .int 0, .int 0]) (ty0 := tyX7) G hin hw tyX7_ok nmX7 in_X7_init_X7 rfl h_11 (by decide) (by decide +kernel) rfl rfl rfl rfl rfl (Nat.le_of_ble_eq_true rfl) rfl dX7_init_17 (fun f_21 H_22 locs h_23 x_24 hw => ?_)
  refine lv_aload_n G.1 G.2.1 dX7_init_20 rfl (lv_at hl 0 rfl) ?_
  refine lv_bipush (v := 10) G.1 G.2.1 dX7_init_21 (by decide) ?_
  refine py_newI (N := 10) G hw (by decide +kernel) (by decide) (by decide) (Nat.le_of_ble_eq_true rfl) (Nat.le_of_ble_eq_true rfl) (Nat.le_of_ble_eq_true rfl) dX7_init_23 (fun q_25 L_26 f_27 H_28 hq_29 h_30 x_31 hw => ?_)
  have ne_32 : h ≠ q_25 := py_ne_new h_23 hq_29
  have h_23 := h_23.all x_31
  refine py_putF (C := RX7) (T := TX7) (N := 5) (k := 2) (v := .ref q_25) (fs' := [.ref q_1, .ref q_13, .ref q_25, .int 0, .int 0]) (ty0 := tyX7) G hin hw tyX7_ok nmX7 in_X7_init_X7 rfl h_23 (by decide) (by decide +kernel) rfl rfl rfl rfl rfl (Nat.le_of_ble_eq_true rfl) rfl dX7_init_25 (fun f_33 H_34 locs h_35 x_36 hw => ?_)
  refine lv_aload_n G.1 G.2.1 dX7_init_28 rfl (lv_at hl 0 rfl) ?_
  refine lv_bipush (v := 50) G.1 G.2.1 dX7_init_29 (by decide) ?_
  refine py_put (C := RX7) (T := TX7) (N := 5) (k := 3) (v := .int 50) (fs' := [.ref q_1, .ref q_13, .ref q_25, .int 50, .int 0]) (ty0 := tyX7) G hw tyX7_ok nmX7 in_X7_init_X7 rfl h_35 (by decide) (by decide +kernel) rfl rfl rfl rfl (Nat.le_of_ble_eq_true rfl) rfl dX7_init_31 (fun f_37 H_38 locs h_39 x_40 hw => ?_)
  refine lv_aload_n G.1 G.2.1 dX7_init_34 rfl (lv_at hl 0 rfl) ?_
  refine lv_iconst (v := 0) G.1 G.2.1 dX7_init_35 (by decide) ?_
  refine py_put (C := RX7) (T := TX7) (N := 5) (k := 4) (v := .int 0) (fs' := [.ref q_1, .ref q_13, .ref q_25, .int 50, .int 0]) (ty0 := tyX7) G hw tyX7_ok nmX7 in_X7_init_X7 rfl h_39 (by decide) (by decide +kernel) rfl rfl rfl rfl (Nat.le_of_ble_eq_true rfl) rfl dX7_init_36 (fun f_41 H_42 locs h_43 x_44 hw => ?_)
  refine W.widen (k := 3) (n := 24) (Nat.le_of_ble_eq_true rfl) (Nat.le_of_ble_eq_true rfl) ?_
  have xt_45 : py_ext L f L_26 f_41 h := fun b hb hn => by
    have n1 : b ≠ q_1 := fun h => hq_5 (h ▸ hb)
    obtain ⟨m1, e1⟩ := x_7 b hb
    obtain ⟨m2, e2⟩ := x_12 b m1 hn
    have n3 : b ≠ q_13 := fun h => hq_17 (h ▸ m2)
    obtain ⟨m3, e3⟩ := x_19 b m2
    obtain ⟨m4, e4⟩ := x_24 b m3 hn
    have n5 : b ≠ q_25 := fun h => hq_29 (h ▸ m4)
    obtain ⟨m5, e5⟩ := x_31 b m4
    obtain ⟨m6, e6⟩ := x_36 b m5 hn
    obtain ⟨m7, e7⟩ := x_40 b m6 hn
    obtain ⟨m8, e8⟩ := x_44 b m7 hn
    exact ⟨m8, e8.trans (e7.trans (e6.trans (e5.trans (e4.trans (e3.trans (e2.trans (e1.trans (rfl))))))))⟩
  exact py_vret G hr hlk hw ⟨_, h_43, rfl, xt_45⟩ dX7_init_39

def w_X5_init : List Cond := .code yX5_init cX5_init 1 none :: ([Cond.methodLink RX5 3 objectInit, Cond.instanceMethod objectInit, Cond.code objectInit ⟨#[0xb1]⟩ 1 none, Cond.arrayClass .int, Cond.fieldLink RX5 11 "HeadYear$Moves" "there" "[I"] ++ (u_ws RX5 TX5 1 ++ ([])))
theorem in_X5_init_X5 : ∀ w ∈ u_ws RX5 TX5 1, w ∈ w_X5_init := fun _ h => List.mem_cons_of_mem _ (List.mem_append_right _ (List.mem_append_left _ h))
set_option maxHeartbeats 4000000 in
set_option maxRecDepth 100000 in
theorem c_X5_init (l : Launch) (E : py_E) (L : List Nat) (f : py_F) (sz : Nat) (h : Nat) (hh : py_at L f h (.inr (5, [.null]))) : Met l yX5_init w_X5_init ({ frames := 1, cells := 1, slots := 8, locals := 12 }) (py_Pc E [.ref h] L f sz) (py_Qv E L f sz (fun L1 f1 => py_ext L f L1 f1 h)) 1 8 (va_A (va_pl L f) sz) := by
  refine Met.ofW (cc := cX5_init) (maxL := 1) (ret := none) (by decide) rfl ?_
  intro p e s m args below meth c s₁ B hml hv
  obtain ⟨rfl, rfl, hw⟩ := py_start hv
  have G : CallFix p m c cX5_init 1 s _ w_X5_init RX5 := ⟨B.exec, B.bytes, hml, findClass_of_methodNamed B.named, atoms_spec (ws := w_X5_init) B.pre⟩
  have hr := B.returns
  have hlk := B.notSynchronized
  have hin : meth.name = "<init>" := (name_of_methodNamed B.named B.method).1
  have hl := lv_entry ([.ref h]) (n := 1) (Nat.le_of_ble_eq_true rfl)
  rw [lg_entry_eq]
  generalize (lg_sl ([.ref h]) ++ List.replicate (1 - (lg_sl ([.ref h])).length) Slot.unset).toArray = ls at hl ⊢
  have hl : lv_has ls 1 [(0, .ref h)] := hl
  refine lv_aload_n G.1 G.2.1 dX5_init_0 rfl (lv_at hl 0 rfl) ?_
  refine py_objInit G hl.1 (by decide +kernel) (by decide +kernel) (by decide +kernel) dX5_init_1 (Nat.le_of_ble_eq_true rfl) (Nat.le_of_ble_eq_true rfl) ?_
  refine lv_aload_n G.1 G.2.1 dX5_init_4 rfl (lv_at hl 0 rfl) ?_
  refine lv_bipush (v := 8) G.1 G.2.1 dX5_init_5 (by decide) ?_
  refine py_newI (N := 8) G hw (by decide +kernel) (by decide) (by decide) (Nat.le_of_ble_eq_true rfl) (Nat.le_of_ble_eq_true rfl) (Nat.le_of_ble_eq_true rfl) dX5_init_7 (fun q_1 L_2 f_3 H_4 hq_5 h_6 x_7 hw => ?_)
  have ne_8 : h ≠ q_1 := py_ne_new hh hq_5
  have hh := hh.all x_7
  refine py_putF (C := RX5) (T := TX5) (N := 1) (k := 0) (v := .ref q_1) (fs' := [.ref q_1]) (ty0 := tyX5) G hin hw tyX5_ok nmX5 in_X5_init_X5 rfl hh (by decide) (by decide +kernel) rfl rfl rfl rfl rfl (Nat.le_of_ble_eq_true rfl) rfl dX5_init_9 (fun f_9 H_10 locs h_11 x_12 hw => ?_)
  refine W.widen (k := 1) (n := 8) (Nat.le_of_ble_eq_true rfl) (Nat.le_of_ble_eq_true rfl) ?_
  have xt_13 : py_ext L f L_2 f_9 h := fun b hb hn => by
    have n1 : b ≠ q_1 := fun h => hq_5 (h ▸ hb)
    obtain ⟨m1, e1⟩ := x_7 b hb
    obtain ⟨m2, e2⟩ := x_12 b m1 hn
    exact ⟨m2, e2.trans (e1.trans (rfl))⟩
  exact py_vret G hr hlk hw xt_13 dX5_init_12

def w_X6_init : List Cond := .code yX6_init cX6_init 3 none :: ([Cond.methodLink RX6 3 objectInit, Cond.instanceMethod objectInit, Cond.code objectInit ⟨#[0xb1]⟩ 1 none, Cond.arrayClass .int, Cond.fieldLink RX6 11 "HeadYear$Odds" "letters" "[I", Cond.arrayClass .long, Cond.fieldLink RX6 17 "HeadYear$Odds" "dying" "[J", Cond.fieldLink RX6 23 "HeadYear$Odds" "parts" "[J", Cond.fieldLink RX6 26 "HeadYear$Odds" "after" "[J", Cond.fieldLink RX6 29 "HeadYear$Odds" "gone" "J", Cond.fieldLink RX6 33 "HeadYear$Odds" "folk" "LHeadYear$Folk;", Cond.fieldLink RX6 37 "HeadYear$Odds" "law" "LHeadYear$Law;"] ++ (u_ws RX6 TX6 7 ++ ([])))
theorem in_X6_init_X6 : ∀ w ∈ u_ws RX6 TX6 7, w ∈ w_X6_init := fun _ h => List.mem_cons_of_mem _ (List.mem_append_right _ (List.mem_append_left _ h))
set_option maxHeartbeats 4000000 in
set_option maxRecDepth 100000 in
theorem c_X6_init (l : Launch) (E : py_E) (L : List Nat) (f : py_F) (sz : Nat) (h : Nat) (fo : Nat) (nl : Nat) (hh : py_at L f h (.inr (6, [.null, .null, .null, .null, .null, .null, .long 0]))) : Met l yX6_init w_X6_init ({ frames := 1, cells := 4, slots := 364, locals := 12 }) (py_Pc E [.ref h, .ref fo, .ref nl] L f sz) (py_Qv E L f sz (fun L1 f1 => py_ext L f L1 f1 h)) 4 364 (va_A (va_pl L f) sz) := by
  refine Met.ofW (cc := cX6_init) (maxL := 3) (ret := none) (by decide) rfl ?_
  intro p e s m args below meth c s₁ B hml hv
  obtain ⟨rfl, rfl, hw⟩ := py_start hv
  have G : CallFix p m c cX6_init 3 s _ w_X6_init RX6 := ⟨B.exec, B.bytes, hml, findClass_of_methodNamed B.named, atoms_spec (ws := w_X6_init) B.pre⟩
  have hr := B.returns
  have hlk := B.notSynchronized
  have hin : meth.name = "<init>" := (name_of_methodNamed B.named B.method).1
  have hl := lv_entry ([.ref h, .ref fo, .ref nl]) (n := 3) (Nat.le_of_ble_eq_true rfl)
  rw [lg_entry_eq]
  generalize (lg_sl ([.ref h, .ref fo, .ref nl]) ++ List.replicate (3 - (lg_sl ([.ref h, .ref fo, .ref nl])).length) Slot.unset).toArray = ls at hl ⊢
  have hl : lv_has ls 3 [(0, .ref h), (1, .ref fo), (2, .ref nl)] := hl
  refine lv_aload_n G.1 G.2.1 dX6_init_0 rfl (lv_at hl 0 rfl) ?_
  refine py_objInit G hl.1 (by decide +kernel) (by decide +kernel) (by decide +kernel) dX6_init_1 (Nat.le_of_ble_eq_true rfl) (Nat.le_of_ble_eq_true rfl) ?_
  refine lv_aload_n G.1 G.2.1 dX6_init_4 rfl (lv_at hl 0 rfl) ?_
  refine lv_bipush (v := 6) G.1 G.2.1 dX6_init_5 (by decide) ?_
  refine py_newI (N := 6) G hw (by decide +kernel) (by decide) (by decide) (Nat.le_of_ble_eq_true rfl) (Nat.le_of_ble_eq_true rfl) (Nat.le_of_ble_eq_true rfl) dX6_init_7 (fun q_1 L_2 f_3 H_4 hq_5 h_6 x_7 hw => ?_)
  have ne_8 : h ≠ q_1 := py_ne_new hh hq_5
  have hh := hh.all x_7
  refine py_putF (C := RX6) (T := TX6) (N := 7) (k := 0) (v := .ref q_1) (fs' := [.ref q_1, .null, .null, .null, .null, .null, .long 0]) (ty0 := tyX6) G hin hw tyX6_ok nmX6 in_X6_init_X6 rfl hh (by decide) (by decide +kernel) rfl rfl rfl rfl rfl (Nat.le_of_ble_eq_true rfl) rfl dX6_init_9 (fun f_9 H_10 locs h_11 x_12 hw => ?_)
  refine lv_aload_n G.1 G.2.1 dX6_init_12 rfl (lv_at hl 0 rfl) ?_
  refine lv_bipush (v := 22) G.1 G.2.1 dX6_init_13 (by decide) ?_
  refine py_newJ (N := 22) G hw (by decide +kernel) (by decide) (by decide) (Nat.le_of_ble_eq_true rfl) (Nat.le_of_ble_eq_true rfl) (Nat.le_of_ble_eq_true rfl) dX6_init_15 (fun q_13 L_14 f_15 H_16 hq_17 h_18 x_19 hw => ?_)
  have ne_20 : h ≠ q_13 := py_ne_new h_11 hq_17
  have h_11 := h_11.all x_19
  refine py_putF (C := RX6) (T := TX6) (N := 7) (k := 1) (v := .ref q_13) (fs' := [.ref q_1, .ref q_13, .null, .null, .null, .null, .long 0]) (ty0 := tyX6) G hin hw tyX6_ok nmX6 in_X6_init_X6 rfl h_11 (by decide) (by decide +kernel) rfl rfl rfl rfl rfl (Nat.le_of_ble_eq_true rfl) rfl dX6_init_17 (fun f_21 H_22 locs h_23 x_24 hw => ?_)
  refine lv_aload_n G.1 G.2.1 dX6_init_20 rfl (lv_at hl 0 rfl) ?_
  refine lv_sipush (v := 168) G.1 G.2.1 dX6_init_21 (by decide) ?_
  refine py_newJ (N := 168) G hw (by decide +kernel) (by decide) (by decide) (Nat.le_of_ble_eq_true rfl) (Nat.le_of_ble_eq_true rfl) (Nat.le_of_ble_eq_true rfl) dX6_init_24 (fun q_25 L_26 f_27 H_28 hq_29 h_30 x_31 hw => ?_)
  have ne_32 : h ≠ q_25 := py_ne_new h_23 hq_29
  have h_23 := h_23.all x_31
  refine py_put (C := RX6) (T := TX6) (N := 7) (k := 3) (v := .ref q_25) (fs' := [.ref q_1, .ref q_13, .null, .ref q_25, .null, .null, .long 0]) (ty0 := tyX6) G hw tyX6_ok nmX6 in_X6_init_X6 rfl h_23 (by decide) (by decide +kernel) rfl rfl rfl rfl (Nat.le_of_ble_eq_true rfl) rfl dX6_init_26 (fun f_33 H_34 locs h_35 x_36 hw => ?_)
  refine lv_aload_n G.1 G.2.1 dX6_init_29 rfl (lv_at hl 0 rfl) ?_
  refine lv_sipush (v := 168) G.1 G.2.1 dX6_init_30 (by decide) ?_
  refine py_newJ (N := 168) G hw (by decide +kernel) (by decide) (by decide) (Nat.le_of_ble_eq_true rfl) (Nat.le_of_ble_eq_true rfl) (Nat.le_of_ble_eq_true rfl) dX6_init_33 (fun q_37 L_38 f_39 H_40 hq_41 h_42 x_43 hw => ?_)
  have ne_44 : h ≠ q_37 := py_ne_new h_35 hq_41
  have h_35 := h_35.all x_43
  refine py_put (C := RX6) (T := TX6) (N := 7) (k := 4) (v := .ref q_37) (fs' := [.ref q_1, .ref q_13, .null, .ref q_25, .ref q_37, .null, .long 0]) (ty0 := tyX6) G hw tyX6_ok nmX6 in_X6_init_X6 rfl h_35 (by decide) (by decide +kernel) rfl rfl rfl rfl (Nat.le_of_ble_eq_true rfl) rfl dX6_init_35 (fun f_45 H_46 locs h_47 x_48 hw => ?_)
  refine lv_aload_n G.1 G.2.1 dX6_init_38 rfl (lv_at hl 0 rfl) ?_
  refine lv_lconst (v := 0) G.1 G.2.1 dX6_init_39 (by decide) ?_
  refine py_put (C := RX6) (T := TX6) (N := 7) (k := 6) (v := .long 0) (fs' := [.ref q_1, .ref q_13, .null, .ref q_25, .ref q_37, .null, .long 0]) (ty0 := tyX6) G hw tyX6_ok nmX6 in_X6_init_X6 rfl h_47 (by decide) (by decide +kernel) rfl rfl rfl rfl (Nat.le_of_ble_eq_true rfl) rfl dX6_init_40 (fun f_49 H_50 locs h_51 x_52 hw => ?_)
  refine lv_aload_n G.1 G.2.1 dX6_init_43 rfl (lv_at hl 0 rfl) ?_
  refine lv_aload_n G.1 G.2.1 dX6_init_44 rfl (lv_at hl 1 rfl) ?_
  refine py_putF (C := RX6) (T := TX6) (N := 7) (k := 2) (v := .ref fo) (fs' := [.ref q_1, .ref q_13, .ref fo, .ref q_25, .ref q_37, .null, .long 0]) (ty0 := tyX6) G hin hw tyX6_ok nmX6 in_X6_init_X6 rfl h_51 (by decide) (by decide +kernel) rfl rfl rfl rfl rfl (Nat.le_of_ble_eq_true rfl) rfl dX6_init_45 (fun f_53 H_54 locs h_55 x_56 hw => ?_)
  refine lv_aload_n G.1 G.2.1 dX6_init_48 rfl (lv_at hl 0 rfl) ?_
  refine lv_aload_n G.1 G.2.1 dX6_init_49 rfl (lv_at hl 2 rfl) ?_
  refine py_put (C := RX6) (T := TX6) (N := 7) (k := 5) (v := .ref nl) (fs' := [.ref q_1, .ref q_13, .ref fo, .ref q_25, .ref q_37, .ref nl, .long 0]) (ty0 := tyX6) G hw tyX6_ok nmX6 in_X6_init_X6 rfl h_55 (by decide) (by decide +kernel) rfl rfl rfl rfl (Nat.le_of_ble_eq_true rfl) rfl dX6_init_50 (fun f_57 H_58 locs h_59 x_60 hw => ?_)
  refine W.widen (k := 4) (n := 364) (Nat.le_of_ble_eq_true rfl) (Nat.le_of_ble_eq_true rfl) ?_
  have xt_61 : py_ext L f L_38 f_57 h := fun b hb hn => by
    have n1 : b ≠ q_1 := fun h => hq_5 (h ▸ hb)
    obtain ⟨m1, e1⟩ := x_7 b hb
    obtain ⟨m2, e2⟩ := x_12 b m1 hn
    have n3 : b ≠ q_13 := fun h => hq_17 (h ▸ m2)
    obtain ⟨m3, e3⟩ := x_19 b m2
    obtain ⟨m4, e4⟩ := x_24 b m3 hn
    have n5 : b ≠ q_25 := fun h => hq_29 (h ▸ m4)
    obtain ⟨m5, e5⟩ := x_31 b m4
    obtain ⟨m6, e6⟩ := x_36 b m5 hn
    have n7 : b ≠ q_37 := fun h => hq_41 (h ▸ m6)
    obtain ⟨m7, e7⟩ := x_43 b m6
    obtain ⟨m8, e8⟩ := x_48 b m7 hn
    obtain ⟨m9, e9⟩ := x_52 b m8 hn
    obtain ⟨m10, e10⟩ := x_56 b m9 hn
    obtain ⟨m11, e11⟩ := x_60 b m10 hn
    exact ⟨m11, e11.trans (e10.trans (e9.trans (e8.trans (e7.trans (e6.trans (e5.trans (e4.trans (e3.trans (e2.trans (e1.trans (rfl)))))))))))⟩
  exact py_vret G hr hlk hw xt_61 dX6_init_53

def w_X3_add : List Cond := .code yX3_add cX3_add 3 none :: ([Cond.fieldLink RX3 18 "HeadYear$Law" "length" "I", Cond.fieldLink RX3 9 "HeadYear$Law" "code" "[I"] ++ (u_ws RX3 TX3 3 ++ ([])))
theorem in_X3_add_X3 : ∀ w ∈ u_ws RX3 TX3 3, w ∈ w_X3_add := fun _ h => List.mem_cons_of_mem _ (List.mem_append_right _ (List.mem_append_left _ h))
set_option maxHeartbeats 4000000 in
set_option maxRecDepth 100000 in
theorem c_X3_add (l : Launch) (E : py_E) (L : List Nat) (f : py_F) (sz : Nat) (h : Nat) (sg vl : Int32) (co st : Nat) (n n1 : Int32) (g : Nat → Int32) (hh : py_at L f h (.inr (3, [.ref co, .ref st, .int n]))) (hc : py_at L f co (.inl (E.2.1, 160, .inl g))) (hn : n < 160) (hin : vp_in n 160) (hn1 : n + 1 = n1) : Met l yX3_add w_X3_add ({ frames := 0, cells := 0, slots := 0, locals := 0 }) (py_Pc E [.ref h, .int sg, .int vl] L f sz) (py_Qv E L f sz (fun L1 f1 => ∃ g1 : Nat → Int32, py_at L1 f1 h (.inr (3, [.ref co, .ref st, .int n1])) ∧ py_at L1 f1 co (.inl (E.2.1, 160, .inl g1)) ∧ py_ext2 L f L1 f1 h co)) 0 0 (va_A (va_pl L f) sz) := by
  refine Met.ofW (cc := cX3_add) (maxL := 3) (ret := none) (by decide) rfl ?_
  intro p e s m args below meth c s₁ B hml hv
  obtain ⟨rfl, rfl, hw⟩ := py_start hv
  have G : CallFix p m c cX3_add 3 s _ w_X3_add RX3 := ⟨B.exec, B.bytes, hml, findClass_of_methodNamed B.named, atoms_spec (ws := w_X3_add) B.pre⟩
  have hr := B.returns
  have hlk := B.notSynchronized
  have hl := lv_entry ([.ref h, .int sg, .int vl]) (n := 3) (Nat.le_of_ble_eq_true rfl)
  rw [lg_entry_eq]
  generalize (lg_sl ([.ref h, .int sg, .int vl]) ++ List.replicate (3 - (lg_sl ([.ref h, .int sg, .int vl])).length) Slot.unset).toArray = ls at hl ⊢
  have hl : lv_has ls 3 [(0, .ref h), (1, .int sg), (2, .int vl)] := hl
  refine lv_aload_n G.1 G.2.1 dX3_add_0 rfl (lv_at hl 0 rfl) ?_
  refine py_get (C := RX3) (T := TX3) (N := 3) (k := 2) (v := .int n) G hw in_X3_add_X3 rfl hh (by decide) (by decide +kernel) rfl dX3_add_1 ?_
  refine lv_aload_n G.1 G.2.1 dX3_add_4 rfl (lv_at hl 0 rfl) ?_
  refine py_get (C := RX3) (T := TX3) (N := 3) (k := 0) (v := .ref co) G hw in_X3_add_X3 rfl hh (by decide) (by decide +kernel) rfl dX3_add_5 ?_
  refine py_alen (v := 160) G hw hc rfl dX3_add_8 ?_
  refine lv_icmp_ge (tgt := 37) G.1 G.2.1 dX3_add_9 (by decide) (fun c_1 => ?_) (fun c_1 => ?_)
  · skip
    exact absurd c_1 (Int32.not_le.mpr hn)
  · skip
    refine lv_aload_n G.1 G.2.1 dX3_add_12 rfl (lv_at hl 0 rfl) ?_
    refine py_get (C := RX3) (T := TX3) (N := 3) (k := 0) (v := .ref co) G hw in_X3_add_X3 rfl hh (by decide) (by decide +kernel) rfl dX3_add_13 ?_
    refine lv_aload_n G.1 G.2.1 dX3_add_16 rfl (lv_at hl 0 rfl) ?_
    refine py_get (C := RX3) (T := TX3) (N := 3) (k := 2) (v := .int n) G hw in_X3_add_X3 rfl hh (by decide) (by decide +kernel) rfl dX3_add_17 ?_
    refine lv_iload_n G.1 G.2.1 dX3_add_20 rfl (lv_at hl 1 rfl) ?_
    refine lv_bipush (v := 16) G.1 G.2.1 dX3_add_21 (by decide) ?_
    refine lv_ishl G.1 G.2.1 dX3_add_23 ?_
    refine lv_topi (fun x_2 ex_2 => ?_)
    refine lv_iload_n G.1 G.2.1 dX3_add_24 rfl (lv_at hl 2 rfl) ?_
    refine lv_ior G.1 G.2.1 dX3_add_25 ?_
    refine lv_topi (fun x_3 ex_3 => ?_)
    refine py_iast G hw hc hin dX3_add_26 (fun f_4 H_5 locs h_6 x_7 hw => ?_)
    generalize upd g _ _ = g_8 at h_6
    have hh := hh.ext x_7 (py_ne_arr hh hc)
    refine lv_aload_n G.1 G.2.1 dX3_add_27 rfl (lv_at hl 0 rfl) ?_
    refine lv_dup G.1 G.2.1 dX3_add_28 rfl ?_
    refine py_get (C := RX3) (T := TX3) (N := 3) (k := 2) (v := .int n) G hw in_X3_add_X3 rfl hh (by decide) (by decide +kernel) rfl dX3_add_29 ?_
    refine lv_iconst (v := 1) G.1 G.2.1 dX3_add_32 (by decide) ?_
    refine lv_iadd G.1 G.2.1 dX3_add_33 ?_
    refine lv_topi (fun x_9 ex_9 => ?_)
    refine py_put (C := RX3) (T := TX3) (N := 3) (k := 2) (v := .int x_9) (fs' := [.ref co, .ref st, .int x_9]) (ty0 := tyX3) G hw tyX3_ok nmX3 in_X3_add_X3 rfl hh (by decide) (by decide +kernel) rfl rfl rfl rfl (Nat.le_of_ble_eq_true rfl) rfl dX3_add_34 (fun f_10 H_11 locs h_12 x_13 hw => ?_)
    have h_6 := h_6.ext x_13 (Ne.symm (py_ne_arr hh h_6))
    have xt : py_ext2 L f L f_10 h co := fun b hb h1 h2 => by
      obtain ⟨m0, e0⟩ := x_7 b hb h2
      obtain ⟨m1, e1⟩ := x_13 b m0 h1
      exact ⟨m1, e1.trans (e0.trans (rfl))⟩
    have hz := h_12
    rw [ex_9, hn1] at hz
    exact py_vret G hr hlk hw ⟨_, hz, h_6, xt⟩ dX3_add_37

def w_X3_bornLessDead : List Cond := .code yX3_bornLessDead cX3_bornLessDead 1 (some (.object "HeadYear$Law")) :: ([Cond.classLink RX3 10 RX3, Cond.instantiable RX3 3, Cond.initialized RX3, Cond.methodLink RX3 22 yX3_init, Cond.instanceMethod yX3_init, Cond.methodLink RX3 23 yX3_add, Cond.instanceMethod yX3_add, Cond.selects RX3 yX3_add yX3_add] ++ (u_ws RX3 TX3 3 ++ (w_X3_init ++ (w_X3_add ++ ([])))))
theorem in_X3_bornLessDead_X3 : ∀ w ∈ u_ws RX3 TX3 3, w ∈ w_X3_bornLessDead := fun _ h => List.mem_cons_of_mem _ (List.mem_append_right _ (List.mem_append_left _ h))
theorem gg_X3_bornLessDead_X3_init : GoodIn w_X3_bornLessDead w_X3_init := goodIn_sub (fun _ h => List.mem_cons_of_mem _ (List.mem_append_right _ (List.mem_append_right _ (List.mem_append_left _ h)))) (by decide +kernel)
theorem gg_X3_bornLessDead_X3_add : GoodIn w_X3_bornLessDead w_X3_add := goodIn_sub (fun _ h => List.mem_cons_of_mem _ (List.mem_append_right _ (List.mem_append_right _ (List.mem_append_right _ (List.mem_append_left _ h))))) (by decide +kernel)
theorem g_X3_bornLessDead_X3_add_23 : GoodIn w_X3_bornLessDead (wsV RX3 23 RX3 yX3_add w_X3_add) := goodIn_app (goodIn_of _ (by decide +kernel)) gg_X3_bornLessDead_X3_add
theorem g_X3_bornLessDead_X3_init_22 : GoodIn w_X3_bornLessDead w_X3_init := gg_X3_bornLessDead_X3_init
set_option maxHeartbeats 4000000 in
set_option maxRecDepth 100000 in
theorem c_X3_bornLessDead (l : Launch) (E : py_E) (L : List Nat) (f : py_F) (sz : Nat)  : Met l yX3_bornLessDead w_X3_bornLessDead ({ frames := 2, cells := 3, slots := 195, locals := 32 }) (py_Pc E [] L f sz) (py_Qr E L f sz (fun r L1 f1 => py_all L f L1 f1)) 3 195 (va_A (va_pl L f) sz) := by
  refine Met.ofW (cc := cX3_bornLessDead) (maxL := 1) (ret := (some (.object "HeadYear$Law"))) (by decide) rfl ?_
  intro p e s m args below meth c s₁ B hml hv
  obtain ⟨rfl, rfl, hw⟩ := py_start hv
  have G : CallFix p m c cX3_bornLessDead 1 s _ w_X3_bornLessDead RX3 := ⟨B.exec, B.bytes, hml, findClass_of_methodNamed B.named, atoms_spec (ws := w_X3_bornLessDead) B.pre⟩
  have hr := B.returns
  have hlk := B.notSynchronized
  have hl := lv_entry ([]) (n := 1) (Nat.le_of_ble_eq_true rfl)
  rw [lg_entry_eq]
  generalize (lg_sl ([]) ++ List.replicate (1 - (lg_sl ([])).length) Slot.unset).toArray = ls at hl ⊢
  have hl : lv_has ls 1 [] := hl
  refine py_new (C := RX3) (T := TX3) (N := 3) (ci := 3) (fs := [.null, .null, .int 0]) (ty0 := tyX3) G hw tyX3_ok in_X3_bornLessDead_X3 rfl (by decide +kernel) (by decide +kernel) (by decide +kernel) (fun j hj => match j, hj with | 0, _ => rfl | 1, _ => rfl | 2, _ => rfl | n + 3, h => absurd h (by omega)) (Nat.le_of_ble_eq_true rfl) (Nat.le_of_ble_eq_true rfl) dX3_bornLessDead_0 (fun q_1 L_2 f_3 H_4 hq_5 h_6 x_7 hw => ?_)
  refine lv_dup G.1 G.2.1 dX3_bornLessDead_3 rfl ?_
  refine py_callv hw (va_runI (As := []) (rest := [.ref q_1]) G (c_X3_init l E L_2 f_3 H_4.size q_1 h_6) (cwI 0 G.2.2.2.2 g_X3_bornLessDead_X3_init_22 rfl rfl rfl (G.2.2.2.2 (Cond.initialized RX3) (by decide +kernel)) (G.2.2.2.2 (Cond.methodLink RX3 22 yX3_init) (by decide +kernel)) (G.2.2.2.2 (Cond.instanceMethod yX3_init) (by decide +kernel)) rfl (by decide +kernel) ⟨(Nat.le_of_ble_eq_true rfl), (Nat.le_of_ble_eq_true rfl)⟩) (py_preS hw) rfl rfl hl.1 rfl (lv_room (Nat.le_of_ble_eq_true rfl)) dX3_bornLessDead_4 ⟨(Nat.le_of_ble_eq_true rfl), (Nat.le_of_ble_eq_true rfl)⟩) (fun L_8 f_9 H_10 locs hp_11 hw => ?_)
  obtain ⟨co_14, st_18, h_15, h_16, hco_17, x_13⟩ := hp_11
  refine lv_astore_n (lv' := [(0, .ref q_1)]) G.1 G.2.1 dX3_bornLessDead_7 rfl hl (by decide) rfl (fun ls hl => ?_)
  refine lv_aload_n G.1 G.2.1 dX3_bornLessDead_8 rfl (lv_at hl 0 rfl) ?_
  refine lv_bipush (v := 121) G.1 G.2.1 dX3_bornLessDead_9 (by decide) ?_
  refine lv_iconst (v := 0) G.1 G.2.1 dX3_bornLessDead_11 (by decide) ?_
  refine py_callv hw (va_runV (As := [.int 121, .int 0]) (rest := []) G (c_X3_add l E L_8 f_9 H_10.size q_1 121 0 co_14 st_18 0 (1) (fun _ => 0) h_15 h_16 (by decide) (py_inr (by decide)) (by decide) ) (cwV 2 G.2.2.2.2 g_X3_bornLessDead_X3_add_23 rfl rfl rfl (by decide +kernel) ⟨(Nat.le_of_ble_eq_true rfl), (Nat.le_of_ble_eq_true rfl)⟩) (py_preV hw (C := RX3) (T := TX3) (N := 3) rfl h_15) rfl rfl hl.1 rfl (lv_room (Nat.le_of_ble_eq_true rfl)) dX3_bornLessDead_12 ⟨(Nat.le_of_ble_eq_true rfl), (Nat.le_of_ble_eq_true rfl)⟩) (fun L_19 f_20 H_21 locs hp_22 hw => ?_)
  obtain ⟨g_24, h_25, h_26, x_27⟩ := hp_22
  refine lv_aload_n G.1 G.2.1 dX3_bornLessDead_15 rfl (lv_at hl 0 rfl) ?_
  refine lv_bipush (v := 121) G.1 G.2.1 dX3_bornLessDead_16 (by decide) ?_
  refine lv_iconst (v := 1) G.1 G.2.1 dX3_bornLessDead_18 (by decide) ?_
  refine py_callv hw (va_runV (As := [.int 121, .int 1]) (rest := []) G (c_X3_add l E L_19 f_20 H_21.size q_1 121 1 co_14 st_18 1 (2) g_24 h_25 h_26 (by decide) (py_inr (by decide)) (by decide) ) (cwV 2 G.2.2.2.2 g_X3_bornLessDead_X3_add_23 rfl rfl rfl (by decide +kernel) ⟨(Nat.le_of_ble_eq_true rfl), (Nat.le_of_ble_eq_true rfl)⟩) (py_preV hw (C := RX3) (T := TX3) (N := 3) rfl h_25) rfl rfl hl.1 rfl (lv_room (Nat.le_of_ble_eq_true rfl)) dX3_bornLessDead_19 ⟨(Nat.le_of_ble_eq_true rfl), (Nat.le_of_ble_eq_true rfl)⟩) (fun L_28 f_29 H_30 locs hp_31 hw => ?_)
  obtain ⟨g_33, h_34, h_35, x_36⟩ := hp_31
  refine lv_aload_n G.1 G.2.1 dX3_bornLessDead_22 rfl (lv_at hl 0 rfl) ?_
  refine lv_bipush (v := 45) G.1 G.2.1 dX3_bornLessDead_23 (by decide) ?_
  refine lv_iconst (v := 0) G.1 G.2.1 dX3_bornLessDead_25 (by decide) ?_
  refine py_callv hw (va_runV (As := [.int 45, .int 0]) (rest := []) G (c_X3_add l E L_28 f_29 H_30.size q_1 45 0 co_14 st_18 2 (3) g_33 h_34 h_35 (by decide) (py_inr (by decide)) (by decide) ) (cwV 2 G.2.2.2.2 g_X3_bornLessDead_X3_add_23 rfl rfl rfl (by decide +kernel) ⟨(Nat.le_of_ble_eq_true rfl), (Nat.le_of_ble_eq_true rfl)⟩) (py_preV hw (C := RX3) (T := TX3) (N := 3) rfl h_34) rfl rfl hl.1 rfl (lv_room (Nat.le_of_ble_eq_true rfl)) dX3_bornLessDead_26 ⟨(Nat.le_of_ble_eq_true rfl), (Nat.le_of_ble_eq_true rfl)⟩) (fun L_37 f_38 H_39 locs hp_40 hw => ?_)
  obtain ⟨g_42, h_43, h_44, x_45⟩ := hp_40
  refine lv_aload_n G.1 G.2.1 dX3_bornLessDead_29 rfl (lv_at hl 0 rfl) ?_
  refine lv_bipush (v := 59) G.1 G.2.1 dX3_bornLessDead_30 (by decide) ?_
  refine lv_iconst (v := 0) G.1 G.2.1 dX3_bornLessDead_32 (by decide) ?_
  refine py_callv hw (va_runV (As := [.int 59, .int 0]) (rest := []) G (c_X3_add l E L_37 f_38 H_39.size q_1 59 0 co_14 st_18 3 (4) g_42 h_43 h_44 (by decide) (py_inr (by decide)) (by decide) ) (cwV 2 G.2.2.2.2 g_X3_bornLessDead_X3_add_23 rfl rfl rfl (by decide +kernel) ⟨(Nat.le_of_ble_eq_true rfl), (Nat.le_of_ble_eq_true rfl)⟩) (py_preV hw (C := RX3) (T := TX3) (N := 3) rfl h_43) rfl rfl hl.1 rfl (lv_room (Nat.le_of_ble_eq_true rfl)) dX3_bornLessDead_33 ⟨(Nat.le_of_ble_eq_true rfl), (Nat.le_of_ble_eq_true rfl)⟩) (fun L_46 f_47 H_48 locs hp_49 hw => ?_)
  obtain ⟨g_51, h_52, h_53, x_54⟩ := hp_49
  refine lv_aload_n G.1 G.2.1 dX3_bornLessDead_36 rfl (lv_at hl 0 rfl) ?_
  refine W.widen (k := 3) (n := 195) (Nat.le_of_ble_eq_true rfl) (Nat.le_of_ble_eq_true rfl) ?_
  have xt : py_all L f L_46 f_47 := fun b hb => by
    have n0 : b ≠ q_1 := fun h => hq_5 (h ▸ hb)
    obtain ⟨m0, e0⟩ := x_7 b hb
    have nco : b ≠ co_14 := fun h => hco_17 (h ▸ m0)
    obtain ⟨m1, e1⟩ := x_13 b m0 n0
    obtain ⟨m2, e2⟩ := x_27 b m1 n0 nco
    obtain ⟨m3, e3⟩ := x_36 b m2 n0 nco
    obtain ⟨m4, e4⟩ := x_45 b m3 n0 nco
    obtain ⟨m5, e5⟩ := x_54 b m4 n0 nco
    exact ⟨m5, e5.trans (e4.trans (e3.trans (e2.trans (e1.trans (e0.trans (rfl))))))⟩
  exact py_rret G hr (Or.inl ⟨_, rfl⟩) hlk hw xt dX3_bornLessDead_37
end
section
theorem dX11_init_0 : decode cX11_init 0 = .ok (.aload_n 0, 1) := by decide +kernel
theorem dX11_init_1 : decode cX11_init 1 = .ok (.invokespecial 1, 3) := by decide +kernel
theorem dX11_init_4 : decode cX11_init 4 = .ok (.aload_n 0, 1) := by decide +kernel
theorem dX11_init_5 : decode cX11_init 5 = .ok (.new 7, 3) := by decide +kernel
theorem dX11_init_8 : decode cX11_init 8 = .ok (.dup, 1) := by decide +kernel
theorem dX11_init_9 : decode cX11_init 9 = .ok (.invokespecial 9, 3) := by decide +kernel
theorem dX11_init_12 : decode cX11_init 12 = .ok (.putfield 10, 3) := by decide +kernel
theorem dX11_init_15 : decode cX11_init 15 = .ok (.aload_n 0, 1) := by decide +kernel
theorem dX11_init_16 : decode cX11_init 16 = .ok (.new 16, 3) := by decide +kernel
theorem dX11_init_19 : decode cX11_init 19 = .ok (.dup, 1) := by decide +kernel
theorem dX11_init_20 : decode cX11_init 20 = .ok (.invokespecial 18, 3) := by decide +kernel
theorem dX11_init_23 : decode cX11_init 23 = .ok (.putfield 19, 3) := by decide +kernel
theorem dX11_init_26 : decode cX11_init 26 = .ok (.aload_n 0, 1) := by decide +kernel
theorem dX11_init_27 : decode cX11_init 27 = .ok (.new 23, 3) := by decide +kernel
theorem dX11_init_30 : decode cX11_init 30 = .ok (.dup, 1) := by decide +kernel
theorem dX11_init_31 : decode cX11_init 31 = .ok (.invokespecial 25, 3) := by decide +kernel
theorem dX11_init_34 : decode cX11_init 34 = .ok (.putfield 26, 3) := by decide +kernel
theorem dX11_init_37 : decode cX11_init 37 = .ok (.aload_n 0, 1) := by decide +kernel
theorem dX11_init_38 : decode cX11_init 38 = .ok (.iconst 4, 1) := by decide +kernel
theorem dX11_init_39 : decode cX11_init 39 = .ok (.anewarray 30, 3) := by decide +kernel
theorem dX11_init_42 : decode cX11_init 42 = .ok (.putfield 32, 3) := by decide +kernel
theorem dX11_init_45 : decode cX11_init 45 = .ok (.aload_n 0, 1) := by decide +kernel
theorem dX11_init_46 : decode cX11_init 46 = .ok (.invokestatic 36, 3) := by decide +kernel
theorem dX11_init_49 : decode cX11_init 49 = .ok (.putfield 40, 3) := by decide +kernel
theorem dX11_init_52 : decode cX11_init 52 = .ok (.aload_n 0, 1) := by decide +kernel
theorem dX11_init_53 : decode cX11_init 53 = .ok (.new 44, 3) := by decide +kernel
theorem dX11_init_56 : decode cX11_init 56 = .ok (.dup, 1) := by decide +kernel
theorem dX11_init_57 : decode cX11_init 57 = .ok (.invokespecial 46, 3) := by decide +kernel
theorem dX11_init_60 : decode cX11_init 60 = .ok (.putfield 47, 3) := by decide +kernel
theorem dX11_init_63 : decode cX11_init 63 = .ok (.aload_n 0, 1) := by decide +kernel
theorem dX11_init_64 : decode cX11_init 64 = .ok (.new 44, 3) := by decide +kernel
theorem dX11_init_67 : decode cX11_init 67 = .ok (.dup, 1) := by decide +kernel
theorem dX11_init_68 : decode cX11_init 68 = .ok (.invokespecial 46, 3) := by decide +kernel
theorem dX11_init_71 : decode cX11_init 71 = .ok (.putfield 51, 3) := by decide +kernel
theorem dX11_init_74 : decode cX11_init 74 = .ok (.aload_n 0, 1) := by decide +kernel
theorem dX11_init_75 : decode cX11_init 75 = .ok (.new 44, 3) := by decide +kernel
theorem dX11_init_78 : decode cX11_init 78 = .ok (.dup, 1) := by decide +kernel
theorem dX11_init_79 : decode cX11_init 79 = .ok (.invokespecial 46, 3) := by decide +kernel
theorem dX11_init_82 : decode cX11_init 82 = .ok (.putfield 54, 3) := by decide +kernel
theorem dX11_init_85 : decode cX11_init 85 = .ok (.aload_n 0, 1) := by decide +kernel
theorem dX11_init_86 : decode cX11_init 86 = .ok (.new 57, 3) := by decide +kernel
theorem dX11_init_89 : decode cX11_init 89 = .ok (.dup, 1) := by decide +kernel
theorem dX11_init_90 : decode cX11_init 90 = .ok (.invokespecial 59, 3) := by decide +kernel
theorem dX11_init_93 : decode cX11_init 93 = .ok (.putfield 60, 3) := by decide +kernel
theorem dX11_init_96 : decode cX11_init 96 = .ok (.aload_n 0, 1) := by decide +kernel
theorem dX11_init_97 : decode cX11_init 97 = .ok (.new 64, 3) := by decide +kernel
theorem dX11_init_100 : decode cX11_init 100 = .ok (.dup, 1) := by decide +kernel
theorem dX11_init_101 : decode cX11_init 101 = .ok (.invokespecial 66, 3) := by decide +kernel
theorem dX11_init_104 : decode cX11_init 104 = .ok (.putfield 67, 3) := by decide +kernel
theorem dX11_init_107 : decode cX11_init 107 = .ok (.aload_n 0, 1) := by decide +kernel
theorem dX11_init_108 : decode cX11_init 108 = .ok (.new 71, 3) := by decide +kernel
theorem dX11_init_111 : decode cX11_init 111 = .ok (.dup, 1) := by decide +kernel
theorem dX11_init_112 : decode cX11_init 112 = .ok (.invokespecial 73, 3) := by decide +kernel
theorem dX11_init_115 : decode cX11_init 115 = .ok (.putfield 74, 3) := by decide +kernel
theorem dX11_init_118 : decode cX11_init 118 = .ok (.aload_n 0, 1) := by decide +kernel
theorem dX11_init_119 : decode cX11_init 119 = .ok (.new 78, 3) := by decide +kernel
theorem dX11_init_122 : decode cX11_init 122 = .ok (.dup, 1) := by decide +kernel
theorem dX11_init_123 : decode cX11_init 123 = .ok (.invokespecial 80, 3) := by decide +kernel
theorem dX11_init_126 : decode cX11_init 126 = .ok (.putfield 81, 3) := by decide +kernel
theorem dX11_init_129 : decode cX11_init 129 = .ok (.aload_n 0, 1) := by decide +kernel
theorem dX11_init_130 : decode cX11_init 130 = .ok (.new 85, 3) := by decide +kernel
theorem dX11_init_133 : decode cX11_init 133 = .ok (.dup, 1) := by decide +kernel
theorem dX11_init_134 : decode cX11_init 134 = .ok (.aload_n 0, 1) := by decide +kernel
theorem dX11_init_135 : decode cX11_init 135 = .ok (.getfield 47, 3) := by decide +kernel
theorem dX11_init_138 : decode cX11_init 138 = .ok (.aload_n 0, 1) := by decide +kernel
theorem dX11_init_139 : decode cX11_init 139 = .ok (.getfield 40, 3) := by decide +kernel
theorem dX11_init_142 : decode cX11_init 142 = .ok (.invokespecial 87, 3) := by decide +kernel
theorem dX11_init_145 : decode cX11_init 145 = .ok (.putfield 90, 3) := by decide +kernel
theorem dX11_init_148 : decode cX11_init 148 = .ok (.aload_n 0, 1) := by decide +kernel
theorem dX11_init_149 : decode cX11_init 149 = .ok (.iconst 0, 1) := by decide +kernel
theorem dX11_init_150 : decode cX11_init 150 = .ok (.putfield 94, 3) := by decide +kernel
theorem dX11_init_153 : decode cX11_init 153 = .ok (.aload_n 0, 1) := by decide +kernel
theorem dX11_init_154 : decode cX11_init 154 = .ok (.iconst (-1), 1) := by decide +kernel
theorem dX11_init_155 : decode cX11_init 155 = .ok (.putfield 98, 3) := by decide +kernel
theorem dX11_init_158 : decode cX11_init 158 = .ok (.aload_n 0, 1) := by decide +kernel
theorem dX11_init_159 : decode cX11_init 159 = .ok (.iconst 0, 1) := by decide +kernel
theorem dX11_init_160 : decode cX11_init 160 = .ok (.putfield 101, 3) := by decide +kernel
theorem dX11_init_163 : decode cX11_init 163 = .ok (.return_, 1) := by decide +kernel
theorem dX12_init_0 : decode cX12_init 0 = .ok (.aload_n 0, 1) := by decide +kernel
theorem dX12_init_1 : decode cX12_init 1 = .ok (.invokespecial 3, 3) := by decide +kernel
theorem dX12_init_4 : decode cX12_init 4 = .ok (.aload_n 0, 1) := by decide +kernel
theorem dX12_init_5 : decode cX12_init 5 = .ok (.sipush 160, 3) := by decide +kernel
theorem dX12_init_8 : decode cX12_init 8 = .ok (.newarray .int, 2) := by decide +kernel
theorem dX12_init_10 : decode cX12_init 10 = .ok (.putfield 9, 3) := by decide +kernel
theorem dX12_init_13 : decode cX12_init 13 = .ok (.aload_n 0, 1) := by decide +kernel
theorem dX12_init_14 : decode cX12_init 14 = .ok (.sipush 1700, 3) := by decide +kernel
theorem dX12_init_17 : decode cX12_init 17 = .ok (.newarray .int, 2) := by decide +kernel
theorem dX12_init_19 : decode cX12_init 19 = .ok (.putfield 13, 3) := by decide +kernel
theorem dX12_init_22 : decode cX12_init 22 = .ok (.aload_n 0, 1) := by decide +kernel
theorem dX12_init_23 : decode cX12_init 23 = .ok (.sipush 1700, 3) := by decide +kernel
theorem dX12_init_26 : decode cX12_init 26 = .ok (.newarray .int, 2) := by decide +kernel
theorem dX12_init_28 : decode cX12_init 28 = .ok (.putfield 16, 3) := by decide +kernel
theorem dX12_init_31 : decode cX12_init 31 = .ok (.aload_n 0, 1) := by decide +kernel
theorem dX12_init_32 : decode cX12_init 32 = .ok (.iconst 5, 1) := by decide +kernel
theorem dX12_init_33 : decode cX12_init 33 = .ok (.newarray .int, 2) := by decide +kernel
theorem dX12_init_35 : decode cX12_init 35 = .ok (.putfield 19, 3) := by decide +kernel
theorem dX12_init_38 : decode cX12_init 38 = .ok (.aload_n 0, 1) := by decide +kernel
theorem dX12_init_39 : decode cX12_init 39 = .ok (.iconst 5, 1) := by decide +kernel
theorem dX12_init_40 : decode cX12_init 40 = .ok (.newarray .int, 2) := by decide +kernel
theorem dX12_init_42 : decode cX12_init 42 = .ok (.putfield 22, 3) := by decide +kernel
theorem dX12_init_45 : decode cX12_init 45 = .ok (.aload_n 0, 1) := by decide +kernel
theorem dX12_init_46 : decode cX12_init 46 = .ok (.sipush 450, 3) := by decide +kernel
theorem dX12_init_49 : decode cX12_init 49 = .ok (.newarray .int, 2) := by decide +kernel
theorem dX12_init_51 : decode cX12_init 51 = .ok (.putfield 25, 3) := by decide +kernel
theorem dX12_init_54 : decode cX12_init 54 = .ok (.aload_n 0, 1) := by decide +kernel
theorem dX12_init_55 : decode cX12_init 55 = .ok (.sipush 450, 3) := by decide +kernel
theorem dX12_init_58 : decode cX12_init 58 = .ok (.newarray .int, 2) := by decide +kernel
theorem dX12_init_60 : decode cX12_init 60 = .ok (.putfield 28, 3) := by decide +kernel
theorem dX12_init_63 : decode cX12_init 63 = .ok (.aload_n 0, 1) := by decide +kernel
theorem dX12_init_64 : decode cX12_init 64 = .ok (.sipush 450, 3) := by decide +kernel
theorem dX12_init_67 : decode cX12_init 67 = .ok (.newarray .int, 2) := by decide +kernel
theorem dX12_init_69 : decode cX12_init 69 = .ok (.putfield 31, 3) := by decide +kernel
theorem dX12_init_72 : decode cX12_init 72 = .ok (.aload_n 0, 1) := by decide +kernel
theorem dX12_init_73 : decode cX12_init 73 = .ok (.bipush 6, 2) := by decide +kernel
theorem dX12_init_75 : decode cX12_init 75 = .ok (.newarray .int, 2) := by decide +kernel
theorem dX12_init_77 : decode cX12_init 77 = .ok (.putfield 34, 3) := by decide +kernel
theorem dX12_init_80 : decode cX12_init 80 = .ok (.aload_n 0, 1) := by decide +kernel
theorem dX12_init_81 : decode cX12_init 81 = .ok (.bipush 80, 2) := by decide +kernel
theorem dX12_init_83 : decode cX12_init 83 = .ok (.newarray .int, 2) := by decide +kernel
theorem dX12_init_85 : decode cX12_init 85 = .ok (.putfield 37, 3) := by decide +kernel
theorem dX12_init_88 : decode cX12_init 88 = .ok (.aload_n 0, 1) := by decide +kernel
theorem dX12_init_89 : decode cX12_init 89 = .ok (.bipush 32, 2) := by decide +kernel
theorem dX12_init_91 : decode cX12_init 91 = .ok (.newarray .int, 2) := by decide +kernel
theorem dX12_init_93 : decode cX12_init 93 = .ok (.putfield 40, 3) := by decide +kernel
theorem dX12_init_96 : decode cX12_init 96 = .ok (.aload_n 0, 1) := by decide +kernel
theorem dX12_init_97 : decode cX12_init 97 = .ok (.bipush 40, 2) := by decide +kernel
theorem dX12_init_99 : decode cX12_init 99 = .ok (.newarray .int, 2) := by decide +kernel
theorem dX12_init_101 : decode cX12_init 101 = .ok (.putfield 43, 3) := by decide +kernel
theorem dX12_init_104 : decode cX12_init 104 = .ok (.aload_n 0, 1) := by decide +kernel
theorem dX12_init_105 : decode cX12_init 105 = .ok (.bipush 32, 2) := by decide +kernel
theorem dX12_init_107 : decode cX12_init 107 = .ok (.newarray .int, 2) := by decide +kernel
theorem dX12_init_109 : decode cX12_init 109 = .ok (.putfield 46, 3) := by decide +kernel
theorem dX12_init_112 : decode cX12_init 112 = .ok (.aload_n 0, 1) := by decide +kernel
theorem dX12_init_113 : decode cX12_init 113 = .ok (.bipush 10, 2) := by decide +kernel
theorem dX12_init_115 : decode cX12_init 115 = .ok (.newarray .int, 2) := by decide +kernel
theorem dX12_init_117 : decode cX12_init 117 = .ok (.putfield 49, 3) := by decide +kernel
theorem dX12_init_120 : decode cX12_init 120 = .ok (.aload_n 0, 1) := by decide +kernel
theorem dX12_init_121 : decode cX12_init 121 = .ok (.bipush 10, 2) := by decide +kernel
theorem dX12_init_123 : decode cX12_init 123 = .ok (.newarray .int, 2) := by decide +kernel
theorem dX12_init_125 : decode cX12_init 125 = .ok (.putfield 52, 3) := by decide +kernel
theorem dX12_init_128 : decode cX12_init 128 = .ok (.aload_n 0, 1) := by decide +kernel
theorem dX12_init_129 : decode cX12_init 129 = .ok (.bipush 90, 2) := by decide +kernel
theorem dX12_init_131 : decode cX12_init 131 = .ok (.newarray .int, 2) := by decide +kernel
theorem dX12_init_133 : decode cX12_init 133 = .ok (.putfield 55, 3) := by decide +kernel
theorem dX12_init_136 : decode cX12_init 136 = .ok (.aload_n 0, 1) := by decide +kernel
theorem dX12_init_137 : decode cX12_init 137 = .ok (.bipush 90, 2) := by decide +kernel
theorem dX12_init_139 : decode cX12_init 139 = .ok (.newarray .int, 2) := by decide +kernel
theorem dX12_init_141 : decode cX12_init 141 = .ok (.putfield 58, 3) := by decide +kernel
theorem dX12_init_144 : decode cX12_init 144 = .ok (.aload_n 0, 1) := by decide +kernel
theorem dX12_init_145 : decode cX12_init 145 = .ok (.bipush 90, 2) := by decide +kernel
theorem dX12_init_147 : decode cX12_init 147 = .ok (.newarray .int, 2) := by decide +kernel
theorem dX12_init_149 : decode cX12_init 149 = .ok (.putfield 61, 3) := by decide +kernel
theorem dX12_init_152 : decode cX12_init 152 = .ok (.aload_n 0, 1) := by decide +kernel
theorem dX12_init_153 : decode cX12_init 153 = .ok (.iconst (-1), 1) := by decide +kernel
theorem dX12_init_154 : decode cX12_init 154 = .ok (.putfield 64, 3) := by decide +kernel
theorem dX12_init_157 : decode cX12_init 157 = .ok (.aload_n 0, 1) := by decide +kernel
theorem dX12_init_158 : decode cX12_init 158 = .ok (.bipush 50, 2) := by decide +kernel
theorem dX12_init_160 : decode cX12_init 160 = .ok (.putfield 68, 3) := by decide +kernel
theorem dX12_init_163 : decode cX12_init 163 = .ok (.aload_n 0, 1) := by decide +kernel
theorem dX12_init_164 : decode cX12_init 164 = .ok (.bipush 10, 2) := by decide +kernel
theorem dX12_init_166 : decode cX12_init 166 = .ok (.putfield 71, 3) := by decide +kernel
theorem dX12_init_169 : decode cX12_init 169 = .ok (.aload_n 0, 1) := by decide +kernel
theorem dX12_init_170 : decode cX12_init 170 = .ok (.bipush 8, 2) := by decide +kernel
theorem dX12_init_172 : decode cX12_init 172 = .ok (.newarray .int, 2) := by decide +kernel
theorem dX12_init_174 : decode cX12_init 174 = .ok (.putfield 74, 3) := by decide +kernel
theorem dX12_init_177 : decode cX12_init 177 = .ok (.aload_n 0, 1) := by decide +kernel
theorem dX12_init_178 : decode cX12_init 178 = .ok (.bipush 10, 2) := by decide +kernel
theorem dX12_init_180 : decode cX12_init 180 = .ok (.newarray .int, 2) := by decide +kernel
theorem dX12_init_182 : decode cX12_init 182 = .ok (.putfield 77, 3) := by decide +kernel
theorem dX12_init_185 : decode cX12_init 185 = .ok (.aload_n 0, 1) := by decide +kernel
theorem dX12_init_186 : decode cX12_init 186 = .ok (.bipush 10, 2) := by decide +kernel
theorem dX12_init_188 : decode cX12_init 188 = .ok (.newarray .int, 2) := by decide +kernel
theorem dX12_init_190 : decode cX12_init 190 = .ok (.putfield 80, 3) := by decide +kernel
theorem dX12_init_193 : decode cX12_init 193 = .ok (.aload_n 0, 1) := by decide +kernel
theorem dX12_init_194 : decode cX12_init 194 = .ok (.sipush 600, 3) := by decide +kernel
theorem dX12_init_197 : decode cX12_init 197 = .ok (.newarray .int, 2) := by decide +kernel
theorem dX12_init_199 : decode cX12_init 199 = .ok (.putfield 83, 3) := by decide +kernel
theorem dX12_init_202 : decode cX12_init 202 = .ok (.aload_n 0, 1) := by decide +kernel
theorem dX12_init_203 : decode cX12_init 203 = .ok (.sipush 600, 3) := by decide +kernel
theorem dX12_init_206 : decode cX12_init 206 = .ok (.newarray .int, 2) := by decide +kernel
theorem dX12_init_208 : decode cX12_init 208 = .ok (.putfield 86, 3) := by decide +kernel
theorem dX12_init_211 : decode cX12_init 211 = .ok (.aload_n 0, 1) := by decide +kernel
theorem dX12_init_212 : decode cX12_init 212 = .ok (.bipush 40, 2) := by decide +kernel
theorem dX12_init_214 : decode cX12_init 214 = .ok (.newarray .int, 2) := by decide +kernel
theorem dX12_init_216 : decode cX12_init 216 = .ok (.putfield 89, 3) := by decide +kernel
theorem dX12_init_219 : decode cX12_init 219 = .ok (.aload_n 0, 1) := by decide +kernel
theorem dX12_init_220 : decode cX12_init 220 = .ok (.bipush 40, 2) := by decide +kernel
theorem dX12_init_222 : decode cX12_init 222 = .ok (.newarray .int, 2) := by decide +kernel
theorem dX12_init_224 : decode cX12_init 224 = .ok (.putfield 92, 3) := by decide +kernel
theorem dX12_init_227 : decode cX12_init 227 = .ok (.aload_n 0, 1) := by decide +kernel
theorem dX12_init_228 : decode cX12_init 228 = .ok (.bipush 40, 2) := by decide +kernel
theorem dX12_init_230 : decode cX12_init 230 = .ok (.newarray .int, 2) := by decide +kernel
theorem dX12_init_232 : decode cX12_init 232 = .ok (.putfield 95, 3) := by decide +kernel
theorem dX12_init_235 : decode cX12_init 235 = .ok (.aload_n 0, 1) := by decide +kernel
theorem dX12_init_236 : decode cX12_init 236 = .ok (.bipush 8, 2) := by decide +kernel
theorem dX12_init_238 : decode cX12_init 238 = .ok (.newarray .int, 2) := by decide +kernel
theorem dX12_init_240 : decode cX12_init 240 = .ok (.putfield 98, 3) := by decide +kernel
theorem dX12_init_243 : decode cX12_init 243 = .ok (.aload_n 0, 1) := by decide +kernel
theorem dX12_init_244 : decode cX12_init 244 = .ok (.sipush 168, 3) := by decide +kernel
theorem dX12_init_247 : decode cX12_init 247 = .ok (.newarray .long, 2) := by decide +kernel
theorem dX12_init_249 : decode cX12_init 249 = .ok (.putfield 101, 3) := by decide +kernel
theorem dX12_init_252 : decode cX12_init 252 = .ok (.aload_n 0, 1) := by decide +kernel
theorem dX12_init_253 : decode cX12_init 253 = .ok (.sipush 168, 3) := by decide +kernel
theorem dX12_init_256 : decode cX12_init 256 = .ok (.newarray .long, 2) := by decide +kernel
theorem dX12_init_258 : decode cX12_init 258 = .ok (.putfield 105, 3) := by decide +kernel
theorem dX12_init_261 : decode cX12_init 261 = .ok (.aload_n 0, 1) := by decide +kernel
theorem dX12_init_262 : decode cX12_init 262 = .ok (.bipush 22, 2) := by decide +kernel
theorem dX12_init_264 : decode cX12_init 264 = .ok (.newarray .long, 2) := by decide +kernel
theorem dX12_init_266 : decode cX12_init 266 = .ok (.putfield 108, 3) := by decide +kernel
theorem dX12_init_269 : decode cX12_init 269 = .ok (.aload_n 0, 1) := by decide +kernel
theorem dX12_init_270 : decode cX12_init 270 = .ok (.sipush 600, 3) := by decide +kernel
theorem dX12_init_273 : decode cX12_init 273 = .ok (.newarray .int, 2) := by decide +kernel
theorem dX12_init_275 : decode cX12_init 275 = .ok (.putfield 111, 3) := by decide +kernel
theorem dX12_init_278 : decode cX12_init 278 = .ok (.aload_n 0, 1) := by decide +kernel
theorem dX12_init_279 : decode cX12_init 279 = .ok (.sipush 600, 3) := by decide +kernel
theorem dX12_init_282 : decode cX12_init 282 = .ok (.newarray .int, 2) := by decide +kernel
theorem dX12_init_284 : decode cX12_init 284 = .ok (.putfield 114, 3) := by decide +kernel
theorem dX12_init_287 : decode cX12_init 287 = .ok (.return_, 1) := by decide +kernel
def w_X11_init : List Cond := .code yX11_init cX11_init 1 none :: ([Cond.methodLink RX11 1 objectInit, Cond.instanceMethod objectInit, Cond.code objectInit ⟨#[0xb1]⟩ 1 none, Cond.classLink RX11 7 RX8, Cond.instantiable RX8 4, Cond.initialized RX8, Cond.instanceMethod yX8_init, Cond.fieldLink RX11 10 "HeadYear" "tape" "LHeadYear$Tape;", Cond.classLink RX11 16 RX10, Cond.instantiable RX10 2, Cond.initialized RX10, Cond.instanceMethod yX10_init, Cond.fieldLink RX11 19 "HeadYear" "valleyReader" "LHeadYear$ValleyReader;", Cond.classLink RX11 23 RX4, Cond.instantiable RX4 1, Cond.initialized RX4, Cond.instanceMethod yX4_init, Cond.fieldLink RX11 26 "HeadYear" "lawReader" "LHeadYear$LawReader;", Cond.classLink RX11 30 RX3, Cond.fieldLink RX11 32 "HeadYear" "laws" "[LHeadYear$Law;", Cond.methodLink RX11 36 yX3_bornLessDead, Cond.static yX3_bornLessDead, Cond.initialized RX3, Cond.fieldLink RX11 40 "HeadYear" "noLaw" "LHeadYear$Law;", Cond.classLink RX11 44 RX2, Cond.instantiable RX2 12, Cond.initialized RX2, Cond.instanceMethod yX2_init, Cond.fieldLink RX11 47 "HeadYear" "folk" "LHeadYear$Folk;", Cond.fieldLink RX11 51 "HeadYear" "trial" "LHeadYear$Folk;", Cond.fieldLink RX11 54 "HeadYear" "imageFolk" "LHeadYear$Folk;", Cond.classLink RX11 57 RX1, Cond.instantiable RX1 3, Cond.initialized RX1, Cond.instanceMethod yX1_init, Cond.fieldLink RX11 60 "HeadYear" "diary" "LHeadYear$Diary;", Cond.classLink RX11 64 RX0, Cond.instantiable RX0 5, Cond.initialized RX0, Cond.instanceMethod yX0_init, Cond.fieldLink RX11 67 "HeadYear" "buyings" "LHeadYear$Buyings;", Cond.classLink RX11 71 RX7, Cond.instantiable RX7 5, Cond.initialized RX7, Cond.instanceMethod yX7_init, Cond.fieldLink RX11 74 "HeadYear" "seasons" "LHeadYear$Seasons;", Cond.classLink RX11 78 RX5, Cond.instantiable RX5 1, Cond.initialized RX5, Cond.instanceMethod yX5_init, Cond.fieldLink RX11 81 "HeadYear" "moves" "LHeadYear$Moves;", Cond.classLink RX11 85 RX6, Cond.instantiable RX6 7, Cond.initialized RX6, Cond.methodLink RX11 87 yX6_init, Cond.instanceMethod yX6_init, Cond.fieldLink RX11 90 "HeadYear" "chances" "LHeadYear$Odds;", Cond.fieldLink RX11 94 "HeadYear" "lawCount" "I", Cond.fieldLink RX11 98 "HeadYear" "heldLaw" "I", Cond.fieldLink RX11 101 "HeadYear" "imaged" "Z"] ++ (u_ws RX8 TX8 4 ++ (u_ws RX11 TX11 16 ++ (u_ws RX10 TX10 2 ++ (u_ws RX4 TX4 1 ++ (u_ws RX2 TX2 12 ++ (u_ws RX1 TX1 3 ++ (u_ws RX0 TX0 5 ++ (u_ws RX7 TX7 5 ++ (u_ws RX5 TX5 1 ++ (u_ws RX6 TX6 7 ++ (w_X8_init ++ (w_X10_init ++ (w_X4_init ++ (w_X3_bornLessDead ++ (w_X2_init ++ (w_X1_init ++ (w_X0_init ++ (w_X7_init ++ (w_X5_init ++ (w_X6_init ++ ([]))))))))))))))))))))))
theorem in_X11_init_X8 : ∀ w ∈ u_ws RX8 TX8 4, w ∈ w_X11_init := fun _ h => List.mem_cons_of_mem _ (List.mem_append_right _ (List.mem_append_left _ h))
theorem in_X11_init_X11 : ∀ w ∈ u_ws RX11 TX11 16, w ∈ w_X11_init := fun _ h => List.mem_cons_of_mem _ (List.mem_append_right _ (List.mem_append_right _ (List.mem_append_left _ h)))
theorem in_X11_init_X10 : ∀ w ∈ u_ws RX10 TX10 2, w ∈ w_X11_init := fun _ h => List.mem_cons_of_mem _ (List.mem_append_right _ (List.mem_append_right _ (List.mem_append_right _ (List.mem_append_left _ h))))
theorem in_X11_init_X4 : ∀ w ∈ u_ws RX4 TX4 1, w ∈ w_X11_init := fun _ h => List.mem_cons_of_mem _ (List.mem_append_right _ (List.mem_append_right _ (List.mem_append_right _ (List.mem_append_right _ (List.mem_append_left _ h)))))
theorem in_X11_init_X2 : ∀ w ∈ u_ws RX2 TX2 12, w ∈ w_X11_init := fun _ h => List.mem_cons_of_mem _ (List.mem_append_right _ (List.mem_append_right _ (List.mem_append_right _ (List.mem_append_right _ (List.mem_append_right _ (List.mem_append_left _ h))))))
theorem in_X11_init_X1 : ∀ w ∈ u_ws RX1 TX1 3, w ∈ w_X11_init := fun _ h => List.mem_cons_of_mem _ (List.mem_append_right _ (List.mem_append_right _ (List.mem_append_right _ (List.mem_append_right _ (List.mem_append_right _ (List.mem_append_right _ (List.mem_append_left _ h)))))))
theorem in_X11_init_X0 : ∀ w ∈ u_ws RX0 TX0 5, w ∈ w_X11_init := fun _ h => List.mem_cons_of_mem _ (List.mem_append_right _ (List.mem_append_right _ (List.mem_append_right _ (List.mem_append_right _ (List.mem_append_right _ (List.mem_append_right _ (List.mem_append_right _ (List.mem_append_left _ h))))))))
theorem in_X11_init_X7 : ∀ w ∈ u_ws RX7 TX7 5, w ∈ w_X11_init := fun _ h => List.mem_cons_of_mem _ (List.mem_append_right _ (List.mem_append_right _ (List.mem_append_right _ (List.mem_append_right _ (List.mem_append_right _ (List.mem_append_right _ (List.mem_append_right _ (List.mem_append_right _ (List.mem_append_left _ h)))))))))
theorem in_X11_init_X5 : ∀ w ∈ u_ws RX5 TX5 1, w ∈ w_X11_init := fun _ h => List.mem_cons_of_mem _ (List.mem_append_right _ (List.mem_append_right _ (List.mem_append_right _ (List.mem_append_right _ (List.mem_append_right _ (List.mem_append_right _ (List.mem_append_right _ (List.mem_append_right _ (List.mem_append_right _ (List.mem_append_left _ h))))))))))
theorem in_X11_init_X6 : ∀ w ∈ u_ws RX6 TX6 7, w ∈ w_X11_init := fun _ h => List.mem_cons_of_mem _ (List.mem_append_right _ (List.mem_append_right _ (List.mem_append_right _ (List.mem_append_right _ (List.mem_append_right _ (List.mem_append_right _ (List.mem_append_right _ (List.mem_append_right _ (List.mem_append_right _ (List.mem_append_right _ (List.mem_append_left _ h)))))))))))
theorem gg_X11_init_X8_init : GoodIn w_X11_init w_X8_init := goodIn_sub (fun _ h => List.mem_cons_of_mem _ (List.mem_append_right _ (List.mem_append_right _ (List.mem_append_right _ (List.mem_append_right _ (List.mem_append_right _ (List.mem_append_right _ (List.mem_append_right _ (List.mem_append_right _ (List.mem_append_right _ (List.mem_append_right _ (List.mem_append_right _ (List.mem_append_left _ h))))))))))))) (by decide +kernel)
theorem gg_X11_init_X10_init : GoodIn w_X11_init w_X10_init := goodIn_sub (fun _ h => List.mem_cons_of_mem _ (List.mem_append_right _ (List.mem_append_right _ (List.mem_append_right _ (List.mem_append_right _ (List.mem_append_right _ (List.mem_append_right _ (List.mem_append_right _ (List.mem_append_right _ (List.mem_append_right _ (List.mem_append_right _ (List.mem_append_right _ (List.mem_append_right _ (List.mem_append_left _ h)))))))))))))) (by decide +kernel)
theorem gg_X11_init_X4_init : GoodIn w_X11_init w_X4_init := goodIn_sub (fun _ h => List.mem_cons_of_mem _ (List.mem_append_right _ (List.mem_append_right _ (List.mem_append_right _ (List.mem_append_right _ (List.mem_append_right _ (List.mem_append_right _ (List.mem_append_right _ (List.mem_append_right _ (List.mem_append_right _ (List.mem_append_right _ (List.mem_append_right _ (List.mem_append_right _ (List.mem_append_right _ (List.mem_append_left _ h))))))))))))))) (by decide +kernel)
theorem gg_X11_init_X3_bornLessDead : GoodIn w_X11_init w_X3_bornLessDead := goodIn_sub (fun _ h => List.mem_cons_of_mem _ (List.mem_append_right _ (List.mem_append_right _ (List.mem_append_right _ (List.mem_append_right _ (List.mem_append_right _ (List.mem_append_right _ (List.mem_append_right _ (List.mem_append_right _ (List.mem_append_right _ (List.mem_append_right _ (List.mem_append_right _ (List.mem_append_right _ (List.mem_append_right _ (List.mem_append_right _ (List.mem_append_left _ h)))))))))))))))) (by decide +kernel)
theorem gg_X11_init_X2_init : GoodIn w_X11_init w_X2_init := goodIn_sub (fun _ h => List.mem_cons_of_mem _ (List.mem_append_right _ (List.mem_append_right _ (List.mem_append_right _ (List.mem_append_right _ (List.mem_append_right _ (List.mem_append_right _ (List.mem_append_right _ (List.mem_append_right _ (List.mem_append_right _ (List.mem_append_right _ (List.mem_append_right _ (List.mem_append_right _ (List.mem_append_right _ (List.mem_append_right _ (List.mem_append_right _ (List.mem_append_left _ h))))))))))))))))) (by decide +kernel)
theorem gg_X11_init_X1_init : GoodIn w_X11_init w_X1_init := goodIn_sub (fun _ h => List.mem_cons_of_mem _ (List.mem_append_right _ (List.mem_append_right _ (List.mem_append_right _ (List.mem_append_right _ (List.mem_append_right _ (List.mem_append_right _ (List.mem_append_right _ (List.mem_append_right _ (List.mem_append_right _ (List.mem_append_right _ (List.mem_append_right _ (List.mem_append_right _ (List.mem_append_right _ (List.mem_append_right _ (List.mem_append_right _ (List.mem_append_right _ (List.mem_append_left _ h)))))))))))))))))) (by decide +kernel)
theorem gg_X11_init_X0_init : GoodIn w_X11_init w_X0_init := goodIn_sub (fun _ h => List.mem_cons_of_mem _ (List.mem_append_right _ (List.mem_append_right _ (List.mem_append_right _ (List.mem_append_right _ (List.mem_append_right _ (List.mem_append_right _ (List.mem_append_right _ (List.mem_append_right _ (List.mem_append_right _ (List.mem_append_right _ (List.mem_append_right _ (List.mem_append_right _ (List.mem_append_right _ (List.mem_append_right _ (List.mem_append_right _ (List.mem_append_right _ (List.mem_append_right _ (List.mem_append_left _ h))))))))))))))))))) (by decide +kernel)
theorem gg_X11_init_X7_init : GoodIn w_X11_init w_X7_init := goodIn_sub (fun _ h => List.mem_cons_of_mem _ (List.mem_append_right _ (List.mem_append_right _ (List.mem_append_right _ (List.mem_append_right _ (List.mem_append_right _ (List.mem_append_right _ (List.mem_append_right _ (List.mem_append_right _ (List.mem_append_right _ (List.mem_append_right _ (List.mem_append_right _ (List.mem_append_right _ (List.mem_append_right _ (List.mem_append_right _ (List.mem_append_right _ (List.mem_append_right _ (List.mem_append_right _ (List.mem_append_right _ (List.mem_append_left _ h)))))))))))))))))))) (by decide +kernel)
theorem gg_X11_init_X5_init : GoodIn w_X11_init w_X5_init := goodIn_sub (fun _ h => List.mem_cons_of_mem _ (List.mem_append_right _ (List.mem_append_right _ (List.mem_append_right _ (List.mem_append_right _ (List.mem_append_right _ (List.mem_append_right _ (List.mem_append_right _ (List.mem_append_right _ (List.mem_append_right _ (List.mem_append_right _ (List.mem_append_right _ (List.mem_append_right _ (List.mem_append_right _ (List.mem_append_right _ (List.mem_append_right _ (List.mem_append_right _ (List.mem_append_right _ (List.mem_append_right _ (List.mem_append_right _ (List.mem_append_left _ h))))))))))))))))))))) (by decide +kernel)
theorem gg_X11_init_X6_init : GoodIn w_X11_init w_X6_init := goodIn_sub (fun _ h => List.mem_cons_of_mem _ (List.mem_append_right _ (List.mem_append_right _ (List.mem_append_right _ (List.mem_append_right _ (List.mem_append_right _ (List.mem_append_right _ (List.mem_append_right _ (List.mem_append_right _ (List.mem_append_right _ (List.mem_append_right _ (List.mem_append_right _ (List.mem_append_right _ (List.mem_append_right _ (List.mem_append_right _ (List.mem_append_right _ (List.mem_append_right _ (List.mem_append_right _ (List.mem_append_right _ (List.mem_append_right _ (List.mem_append_right _ (List.mem_append_left _ h)))))))))))))))))))))) (by decide +kernel)
theorem g_X11_init_X0_init_66 : GoodIn w_X11_init w_X0_init := gg_X11_init_X0_init
theorem g_X11_init_X10_init_18 : GoodIn w_X11_init w_X10_init := gg_X11_init_X10_init
theorem g_X11_init_X1_init_59 : GoodIn w_X11_init w_X1_init := gg_X11_init_X1_init
theorem g_X11_init_X2_init_46 : GoodIn w_X11_init w_X2_init := gg_X11_init_X2_init
theorem g_X11_init_X3_bornLessDead_36 : GoodIn w_X11_init (va_wsS RX11 36 yX3_bornLessDead w_X3_bornLessDead) := goodIn_app (goodIn_of _ (by decide +kernel)) gg_X11_init_X3_bornLessDead
theorem g_X11_init_X4_init_25 : GoodIn w_X11_init w_X4_init := gg_X11_init_X4_init
theorem g_X11_init_X5_init_80 : GoodIn w_X11_init w_X5_init := gg_X11_init_X5_init
theorem g_X11_init_X6_init_87 : GoodIn w_X11_init w_X6_init := gg_X11_init_X6_init
theorem g_X11_init_X7_init_73 : GoodIn w_X11_init w_X7_init := gg_X11_init_X7_init
theorem g_X11_init_X8_init_9 : GoodIn w_X11_init w_X8_init := gg_X11_init_X8_init
set_option maxHeartbeats 4000000 in
set_option maxRecDepth 100000 in
theorem c_X11_init (l : Launch) (E : py_E) (L : List Nat) (f : py_F) (sz : Nat) (h : Nat) (hh : py_at L f h (.inr (11, [.null, .null, .null, .null, .null, .null, .null, .null, .null, .null, .null, .null, .null, .int 0, .int 0, .int 0]))) : Met l yX11_init w_X11_init ({ frames := 3, cells := 96, slots := 2936, locals := 52 }) (py_Pc E [.ref h] L f sz) (py_Qv E L f sz (fun L1 f1 => fr_H E L1 f1 h ∧ py_ext L f L1 f1 h)) 96 2936 (va_A (va_pl L f) sz) := by
  refine Met.ofW (cc := cX11_init) (maxL := 1) (ret := none) (by decide) rfl ?_
  intro p e s m args below meth c s₁ B hml hv
  obtain ⟨rfl, rfl, hw⟩ := py_start hv
  have G : CallFix p m c cX11_init 1 s _ w_X11_init RX11 := ⟨B.exec, B.bytes, hml, findClass_of_methodNamed B.named, atoms_spec (ws := w_X11_init) B.pre⟩
  have hr := B.returns
  have hlk := B.notSynchronized
  have hin : meth.name = "<init>" := (name_of_methodNamed B.named B.method).1
  have hl := lv_entry ([.ref h]) (n := 1) (Nat.le_of_ble_eq_true rfl)
  rw [lg_entry_eq]
  generalize (lg_sl ([.ref h]) ++ List.replicate (1 - (lg_sl ([.ref h])).length) Slot.unset).toArray = ls at hl ⊢
  have hl : lv_has ls 1 [(0, .ref h)] := hl
  refine lv_aload_n G.1 G.2.1 dX11_init_0 rfl (lv_at hl 0 rfl) ?_
  refine py_objInit G hl.1 (by decide +kernel) (by decide +kernel) (by decide +kernel) dX11_init_1 (Nat.le_of_ble_eq_true rfl) (Nat.le_of_ble_eq_true rfl) ?_
  refine lv_aload_n G.1 G.2.1 dX11_init_4 rfl (lv_at hl 0 rfl) ?_
  refine py_new (C := RX8) (T := TX8) (N := 4) (ci := 8) (fs := [.null, .int 0, .int 0, .int 0]) (ty0 := tyX8) G hw tyX8_ok in_X11_init_X8 rfl (by decide +kernel) (by decide +kernel) (by decide +kernel) (fun j hj => match j, hj with | 0, _ => rfl | 1, _ => rfl | 2, _ => rfl | 3, _ => rfl | n + 4, h => absurd h (by omega)) (Nat.le_of_ble_eq_true rfl) (Nat.le_of_ble_eq_true rfl) dX11_init_5 (fun q_1 L_2 f_3 H_4 hq_5 h_6 x_7 hw => ?_)
  have ne_8 : h ≠ q_1 := py_ne_new hh hq_5
  have hh := hh.all x_7
  refine lv_dup G.1 G.2.1 dX11_init_8 rfl ?_
  refine py_callv hw (va_runIN (As := []) (rest := [.ref q_1, .ref h]) G (c_X8_init l E L_2 f_3 H_4.size q_1 h_6) ⟨va_cnB 0 G.2.2.2.2 g_X11_init_X8_init_9 rfl rfl rfl (hw.1.2.2 (RX11, 9, yX8_init) (List.mem_of_getElem? (i := 0) rfl)) (G.2.2.2.2 (Cond.initialized RX8) (by decide +kernel)) (by decide +kernel) ⟨(Nat.le_of_ble_eq_true rfl), (Nat.le_of_ble_eq_true rfl)⟩, rfl, G.2.2.2.2 (Cond.instanceMethod yX8_init) (by decide +kernel)⟩ (py_preS hw) rfl rfl hl.1 rfl (lv_room (Nat.le_of_ble_eq_true rfl)) dX11_init_9 ⟨(Nat.le_of_ble_eq_true rfl), (Nat.le_of_ble_eq_true rfl)⟩) (fun L_9 f_10 H_11 locs hp_12 hw => ?_)
  obtain ⟨byt_15, h_16, h_17, x_14⟩ := hp_12
  have hh := hh.ext x_14 ne_8
  refine py_putF (C := RX11) (T := TX11) (N := 16) (k := 0) (v := .ref q_1) (fs' := [.ref q_1, .null, .null, .null, .null, .null, .null, .null, .null, .null, .null, .null, .null, .int 0, .int 0, .int 0]) (ty0 := tyX11) G hin hw tyX11_ok nmX11 in_X11_init_X11 rfl hh (by decide) (by decide +kernel) rfl rfl rfl rfl rfl (Nat.le_of_ble_eq_true rfl) rfl dX11_init_12 (fun f_18 H_19 locs h_20 x_21 hw => ?_)
  have h_16 := h_16.ext x_21 (Ne.symm ne_8)
  have h_17 := h_17.ext x_21 (Ne.symm (py_ne_arr hh h_17))
  refine lv_aload_n G.1 G.2.1 dX11_init_15 rfl (lv_at hl 0 rfl) ?_
  refine py_new (C := RX10) (T := TX10) (N := 2) (ci := 10) (fs := [.null, .null]) (ty0 := tyX10) G hw tyX10_ok in_X11_init_X10 rfl (by decide +kernel) (by decide +kernel) (by decide +kernel) (fun j hj => match j, hj with | 0, _ => rfl | 1, _ => rfl | n + 2, h => absurd h (by omega)) (Nat.le_of_ble_eq_true rfl) (Nat.le_of_ble_eq_true rfl) dX11_init_16 (fun q_22 L_23 f_24 H_25 hq_26 h_27 x_28 hw => ?_)
  have ne_29 : h ≠ q_22 := py_ne_new h_20 hq_26
  have h_20 := h_20.all x_28
  have ne_30 : q_1 ≠ q_22 := py_ne_new h_16 hq_26
  have h_16 := h_16.all x_28
  have ne_31 : byt_15 ≠ q_22 := py_ne_new h_17 hq_26
  have h_17 := h_17.all x_28
  refine lv_dup G.1 G.2.1 dX11_init_19 rfl ?_
  refine py_callv hw (va_runIN (As := []) (rest := [.ref q_22, .ref h]) G (c_X10_init l E L_23 f_24 H_25.size q_22 h_27) ⟨va_cnB 0 G.2.2.2.2 g_X11_init_X10_init_18 rfl rfl rfl (hw.1.2.2 (RX11, 18, yX10_init) (List.mem_of_getElem? (i := 1) rfl)) (G.2.2.2.2 (Cond.initialized RX10) (by decide +kernel)) (by decide +kernel) ⟨(Nat.le_of_ble_eq_true rfl), (Nat.le_of_ble_eq_true rfl)⟩, rfl, G.2.2.2.2 (Cond.instanceMethod yX10_init) (by decide +kernel)⟩ (py_preS hw) rfl rfl hl.1 rfl (lv_room (Nat.le_of_ble_eq_true rfl)) dX11_init_20 ⟨(Nat.le_of_ble_eq_true rfl), (Nat.le_of_ble_eq_true rfl)⟩) (fun L_32 f_33 H_34 locs hp_35 hw => ?_)
  obtain ⟨itm_38, dr_39, xd_40, h_41, h_42, hl_43, x_37⟩ := hp_35
  have h_20 := h_20.ext x_37 ne_29
  have h_16 := h_16.ext x_37 ne_30
  have h_17 := h_17.ext x_37 ne_31
  refine py_putF (C := RX11) (T := TX11) (N := 16) (k := 1) (v := .ref q_22) (fs' := [.ref q_1, .ref q_22, .null, .null, .null, .null, .null, .null, .null, .null, .null, .null, .null, .int 0, .int 0, .int 0]) (ty0 := tyX11) G hin hw tyX11_ok nmX11 in_X11_init_X11 rfl h_20 (by decide) (by decide +kernel) rfl rfl rfl rfl rfl (Nat.le_of_ble_eq_true rfl) rfl dX11_init_23 (fun f_44 H_45 locs h_46 x_47 hw => ?_)
  have h_16 := h_16.ext x_47 (Ne.symm ne_8)
  have h_17 := h_17.ext x_47 (Ne.symm (py_ne_arr h_20 h_17))
  have h_41 := h_41.ext x_47 (Ne.symm ne_29)
  have h_42 := h_42.ext x_47 (py_ne_kind h_42 h_20 (by decide))
  refine lv_aload_n G.1 G.2.1 dX11_init_26 rfl (lv_at hl 0 rfl) ?_
  refine py_new (C := RX4) (T := TX4) (N := 1) (ci := 4) (fs := [.null]) (ty0 := tyX4) G hw tyX4_ok in_X11_init_X4 rfl (by decide +kernel) (by decide +kernel) (by decide +kernel) (fun j hj => match j, hj with | 0, _ => rfl | n + 1, h => absurd h (by omega)) (Nat.le_of_ble_eq_true rfl) (Nat.le_of_ble_eq_true rfl) dX11_init_27 (fun q_48 L_49 f_50 H_51 hq_52 h_53 x_54 hw => ?_)
  have ne_55 : h ≠ q_48 := py_ne_new h_46 hq_52
  have h_46 := h_46.all x_54
  have ne_56 : q_1 ≠ q_48 := py_ne_new h_16 hq_52
  have h_16 := h_16.all x_54
  have ne_57 : byt_15 ≠ q_48 := py_ne_new h_17 hq_52
  have h_17 := h_17.all x_54
  have ne_58 : q_22 ≠ q_48 := py_ne_new h_41 hq_52
  have h_41 := h_41.all x_54
  have ne_59 : dr_39 ≠ q_48 := py_ne_new h_42 hq_52
  have h_42 := h_42.all x_54
  refine lv_dup G.1 G.2.1 dX11_init_30 rfl ?_
  refine py_callv hw (va_runIN (As := []) (rest := [.ref q_48, .ref h]) G (c_X4_init l E L_49 f_50 H_51.size q_48 h_53) ⟨va_cnB 0 G.2.2.2.2 g_X11_init_X4_init_25 rfl rfl rfl (hw.1.2.2 (RX11, 25, yX4_init) (List.mem_of_getElem? (i := 3) rfl)) (G.2.2.2.2 (Cond.initialized RX4) (by decide +kernel)) (by decide +kernel) ⟨(Nat.le_of_ble_eq_true rfl), (Nat.le_of_ble_eq_true rfl)⟩, rfl, G.2.2.2.2 (Cond.instanceMethod yX4_init) (by decide +kernel)⟩ (py_preS hw) rfl rfl hl.1 rfl (lv_room (Nat.le_of_ble_eq_true rfl)) dX11_init_31 ⟨(Nat.le_of_ble_eq_true rfl), (Nat.le_of_ble_eq_true rfl)⟩) (fun L_60 f_61 H_62 locs hp_63 hw => ?_)
  obtain ⟨dl_66, xl_67, h_68, h_69, hl_70, x_65⟩ := hp_63
  have h_46 := h_46.ext x_65 ne_55
  have h_16 := h_16.ext x_65 ne_56
  have h_17 := h_17.ext x_65 ne_57
  have h_41 := h_41.ext x_65 ne_58
  have h_42 := h_42.ext x_65 ne_59
  refine py_putF (C := RX11) (T := TX11) (N := 16) (k := 2) (v := .ref q_48) (fs' := [.ref q_1, .ref q_22, .ref q_48, .null, .null, .null, .null, .null, .null, .null, .null, .null, .null, .int 0, .int 0, .int 0]) (ty0 := tyX11) G hin hw tyX11_ok nmX11 in_X11_init_X11 rfl h_46 (by decide) (by decide +kernel) rfl rfl rfl rfl rfl (Nat.le_of_ble_eq_true rfl) rfl dX11_init_34 (fun f_71 H_72 locs h_73 x_74 hw => ?_)
  have h_16 := h_16.ext x_74 (Ne.symm ne_8)
  have h_17 := h_17.ext x_74 (Ne.symm (py_ne_arr h_46 h_17))
  have h_41 := h_41.ext x_74 (Ne.symm ne_29)
  have h_42 := h_42.ext x_74 (py_ne_kind h_42 h_46 (by decide))
  have h_68 := h_68.ext x_74 (Ne.symm ne_55)
  have h_69 := h_69.ext x_74 (py_ne_kind h_69 h_46 (by decide))
  refine lv_aload_n G.1 G.2.1 dX11_init_37 rfl (lv_at hl 0 rfl) ?_
  refine lv_iconst (v := 4) G.1 G.2.1 dX11_init_38 (by decide) ?_
  refine py_newR (N := 4) G hw (by decide +kernel) (by decide) (by decide) (Nat.le_of_ble_eq_true rfl) (Nat.le_of_ble_eq_true rfl) (Nat.le_of_ble_eq_true rfl) dX11_init_39 (fun q_75 L_76 f_77 H_78 hq_79 h_80 x_81 hw => ?_)
  have ne_82 : h ≠ q_75 := py_ne_new h_73 hq_79
  have h_73 := h_73.all x_81
  have ne_83 : q_1 ≠ q_75 := py_ne_new h_16 hq_79
  have h_16 := h_16.all x_81
  have ne_84 : byt_15 ≠ q_75 := py_ne_new h_17 hq_79
  have h_17 := h_17.all x_81
  have ne_85 : q_22 ≠ q_75 := py_ne_new h_41 hq_79
  have h_41 := h_41.all x_81
  have ne_86 : dr_39 ≠ q_75 := py_ne_new h_42 hq_79
  have h_42 := h_42.all x_81
  have ne_87 : q_48 ≠ q_75 := py_ne_new h_68 hq_79
  have h_68 := h_68.all x_81
  have ne_88 : dl_66 ≠ q_75 := py_ne_new h_69 hq_79
  have h_69 := h_69.all x_81
  refine py_putF (C := RX11) (T := TX11) (N := 16) (k := 3) (v := .ref q_75) (fs' := [.ref q_1, .ref q_22, .ref q_48, .ref q_75, .null, .null, .null, .null, .null, .null, .null, .null, .null, .int 0, .int 0, .int 0]) (ty0 := tyX11) G hin hw tyX11_ok nmX11 in_X11_init_X11 rfl h_73 (by decide) (by decide +kernel) rfl rfl rfl rfl rfl (Nat.le_of_ble_eq_true rfl) rfl dX11_init_42 (fun f_89 H_90 locs h_91 x_92 hw => ?_)
  have h_16 := h_16.ext x_92 (Ne.symm ne_8)
  have h_17 := h_17.ext x_92 (Ne.symm (py_ne_arr h_73 h_17))
  have h_41 := h_41.ext x_92 (Ne.symm ne_29)
  have h_42 := h_42.ext x_92 (py_ne_kind h_42 h_73 (by decide))
  have h_68 := h_68.ext x_92 (Ne.symm ne_55)
  have h_69 := h_69.ext x_92 (py_ne_kind h_69 h_73 (by decide))
  refine lv_aload_n G.1 G.2.1 dX11_init_45 rfl (lv_at hl 0 rfl) ?_
  refine py_callr hw (va_runS (As := []) (rest := [.ref h]) G (c_X3_bornLessDead l E L_76 f_89 H_90.size ) (va_cwS 0 G.2.2.2.2 g_X11_init_X3_bornLessDead_36 rfl rfl rfl (by decide +kernel) ⟨(Nat.le_of_ble_eq_true rfl), (Nat.le_of_ble_eq_true rfl)⟩) (py_preS hw) rfl rfl hl.1 rfl (lv_room (Nat.le_of_ble_eq_true rfl)) dX11_init_46 ⟨(Nat.le_of_ble_eq_true rfl), (Nat.le_of_ble_eq_true rfl)⟩) (fun r_97 L_93 f_94 H_95 locs hp_96 hw => ?_)
  have h_91 := h_91.all hp_96
  have h_16 := h_16.all hp_96
  have h_17 := h_17.all hp_96
  have h_41 := h_41.all hp_96
  have h_42 := h_42.all hp_96
  have h_68 := h_68.all hp_96
  have h_69 := h_69.all hp_96
  refine py_putF (C := RX11) (T := TX11) (N := 16) (k := 4) (v := .ref r_97) (fs' := [.ref q_1, .ref q_22, .ref q_48, .ref q_75, .ref r_97, .null, .null, .null, .null, .null, .null, .null, .null, .int 0, .int 0, .int 0]) (ty0 := tyX11) G hin hw tyX11_ok nmX11 in_X11_init_X11 rfl h_91 (by decide) (by decide +kernel) rfl rfl rfl rfl rfl (Nat.le_of_ble_eq_true rfl) rfl dX11_init_49 (fun f_98 H_99 locs h_100 x_101 hw => ?_)
  have h_16 := h_16.ext x_101 (Ne.symm ne_8)
  have h_17 := h_17.ext x_101 (Ne.symm (py_ne_arr h_91 h_17))
  have h_41 := h_41.ext x_101 (Ne.symm ne_29)
  have h_42 := h_42.ext x_101 (py_ne_kind h_42 h_91 (by decide))
  have h_68 := h_68.ext x_101 (Ne.symm ne_55)
  have h_69 := h_69.ext x_101 (py_ne_kind h_69 h_91 (by decide))
  refine lv_aload_n G.1 G.2.1 dX11_init_52 rfl (lv_at hl 0 rfl) ?_
  refine py_new (C := RX2) (T := TX2) (N := 12) (ci := 2) (fs := [.null, .null, .null, .null, .null, .null, .null, .null, .null, .null, .long 0, .int 0]) (ty0 := tyX2) G hw tyX2_ok in_X11_init_X2 rfl (by decide +kernel) (by decide +kernel) (by decide +kernel) (fun j hj => match j, hj with | 0, _ => rfl | 1, _ => rfl | 2, _ => rfl | 3, _ => rfl | 4, _ => rfl | 5, _ => rfl | 6, _ => rfl | 7, _ => rfl | 8, _ => rfl | 9, _ => rfl | 10, _ => rfl | 11, _ => rfl | n + 12, h => absurd h (by omega)) (Nat.le_of_ble_eq_true rfl) (Nat.le_of_ble_eq_true rfl) dX11_init_53 (fun q_102 L_103 f_104 H_105 hq_106 h_107 x_108 hw => ?_)
  have ne_109 : h ≠ q_102 := py_ne_new h_100 hq_106
  have h_100 := h_100.all x_108
  have ne_110 : q_1 ≠ q_102 := py_ne_new h_16 hq_106
  have h_16 := h_16.all x_108
  have ne_111 : byt_15 ≠ q_102 := py_ne_new h_17 hq_106
  have h_17 := h_17.all x_108
  have ne_112 : q_22 ≠ q_102 := py_ne_new h_41 hq_106
  have h_41 := h_41.all x_108
  have ne_113 : dr_39 ≠ q_102 := py_ne_new h_42 hq_106
  have h_42 := h_42.all x_108
  have ne_114 : q_48 ≠ q_102 := py_ne_new h_68 hq_106
  have h_68 := h_68.all x_108
  have ne_115 : dl_66 ≠ q_102 := py_ne_new h_69 hq_106
  have h_69 := h_69.all x_108
  refine lv_dup G.1 G.2.1 dX11_init_56 rfl ?_
  refine py_callv hw (va_runIN (As := []) (rest := [.ref q_102, .ref h]) G (c_X2_init l E L_103 f_104 H_105.size q_102 h_107) ⟨va_cnB 0 G.2.2.2.2 g_X11_init_X2_init_46 rfl rfl rfl (hw.1.2.2 (RX11, 46, yX2_init) (List.mem_of_getElem? (i := 5) rfl)) (G.2.2.2.2 (Cond.initialized RX2) (by decide +kernel)) (by decide +kernel) ⟨(Nat.le_of_ble_eq_true rfl), (Nat.le_of_ble_eq_true rfl)⟩, rfl, G.2.2.2.2 (Cond.instanceMethod yX2_init) (by decide +kernel)⟩ (py_preS hw) rfl rfl hl.1 rfl (lv_room (Nat.le_of_ble_eq_true rfl)) dX11_init_57 ⟨(Nat.le_of_ble_eq_true rfl), (Nat.le_of_ble_eq_true rfl)⟩) (fun L_116 f_117 H_118 locs hp_119 hw => ?_)
  obtain ⟨xs_122, va_123, xv_124, h_125, hp_127, hp_128, hp_129, h_126, hp_130, hp_131, hp_132, x_121⟩ := hp_119
  have h_100 := h_100.ext x_121 ne_109
  have h_16 := h_16.ext x_121 ne_110
  have h_17 := h_17.ext x_121 ne_111
  have h_41 := h_41.ext x_121 ne_112
  have h_42 := h_42.ext x_121 ne_113
  have h_68 := h_68.ext x_121 ne_114
  have h_69 := h_69.ext x_121 ne_115
  refine py_putF (C := RX11) (T := TX11) (N := 16) (k := 5) (v := .ref q_102) (fs' := [.ref q_1, .ref q_22, .ref q_48, .ref q_75, .ref r_97, .ref q_102, .null, .null, .null, .null, .null, .null, .null, .int 0, .int 0, .int 0]) (ty0 := tyX11) G hin hw tyX11_ok nmX11 in_X11_init_X11 rfl h_100 (by decide) (by decide +kernel) rfl rfl rfl rfl rfl (Nat.le_of_ble_eq_true rfl) rfl dX11_init_60 (fun f_133 H_134 locs h_135 x_136 hw => ?_)
  have h_16 := h_16.ext x_136 (Ne.symm ne_8)
  have h_17 := h_17.ext x_136 (Ne.symm (py_ne_arr h_100 h_17))
  have h_41 := h_41.ext x_136 (Ne.symm ne_29)
  have h_42 := h_42.ext x_136 (py_ne_kind h_42 h_100 (by decide))
  have h_68 := h_68.ext x_136 (Ne.symm ne_55)
  have h_69 := h_69.ext x_136 (py_ne_kind h_69 h_100 (by decide))
  have h_125 := h_125.ext x_136 (Ne.symm ne_109)
  have h_126 := h_126.ext x_136 (py_ne_kind h_126 h_100 (by decide))
  refine lv_aload_n G.1 G.2.1 dX11_init_63 rfl (lv_at hl 0 rfl) ?_
  refine py_new (C := RX2) (T := TX2) (N := 12) (ci := 2) (fs := [.null, .null, .null, .null, .null, .null, .null, .null, .null, .null, .long 0, .int 0]) (ty0 := tyX2) G hw tyX2_ok in_X11_init_X2 rfl (by decide +kernel) (by decide +kernel) (by decide +kernel) (fun j hj => match j, hj with | 0, _ => rfl | 1, _ => rfl | 2, _ => rfl | 3, _ => rfl | 4, _ => rfl | 5, _ => rfl | 6, _ => rfl | 7, _ => rfl | 8, _ => rfl | 9, _ => rfl | 10, _ => rfl | 11, _ => rfl | n + 12, h => absurd h (by omega)) (Nat.le_of_ble_eq_true rfl) (Nat.le_of_ble_eq_true rfl) dX11_init_64 (fun q_137 L_138 f_139 H_140 hq_141 h_142 x_143 hw => ?_)
  have ne_144 : h ≠ q_137 := py_ne_new h_135 hq_141
  have h_135 := h_135.all x_143
  have ne_145 : q_1 ≠ q_137 := py_ne_new h_16 hq_141
  have h_16 := h_16.all x_143
  have ne_146 : byt_15 ≠ q_137 := py_ne_new h_17 hq_141
  have h_17 := h_17.all x_143
  have ne_147 : q_22 ≠ q_137 := py_ne_new h_41 hq_141
  have h_41 := h_41.all x_143
  have ne_148 : dr_39 ≠ q_137 := py_ne_new h_42 hq_141
  have h_42 := h_42.all x_143
  have ne_149 : q_48 ≠ q_137 := py_ne_new h_68 hq_141
  have h_68 := h_68.all x_143
  have ne_150 : dl_66 ≠ q_137 := py_ne_new h_69 hq_141
  have h_69 := h_69.all x_143
  have ne_151 : q_102 ≠ q_137 := py_ne_new h_125 hq_141
  have h_125 := h_125.all x_143
  have ne_152 : va_123 ≠ q_137 := py_ne_new h_126 hq_141
  have h_126 := h_126.all x_143
  refine lv_dup G.1 G.2.1 dX11_init_67 rfl ?_
  refine py_callv hw (va_runIN (As := []) (rest := [.ref q_137, .ref h]) G (c_X2_init l E L_138 f_139 H_140.size q_137 h_142) ⟨va_cnB 0 G.2.2.2.2 g_X11_init_X2_init_46 rfl rfl rfl (hw.1.2.2 (RX11, 46, yX2_init) (List.mem_of_getElem? (i := 5) rfl)) (G.2.2.2.2 (Cond.initialized RX2) (by decide +kernel)) (by decide +kernel) ⟨(Nat.le_of_ble_eq_true rfl), (Nat.le_of_ble_eq_true rfl)⟩, rfl, G.2.2.2.2 (Cond.instanceMethod yX2_init) (by decide +kernel)⟩ (py_preS hw) rfl rfl hl.1 rfl (lv_room (Nat.le_of_ble_eq_true rfl)) dX11_init_68 ⟨(Nat.le_of_ble_eq_true rfl), (Nat.le_of_ble_eq_true rfl)⟩) (fun L_153 f_154 H_155 locs hp_156 hw => ?_)
  obtain ⟨xs_159, va_160, xv_161, h_162, hp_164, hp_165, hp_166, h_163, hp_167, hp_168, hp_169, x_158⟩ := hp_156
  have h_135 := h_135.ext x_158 ne_144
  have h_16 := h_16.ext x_158 ne_145
  have h_17 := h_17.ext x_158 ne_146
  have h_41 := h_41.ext x_158 ne_147
  have h_42 := h_42.ext x_158 ne_148
  have h_68 := h_68.ext x_158 ne_149
  have h_69 := h_69.ext x_158 ne_150
  have h_125 := h_125.ext x_158 ne_151
  have h_126 := h_126.ext x_158 ne_152
  refine py_putF (C := RX11) (T := TX11) (N := 16) (k := 6) (v := .ref q_137) (fs' := [.ref q_1, .ref q_22, .ref q_48, .ref q_75, .ref r_97, .ref q_102, .ref q_137, .null, .null, .null, .null, .null, .null, .int 0, .int 0, .int 0]) (ty0 := tyX11) G hin hw tyX11_ok nmX11 in_X11_init_X11 rfl h_135 (by decide) (by decide +kernel) rfl rfl rfl rfl rfl (Nat.le_of_ble_eq_true rfl) rfl dX11_init_71 (fun f_170 H_171 locs h_172 x_173 hw => ?_)
  have h_16 := h_16.ext x_173 (Ne.symm ne_8)
  have h_17 := h_17.ext x_173 (Ne.symm (py_ne_arr h_135 h_17))
  have h_41 := h_41.ext x_173 (Ne.symm ne_29)
  have h_42 := h_42.ext x_173 (py_ne_kind h_42 h_135 (by decide))
  have h_68 := h_68.ext x_173 (Ne.symm ne_55)
  have h_69 := h_69.ext x_173 (py_ne_kind h_69 h_135 (by decide))
  have h_125 := h_125.ext x_173 (Ne.symm ne_109)
  have h_126 := h_126.ext x_173 (py_ne_kind h_126 h_135 (by decide))
  have h_162 := h_162.ext x_173 (Ne.symm ne_144)
  have h_163 := h_163.ext x_173 (py_ne_kind h_163 h_135 (by decide))
  refine lv_aload_n G.1 G.2.1 dX11_init_74 rfl (lv_at hl 0 rfl) ?_
  refine py_new (C := RX2) (T := TX2) (N := 12) (ci := 2) (fs := [.null, .null, .null, .null, .null, .null, .null, .null, .null, .null, .long 0, .int 0]) (ty0 := tyX2) G hw tyX2_ok in_X11_init_X2 rfl (by decide +kernel) (by decide +kernel) (by decide +kernel) (fun j hj => match j, hj with | 0, _ => rfl | 1, _ => rfl | 2, _ => rfl | 3, _ => rfl | 4, _ => rfl | 5, _ => rfl | 6, _ => rfl | 7, _ => rfl | 8, _ => rfl | 9, _ => rfl | 10, _ => rfl | 11, _ => rfl | n + 12, h => absurd h (by omega)) (Nat.le_of_ble_eq_true rfl) (Nat.le_of_ble_eq_true rfl) dX11_init_75 (fun q_174 L_175 f_176 H_177 hq_178 h_179 x_180 hw => ?_)
  have ne_181 : h ≠ q_174 := py_ne_new h_172 hq_178
  have h_172 := h_172.all x_180
  have ne_182 : q_1 ≠ q_174 := py_ne_new h_16 hq_178
  have h_16 := h_16.all x_180
  have ne_183 : byt_15 ≠ q_174 := py_ne_new h_17 hq_178
  have h_17 := h_17.all x_180
  have ne_184 : q_22 ≠ q_174 := py_ne_new h_41 hq_178
  have h_41 := h_41.all x_180
  have ne_185 : dr_39 ≠ q_174 := py_ne_new h_42 hq_178
  have h_42 := h_42.all x_180
  have ne_186 : q_48 ≠ q_174 := py_ne_new h_68 hq_178
  have h_68 := h_68.all x_180
  have ne_187 : dl_66 ≠ q_174 := py_ne_new h_69 hq_178
  have h_69 := h_69.all x_180
  have ne_188 : q_102 ≠ q_174 := py_ne_new h_125 hq_178
  have h_125 := h_125.all x_180
  have ne_189 : va_123 ≠ q_174 := py_ne_new h_126 hq_178
  have h_126 := h_126.all x_180
  have ne_190 : q_137 ≠ q_174 := py_ne_new h_162 hq_178
  have h_162 := h_162.all x_180
  have ne_191 : va_160 ≠ q_174 := py_ne_new h_163 hq_178
  have h_163 := h_163.all x_180
  refine lv_dup G.1 G.2.1 dX11_init_78 rfl ?_
  refine py_callv hw (va_runIN (As := []) (rest := [.ref q_174, .ref h]) G (c_X2_init l E L_175 f_176 H_177.size q_174 h_179) ⟨va_cnB 0 G.2.2.2.2 g_X11_init_X2_init_46 rfl rfl rfl (hw.1.2.2 (RX11, 46, yX2_init) (List.mem_of_getElem? (i := 5) rfl)) (G.2.2.2.2 (Cond.initialized RX2) (by decide +kernel)) (by decide +kernel) ⟨(Nat.le_of_ble_eq_true rfl), (Nat.le_of_ble_eq_true rfl)⟩, rfl, G.2.2.2.2 (Cond.instanceMethod yX2_init) (by decide +kernel)⟩ (py_preS hw) rfl rfl hl.1 rfl (lv_room (Nat.le_of_ble_eq_true rfl)) dX11_init_79 ⟨(Nat.le_of_ble_eq_true rfl), (Nat.le_of_ble_eq_true rfl)⟩) (fun L_192 f_193 H_194 locs hp_195 hw => ?_)
  obtain ⟨xs_198, va_199, xv_200, h_201, hp_203, hp_204, hp_205, h_202, hp_206, hp_207, hp_208, x_197⟩ := hp_195
  have h_172 := h_172.ext x_197 ne_181
  have h_16 := h_16.ext x_197 ne_182
  have h_17 := h_17.ext x_197 ne_183
  have h_41 := h_41.ext x_197 ne_184
  have h_42 := h_42.ext x_197 ne_185
  have h_68 := h_68.ext x_197 ne_186
  have h_69 := h_69.ext x_197 ne_187
  have h_125 := h_125.ext x_197 ne_188
  have h_126 := h_126.ext x_197 ne_189
  have h_162 := h_162.ext x_197 ne_190
  have h_163 := h_163.ext x_197 ne_191
  refine py_putF (C := RX11) (T := TX11) (N := 16) (k := 7) (v := .ref q_174) (fs' := [.ref q_1, .ref q_22, .ref q_48, .ref q_75, .ref r_97, .ref q_102, .ref q_137, .ref q_174, .null, .null, .null, .null, .null, .int 0, .int 0, .int 0]) (ty0 := tyX11) G hin hw tyX11_ok nmX11 in_X11_init_X11 rfl h_172 (by decide) (by decide +kernel) rfl rfl rfl rfl rfl (Nat.le_of_ble_eq_true rfl) rfl dX11_init_82 (fun f_209 H_210 locs h_211 x_212 hw => ?_)
  have h_16 := h_16.ext x_212 (Ne.symm ne_8)
  have h_17 := h_17.ext x_212 (Ne.symm (py_ne_arr h_172 h_17))
  have h_41 := h_41.ext x_212 (Ne.symm ne_29)
  have h_42 := h_42.ext x_212 (py_ne_kind h_42 h_172 (by decide))
  have h_68 := h_68.ext x_212 (Ne.symm ne_55)
  have h_69 := h_69.ext x_212 (py_ne_kind h_69 h_172 (by decide))
  have h_125 := h_125.ext x_212 (Ne.symm ne_109)
  have h_126 := h_126.ext x_212 (py_ne_kind h_126 h_172 (by decide))
  have h_162 := h_162.ext x_212 (Ne.symm ne_144)
  have h_163 := h_163.ext x_212 (py_ne_kind h_163 h_172 (by decide))
  have h_201 := h_201.ext x_212 (Ne.symm ne_181)
  have h_202 := h_202.ext x_212 (py_ne_kind h_202 h_172 (by decide))
  refine lv_aload_n G.1 G.2.1 dX11_init_85 rfl (lv_at hl 0 rfl) ?_
  refine py_new (C := RX1) (T := TX1) (N := 3) (ci := 1) (fs := [.null, .null, .int 0]) (ty0 := tyX1) G hw tyX1_ok in_X11_init_X1 rfl (by decide +kernel) (by decide +kernel) (by decide +kernel) (fun j hj => match j, hj with | 0, _ => rfl | 1, _ => rfl | 2, _ => rfl | n + 3, h => absurd h (by omega)) (Nat.le_of_ble_eq_true rfl) (Nat.le_of_ble_eq_true rfl) dX11_init_86 (fun q_213 L_214 f_215 H_216 hq_217 h_218 x_219 hw => ?_)
  have ne_220 : h ≠ q_213 := py_ne_new h_211 hq_217
  have h_211 := h_211.all x_219
  have ne_221 : q_1 ≠ q_213 := py_ne_new h_16 hq_217
  have h_16 := h_16.all x_219
  have ne_222 : byt_15 ≠ q_213 := py_ne_new h_17 hq_217
  have h_17 := h_17.all x_219
  have ne_223 : q_22 ≠ q_213 := py_ne_new h_41 hq_217
  have h_41 := h_41.all x_219
  have ne_224 : dr_39 ≠ q_213 := py_ne_new h_42 hq_217
  have h_42 := h_42.all x_219
  have ne_225 : q_48 ≠ q_213 := py_ne_new h_68 hq_217
  have h_68 := h_68.all x_219
  have ne_226 : dl_66 ≠ q_213 := py_ne_new h_69 hq_217
  have h_69 := h_69.all x_219
  have ne_227 : q_102 ≠ q_213 := py_ne_new h_125 hq_217
  have h_125 := h_125.all x_219
  have ne_228 : va_123 ≠ q_213 := py_ne_new h_126 hq_217
  have h_126 := h_126.all x_219
  have ne_229 : q_137 ≠ q_213 := py_ne_new h_162 hq_217
  have h_162 := h_162.all x_219
  have ne_230 : va_160 ≠ q_213 := py_ne_new h_163 hq_217
  have h_163 := h_163.all x_219
  have ne_231 : q_174 ≠ q_213 := py_ne_new h_201 hq_217
  have h_201 := h_201.all x_219
  have ne_232 : va_199 ≠ q_213 := py_ne_new h_202 hq_217
  have h_202 := h_202.all x_219
  refine lv_dup G.1 G.2.1 dX11_init_89 rfl ?_
  refine py_callv hw (va_runIN (As := []) (rest := [.ref q_213, .ref h]) G (c_X1_init l E L_214 f_215 H_216.size q_213 h_218) ⟨va_cnB 0 G.2.2.2.2 g_X11_init_X1_init_59 rfl rfl rfl (hw.1.2.2 (RX11, 59, yX1_init) (List.mem_of_getElem? (i := 7) rfl)) (G.2.2.2.2 (Cond.initialized RX1) (by decide +kernel)) (by decide +kernel) ⟨(Nat.le_of_ble_eq_true rfl), (Nat.le_of_ble_eq_true rfl)⟩, rfl, G.2.2.2.2 (Cond.instanceMethod yX1_init) (by decide +kernel)⟩ (py_preS hw) rfl rfl hl.1 rfl (lv_room (Nat.le_of_ble_eq_true rfl)) dX11_init_90 ⟨(Nat.le_of_ble_eq_true rfl), (Nat.le_of_ble_eq_true rfl)⟩) (fun L_233 f_234 H_235 locs hp_236 hw => ?_)
  obtain ⟨xs_239, h_240, hl_241, hp_242, x_238⟩ := hp_236
  have h_211 := h_211.ext x_238 ne_220
  have h_16 := h_16.ext x_238 ne_221
  have h_17 := h_17.ext x_238 ne_222
  have h_41 := h_41.ext x_238 ne_223
  have h_42 := h_42.ext x_238 ne_224
  have h_68 := h_68.ext x_238 ne_225
  have h_69 := h_69.ext x_238 ne_226
  have h_125 := h_125.ext x_238 ne_227
  have h_126 := h_126.ext x_238 ne_228
  have h_162 := h_162.ext x_238 ne_229
  have h_163 := h_163.ext x_238 ne_230
  have h_201 := h_201.ext x_238 ne_231
  have h_202 := h_202.ext x_238 ne_232
  refine py_putF (C := RX11) (T := TX11) (N := 16) (k := 8) (v := .ref q_213) (fs' := [.ref q_1, .ref q_22, .ref q_48, .ref q_75, .ref r_97, .ref q_102, .ref q_137, .ref q_174, .ref q_213, .null, .null, .null, .null, .int 0, .int 0, .int 0]) (ty0 := tyX11) G hin hw tyX11_ok nmX11 in_X11_init_X11 rfl h_211 (by decide) (by decide +kernel) rfl rfl rfl rfl rfl (Nat.le_of_ble_eq_true rfl) rfl dX11_init_93 (fun f_243 H_244 locs h_245 x_246 hw => ?_)
  have h_16 := h_16.ext x_246 (Ne.symm ne_8)
  have h_17 := h_17.ext x_246 (Ne.symm (py_ne_arr h_211 h_17))
  have h_41 := h_41.ext x_246 (Ne.symm ne_29)
  have h_42 := h_42.ext x_246 (py_ne_kind h_42 h_211 (by decide))
  have h_68 := h_68.ext x_246 (Ne.symm ne_55)
  have h_69 := h_69.ext x_246 (py_ne_kind h_69 h_211 (by decide))
  have h_125 := h_125.ext x_246 (Ne.symm ne_109)
  have h_126 := h_126.ext x_246 (py_ne_kind h_126 h_211 (by decide))
  have h_162 := h_162.ext x_246 (Ne.symm ne_144)
  have h_163 := h_163.ext x_246 (py_ne_kind h_163 h_211 (by decide))
  have h_201 := h_201.ext x_246 (Ne.symm ne_181)
  have h_202 := h_202.ext x_246 (py_ne_kind h_202 h_211 (by decide))
  have h_240 := h_240.ext x_246 (Ne.symm ne_220)
  refine lv_aload_n G.1 G.2.1 dX11_init_96 rfl (lv_at hl 0 rfl) ?_
  refine py_new (C := RX0) (T := TX0) (N := 5) (ci := 0) (fs := [.null, .null, .null, .int 0, .int 0]) (ty0 := tyX0) G hw tyX0_ok in_X11_init_X0 rfl (by decide +kernel) (by decide +kernel) (by decide +kernel) (fun j hj => match j, hj with | 0, _ => rfl | 1, _ => rfl | 2, _ => rfl | 3, _ => rfl | 4, _ => rfl | n + 5, h => absurd h (by omega)) (Nat.le_of_ble_eq_true rfl) (Nat.le_of_ble_eq_true rfl) dX11_init_97 (fun q_247 L_248 f_249 H_250 hq_251 h_252 x_253 hw => ?_)
  have ne_254 : h ≠ q_247 := py_ne_new h_245 hq_251
  have h_245 := h_245.all x_253
  have ne_255 : q_1 ≠ q_247 := py_ne_new h_16 hq_251
  have h_16 := h_16.all x_253
  have ne_256 : byt_15 ≠ q_247 := py_ne_new h_17 hq_251
  have h_17 := h_17.all x_253
  have ne_257 : q_22 ≠ q_247 := py_ne_new h_41 hq_251
  have h_41 := h_41.all x_253
  have ne_258 : dr_39 ≠ q_247 := py_ne_new h_42 hq_251
  have h_42 := h_42.all x_253
  have ne_259 : q_48 ≠ q_247 := py_ne_new h_68 hq_251
  have h_68 := h_68.all x_253
  have ne_260 : dl_66 ≠ q_247 := py_ne_new h_69 hq_251
  have h_69 := h_69.all x_253
  have ne_261 : q_102 ≠ q_247 := py_ne_new h_125 hq_251
  have h_125 := h_125.all x_253
  have ne_262 : va_123 ≠ q_247 := py_ne_new h_126 hq_251
  have h_126 := h_126.all x_253
  have ne_263 : q_137 ≠ q_247 := py_ne_new h_162 hq_251
  have h_162 := h_162.all x_253
  have ne_264 : va_160 ≠ q_247 := py_ne_new h_163 hq_251
  have h_163 := h_163.all x_253
  have ne_265 : q_174 ≠ q_247 := py_ne_new h_201 hq_251
  have h_201 := h_201.all x_253
  have ne_266 : va_199 ≠ q_247 := py_ne_new h_202 hq_251
  have h_202 := h_202.all x_253
  have ne_267 : q_213 ≠ q_247 := py_ne_new h_240 hq_251
  have h_240 := h_240.all x_253
  refine lv_dup G.1 G.2.1 dX11_init_100 rfl ?_
  refine py_callv hw (va_runIN (As := []) (rest := [.ref q_247, .ref h]) G (c_X0_init l E L_248 f_249 H_250.size q_247 h_252) ⟨va_cnB 0 G.2.2.2.2 g_X11_init_X0_init_66 rfl rfl rfl (hw.1.2.2 (RX11, 66, yX0_init) (List.mem_of_getElem? (i := 8) rfl)) (G.2.2.2.2 (Cond.initialized RX0) (by decide +kernel)) (by decide +kernel) ⟨(Nat.le_of_ble_eq_true rfl), (Nat.le_of_ble_eq_true rfl)⟩, rfl, G.2.2.2.2 (Cond.instanceMethod yX0_init) (by decide +kernel)⟩ (py_preS hw) rfl rfl hl.1 rfl (lv_room (Nat.le_of_ble_eq_true rfl)) dX11_init_101 ⟨(Nat.le_of_ble_eq_true rfl), (Nat.le_of_ble_eq_true rfl)⟩) (fun L_268 f_269 H_270 locs hp_271 hw => ?_)
  obtain ⟨xs_274, h_275, hl_276, hp_277, x_273⟩ := hp_271
  have h_245 := h_245.ext x_273 ne_254
  have h_16 := h_16.ext x_273 ne_255
  have h_17 := h_17.ext x_273 ne_256
  have h_41 := h_41.ext x_273 ne_257
  have h_42 := h_42.ext x_273 ne_258
  have h_68 := h_68.ext x_273 ne_259
  have h_69 := h_69.ext x_273 ne_260
  have h_125 := h_125.ext x_273 ne_261
  have h_126 := h_126.ext x_273 ne_262
  have h_162 := h_162.ext x_273 ne_263
  have h_163 := h_163.ext x_273 ne_264
  have h_201 := h_201.ext x_273 ne_265
  have h_202 := h_202.ext x_273 ne_266
  have h_240 := h_240.ext x_273 ne_267
  refine py_putF (C := RX11) (T := TX11) (N := 16) (k := 9) (v := .ref q_247) (fs' := [.ref q_1, .ref q_22, .ref q_48, .ref q_75, .ref r_97, .ref q_102, .ref q_137, .ref q_174, .ref q_213, .ref q_247, .null, .null, .null, .int 0, .int 0, .int 0]) (ty0 := tyX11) G hin hw tyX11_ok nmX11 in_X11_init_X11 rfl h_245 (by decide) (by decide +kernel) rfl rfl rfl rfl rfl (Nat.le_of_ble_eq_true rfl) rfl dX11_init_104 (fun f_278 H_279 locs h_280 x_281 hw => ?_)
  have h_16 := h_16.ext x_281 (Ne.symm ne_8)
  have h_17 := h_17.ext x_281 (Ne.symm (py_ne_arr h_245 h_17))
  have h_41 := h_41.ext x_281 (Ne.symm ne_29)
  have h_42 := h_42.ext x_281 (py_ne_kind h_42 h_245 (by decide))
  have h_68 := h_68.ext x_281 (Ne.symm ne_55)
  have h_69 := h_69.ext x_281 (py_ne_kind h_69 h_245 (by decide))
  have h_125 := h_125.ext x_281 (Ne.symm ne_109)
  have h_126 := h_126.ext x_281 (py_ne_kind h_126 h_245 (by decide))
  have h_162 := h_162.ext x_281 (Ne.symm ne_144)
  have h_163 := h_163.ext x_281 (py_ne_kind h_163 h_245 (by decide))
  have h_201 := h_201.ext x_281 (Ne.symm ne_181)
  have h_202 := h_202.ext x_281 (py_ne_kind h_202 h_245 (by decide))
  have h_240 := h_240.ext x_281 (Ne.symm ne_220)
  have h_275 := h_275.ext x_281 (Ne.symm ne_254)
  refine lv_aload_n G.1 G.2.1 dX11_init_107 rfl (lv_at hl 0 rfl) ?_
  refine py_new (C := RX7) (T := TX7) (N := 5) (ci := 7) (fs := [.null, .null, .null, .int 0, .int 0]) (ty0 := tyX7) G hw tyX7_ok in_X11_init_X7 rfl (by decide +kernel) (by decide +kernel) (by decide +kernel) (fun j hj => match j, hj with | 0, _ => rfl | 1, _ => rfl | 2, _ => rfl | 3, _ => rfl | 4, _ => rfl | n + 5, h => absurd h (by omega)) (Nat.le_of_ble_eq_true rfl) (Nat.le_of_ble_eq_true rfl) dX11_init_108 (fun q_282 L_283 f_284 H_285 hq_286 h_287 x_288 hw => ?_)
  have ne_289 : h ≠ q_282 := py_ne_new h_280 hq_286
  have h_280 := h_280.all x_288
  have ne_290 : q_1 ≠ q_282 := py_ne_new h_16 hq_286
  have h_16 := h_16.all x_288
  have ne_291 : byt_15 ≠ q_282 := py_ne_new h_17 hq_286
  have h_17 := h_17.all x_288
  have ne_292 : q_22 ≠ q_282 := py_ne_new h_41 hq_286
  have h_41 := h_41.all x_288
  have ne_293 : dr_39 ≠ q_282 := py_ne_new h_42 hq_286
  have h_42 := h_42.all x_288
  have ne_294 : q_48 ≠ q_282 := py_ne_new h_68 hq_286
  have h_68 := h_68.all x_288
  have ne_295 : dl_66 ≠ q_282 := py_ne_new h_69 hq_286
  have h_69 := h_69.all x_288
  have ne_296 : q_102 ≠ q_282 := py_ne_new h_125 hq_286
  have h_125 := h_125.all x_288
  have ne_297 : va_123 ≠ q_282 := py_ne_new h_126 hq_286
  have h_126 := h_126.all x_288
  have ne_298 : q_137 ≠ q_282 := py_ne_new h_162 hq_286
  have h_162 := h_162.all x_288
  have ne_299 : va_160 ≠ q_282 := py_ne_new h_163 hq_286
  have h_163 := h_163.all x_288
  have ne_300 : q_174 ≠ q_282 := py_ne_new h_201 hq_286
  have h_201 := h_201.all x_288
  have ne_301 : va_199 ≠ q_282 := py_ne_new h_202 hq_286
  have h_202 := h_202.all x_288
  have ne_302 : q_213 ≠ q_282 := py_ne_new h_240 hq_286
  have h_240 := h_240.all x_288
  have ne_303 : q_247 ≠ q_282 := py_ne_new h_275 hq_286
  have h_275 := h_275.all x_288
  refine lv_dup G.1 G.2.1 dX11_init_111 rfl ?_
  refine py_callv hw (va_runIN (As := []) (rest := [.ref q_282, .ref h]) G (c_X7_init l E L_283 f_284 H_285.size q_282 h_287) ⟨va_cnB 0 G.2.2.2.2 g_X11_init_X7_init_73 rfl rfl rfl (hw.1.2.2 (RX11, 73, yX7_init) (List.mem_of_getElem? (i := 9) rfl)) (G.2.2.2.2 (Cond.initialized RX7) (by decide +kernel)) (by decide +kernel) ⟨(Nat.le_of_ble_eq_true rfl), (Nat.le_of_ble_eq_true rfl)⟩, rfl, G.2.2.2.2 (Cond.instanceMethod yX7_init) (by decide +kernel)⟩ (py_preS hw) rfl rfl hl.1 rfl (lv_room (Nat.le_of_ble_eq_true rfl)) dX11_init_112 ⟨(Nat.le_of_ble_eq_true rfl), (Nat.le_of_ble_eq_true rfl)⟩) (fun L_304 f_305 H_306 locs hp_307 hw => ?_)
  obtain ⟨xs_310, h_311, hl_312, x_309⟩ := hp_307
  have h_280 := h_280.ext x_309 ne_289
  have h_16 := h_16.ext x_309 ne_290
  have h_17 := h_17.ext x_309 ne_291
  have h_41 := h_41.ext x_309 ne_292
  have h_42 := h_42.ext x_309 ne_293
  have h_68 := h_68.ext x_309 ne_294
  have h_69 := h_69.ext x_309 ne_295
  have h_125 := h_125.ext x_309 ne_296
  have h_126 := h_126.ext x_309 ne_297
  have h_162 := h_162.ext x_309 ne_298
  have h_163 := h_163.ext x_309 ne_299
  have h_201 := h_201.ext x_309 ne_300
  have h_202 := h_202.ext x_309 ne_301
  have h_240 := h_240.ext x_309 ne_302
  have h_275 := h_275.ext x_309 ne_303
  refine py_putF (C := RX11) (T := TX11) (N := 16) (k := 10) (v := .ref q_282) (fs' := [.ref q_1, .ref q_22, .ref q_48, .ref q_75, .ref r_97, .ref q_102, .ref q_137, .ref q_174, .ref q_213, .ref q_247, .ref q_282, .null, .null, .int 0, .int 0, .int 0]) (ty0 := tyX11) G hin hw tyX11_ok nmX11 in_X11_init_X11 rfl h_280 (by decide) (by decide +kernel) rfl rfl rfl rfl rfl (Nat.le_of_ble_eq_true rfl) rfl dX11_init_115 (fun f_313 H_314 locs h_315 x_316 hw => ?_)
  have h_16 := h_16.ext x_316 (Ne.symm ne_8)
  have h_17 := h_17.ext x_316 (Ne.symm (py_ne_arr h_280 h_17))
  have h_41 := h_41.ext x_316 (Ne.symm ne_29)
  have h_42 := h_42.ext x_316 (py_ne_kind h_42 h_280 (by decide))
  have h_68 := h_68.ext x_316 (Ne.symm ne_55)
  have h_69 := h_69.ext x_316 (py_ne_kind h_69 h_280 (by decide))
  have h_125 := h_125.ext x_316 (Ne.symm ne_109)
  have h_126 := h_126.ext x_316 (py_ne_kind h_126 h_280 (by decide))
  have h_162 := h_162.ext x_316 (Ne.symm ne_144)
  have h_163 := h_163.ext x_316 (py_ne_kind h_163 h_280 (by decide))
  have h_201 := h_201.ext x_316 (Ne.symm ne_181)
  have h_202 := h_202.ext x_316 (py_ne_kind h_202 h_280 (by decide))
  have h_240 := h_240.ext x_316 (Ne.symm ne_220)
  have h_275 := h_275.ext x_316 (Ne.symm ne_254)
  have h_311 := h_311.ext x_316 (Ne.symm ne_289)
  refine lv_aload_n G.1 G.2.1 dX11_init_118 rfl (lv_at hl 0 rfl) ?_
  refine py_new (C := RX5) (T := TX5) (N := 1) (ci := 5) (fs := [.null]) (ty0 := tyX5) G hw tyX5_ok in_X11_init_X5 rfl (by decide +kernel) (by decide +kernel) (by decide +kernel) (fun j hj => match j, hj with | 0, _ => rfl | n + 1, h => absurd h (by omega)) (Nat.le_of_ble_eq_true rfl) (Nat.le_of_ble_eq_true rfl) dX11_init_119 (fun q_317 L_318 f_319 H_320 hq_321 h_322 x_323 hw => ?_)
  have ne_324 : h ≠ q_317 := py_ne_new h_315 hq_321
  have h_315 := h_315.all x_323
  have ne_325 : q_1 ≠ q_317 := py_ne_new h_16 hq_321
  have h_16 := h_16.all x_323
  have ne_326 : byt_15 ≠ q_317 := py_ne_new h_17 hq_321
  have h_17 := h_17.all x_323
  have ne_327 : q_22 ≠ q_317 := py_ne_new h_41 hq_321
  have h_41 := h_41.all x_323
  have ne_328 : dr_39 ≠ q_317 := py_ne_new h_42 hq_321
  have h_42 := h_42.all x_323
  have ne_329 : q_48 ≠ q_317 := py_ne_new h_68 hq_321
  have h_68 := h_68.all x_323
  have ne_330 : dl_66 ≠ q_317 := py_ne_new h_69 hq_321
  have h_69 := h_69.all x_323
  have ne_331 : q_102 ≠ q_317 := py_ne_new h_125 hq_321
  have h_125 := h_125.all x_323
  have ne_332 : va_123 ≠ q_317 := py_ne_new h_126 hq_321
  have h_126 := h_126.all x_323
  have ne_333 : q_137 ≠ q_317 := py_ne_new h_162 hq_321
  have h_162 := h_162.all x_323
  have ne_334 : va_160 ≠ q_317 := py_ne_new h_163 hq_321
  have h_163 := h_163.all x_323
  have ne_335 : q_174 ≠ q_317 := py_ne_new h_201 hq_321
  have h_201 := h_201.all x_323
  have ne_336 : va_199 ≠ q_317 := py_ne_new h_202 hq_321
  have h_202 := h_202.all x_323
  have ne_337 : q_213 ≠ q_317 := py_ne_new h_240 hq_321
  have h_240 := h_240.all x_323
  have ne_338 : q_247 ≠ q_317 := py_ne_new h_275 hq_321
  have h_275 := h_275.all x_323
  have ne_339 : q_282 ≠ q_317 := py_ne_new h_311 hq_321
  have h_311 := h_311.all x_323
  refine lv_dup G.1 G.2.1 dX11_init_122 rfl ?_
  refine py_callv hw (va_runIN (As := []) (rest := [.ref q_317, .ref h]) G (c_X5_init l E L_318 f_319 H_320.size q_317 h_322) ⟨va_cnB 0 G.2.2.2.2 g_X11_init_X5_init_80 rfl rfl rfl (hw.1.2.2 (RX11, 80, yX5_init) (List.mem_of_getElem? (i := 10) rfl)) (G.2.2.2.2 (Cond.initialized RX5) (by decide +kernel)) (by decide +kernel) ⟨(Nat.le_of_ble_eq_true rfl), (Nat.le_of_ble_eq_true rfl)⟩, rfl, G.2.2.2.2 (Cond.instanceMethod yX5_init) (by decide +kernel)⟩ (py_preS hw) rfl rfl hl.1 rfl (lv_room (Nat.le_of_ble_eq_true rfl)) dX11_init_123 ⟨(Nat.le_of_ble_eq_true rfl), (Nat.le_of_ble_eq_true rfl)⟩) (fun L_340 f_341 H_342 locs hp_343 hw => ?_)
  have x_345 := hp_343
  have h_315 := h_315.ext x_345 ne_324
  have h_16 := h_16.ext x_345 ne_325
  have h_17 := h_17.ext x_345 ne_326
  have h_41 := h_41.ext x_345 ne_327
  have h_42 := h_42.ext x_345 ne_328
  have h_68 := h_68.ext x_345 ne_329
  have h_69 := h_69.ext x_345 ne_330
  have h_125 := h_125.ext x_345 ne_331
  have h_126 := h_126.ext x_345 ne_332
  have h_162 := h_162.ext x_345 ne_333
  have h_163 := h_163.ext x_345 ne_334
  have h_201 := h_201.ext x_345 ne_335
  have h_202 := h_202.ext x_345 ne_336
  have h_240 := h_240.ext x_345 ne_337
  have h_275 := h_275.ext x_345 ne_338
  have h_311 := h_311.ext x_345 ne_339
  refine py_putF (C := RX11) (T := TX11) (N := 16) (k := 11) (v := .ref q_317) (fs' := [.ref q_1, .ref q_22, .ref q_48, .ref q_75, .ref r_97, .ref q_102, .ref q_137, .ref q_174, .ref q_213, .ref q_247, .ref q_282, .ref q_317, .null, .int 0, .int 0, .int 0]) (ty0 := tyX11) G hin hw tyX11_ok nmX11 in_X11_init_X11 rfl h_315 (by decide) (by decide +kernel) rfl rfl rfl rfl rfl (Nat.le_of_ble_eq_true rfl) rfl dX11_init_126 (fun f_346 H_347 locs h_348 x_349 hw => ?_)
  have h_16 := h_16.ext x_349 (Ne.symm ne_8)
  have h_17 := h_17.ext x_349 (Ne.symm (py_ne_arr h_315 h_17))
  have h_41 := h_41.ext x_349 (Ne.symm ne_29)
  have h_42 := h_42.ext x_349 (py_ne_kind h_42 h_315 (by decide))
  have h_68 := h_68.ext x_349 (Ne.symm ne_55)
  have h_69 := h_69.ext x_349 (py_ne_kind h_69 h_315 (by decide))
  have h_125 := h_125.ext x_349 (Ne.symm ne_109)
  have h_126 := h_126.ext x_349 (py_ne_kind h_126 h_315 (by decide))
  have h_162 := h_162.ext x_349 (Ne.symm ne_144)
  have h_163 := h_163.ext x_349 (py_ne_kind h_163 h_315 (by decide))
  have h_201 := h_201.ext x_349 (Ne.symm ne_181)
  have h_202 := h_202.ext x_349 (py_ne_kind h_202 h_315 (by decide))
  have h_240 := h_240.ext x_349 (Ne.symm ne_220)
  have h_275 := h_275.ext x_349 (Ne.symm ne_254)
  have h_311 := h_311.ext x_349 (Ne.symm ne_289)
  refine lv_aload_n G.1 G.2.1 dX11_init_129 rfl (lv_at hl 0 rfl) ?_
  refine py_new (C := RX6) (T := TX6) (N := 7) (ci := 6) (fs := [.null, .null, .null, .null, .null, .null, .long 0]) (ty0 := tyX6) G hw tyX6_ok in_X11_init_X6 rfl (by decide +kernel) (by decide +kernel) (by decide +kernel) (fun j hj => match j, hj with | 0, _ => rfl | 1, _ => rfl | 2, _ => rfl | 3, _ => rfl | 4, _ => rfl | 5, _ => rfl | 6, _ => rfl | n + 7, h => absurd h (by omega)) (Nat.le_of_ble_eq_true rfl) (Nat.le_of_ble_eq_true rfl) dX11_init_130 (fun q_350 L_351 f_352 H_353 hq_354 h_355 x_356 hw => ?_)
  have ne_357 : h ≠ q_350 := py_ne_new h_348 hq_354
  have h_348 := h_348.all x_356
  have ne_358 : q_1 ≠ q_350 := py_ne_new h_16 hq_354
  have h_16 := h_16.all x_356
  have ne_359 : byt_15 ≠ q_350 := py_ne_new h_17 hq_354
  have h_17 := h_17.all x_356
  have ne_360 : q_22 ≠ q_350 := py_ne_new h_41 hq_354
  have h_41 := h_41.all x_356
  have ne_361 : dr_39 ≠ q_350 := py_ne_new h_42 hq_354
  have h_42 := h_42.all x_356
  have ne_362 : q_48 ≠ q_350 := py_ne_new h_68 hq_354
  have h_68 := h_68.all x_356
  have ne_363 : dl_66 ≠ q_350 := py_ne_new h_69 hq_354
  have h_69 := h_69.all x_356
  have ne_364 : q_102 ≠ q_350 := py_ne_new h_125 hq_354
  have h_125 := h_125.all x_356
  have ne_365 : va_123 ≠ q_350 := py_ne_new h_126 hq_354
  have h_126 := h_126.all x_356
  have ne_366 : q_137 ≠ q_350 := py_ne_new h_162 hq_354
  have h_162 := h_162.all x_356
  have ne_367 : va_160 ≠ q_350 := py_ne_new h_163 hq_354
  have h_163 := h_163.all x_356
  have ne_368 : q_174 ≠ q_350 := py_ne_new h_201 hq_354
  have h_201 := h_201.all x_356
  have ne_369 : va_199 ≠ q_350 := py_ne_new h_202 hq_354
  have h_202 := h_202.all x_356
  have ne_370 : q_213 ≠ q_350 := py_ne_new h_240 hq_354
  have h_240 := h_240.all x_356
  have ne_371 : q_247 ≠ q_350 := py_ne_new h_275 hq_354
  have h_275 := h_275.all x_356
  have ne_372 : q_282 ≠ q_350 := py_ne_new h_311 hq_354
  have h_311 := h_311.all x_356
  refine lv_dup G.1 G.2.1 dX11_init_133 rfl ?_
  refine lv_aload_n G.1 G.2.1 dX11_init_134 rfl (lv_at hl 0 rfl) ?_
  refine py_get (C := RX11) (T := TX11) (N := 16) (k := 5) (v := .ref q_102) G hw in_X11_init_X11 rfl h_348 (by decide) (by decide +kernel) rfl dX11_init_135 ?_
  refine lv_aload_n G.1 G.2.1 dX11_init_138 rfl (lv_at hl 0 rfl) ?_
  refine py_get (C := RX11) (T := TX11) (N := 16) (k := 4) (v := .ref r_97) G hw in_X11_init_X11 rfl h_348 (by decide) (by decide +kernel) rfl dX11_init_139 ?_
  refine py_callv hw (va_runI (As := [.ref q_102, .ref r_97]) (rest := [.ref q_350, .ref h]) G (c_X6_init l E L_351 f_352 H_353.size q_350 q_102 r_97 h_355) (cwI 2 G.2.2.2.2 g_X11_init_X6_init_87 rfl rfl rfl (G.2.2.2.2 (Cond.initialized RX6) (by decide +kernel)) (G.2.2.2.2 (Cond.methodLink RX11 87 yX6_init) (by decide +kernel)) (G.2.2.2.2 (Cond.instanceMethod yX6_init) (by decide +kernel)) rfl (by decide +kernel) ⟨(Nat.le_of_ble_eq_true rfl), (Nat.le_of_ble_eq_true rfl)⟩) (py_preS hw) rfl rfl hl.1 rfl (lv_room (Nat.le_of_ble_eq_true rfl)) dX11_init_142 ⟨(Nat.le_of_ble_eq_true rfl), (Nat.le_of_ble_eq_true rfl)⟩) (fun L_373 f_374 H_375 locs hp_376 hw => ?_)
  have x_378 := hp_376
  have h_348 := h_348.ext x_378 ne_357
  have h_16 := h_16.ext x_378 ne_358
  have h_17 := h_17.ext x_378 ne_359
  have h_41 := h_41.ext x_378 ne_360
  have h_42 := h_42.ext x_378 ne_361
  have h_68 := h_68.ext x_378 ne_362
  have h_69 := h_69.ext x_378 ne_363
  have h_125 := h_125.ext x_378 ne_364
  have h_126 := h_126.ext x_378 ne_365
  have h_162 := h_162.ext x_378 ne_366
  have h_163 := h_163.ext x_378 ne_367
  have h_201 := h_201.ext x_378 ne_368
  have h_202 := h_202.ext x_378 ne_369
  have h_240 := h_240.ext x_378 ne_370
  have h_275 := h_275.ext x_378 ne_371
  have h_311 := h_311.ext x_378 ne_372
  refine py_putF (C := RX11) (T := TX11) (N := 16) (k := 12) (v := .ref q_350) (fs' := [.ref q_1, .ref q_22, .ref q_48, .ref q_75, .ref r_97, .ref q_102, .ref q_137, .ref q_174, .ref q_213, .ref q_247, .ref q_282, .ref q_317, .ref q_350, .int 0, .int 0, .int 0]) (ty0 := tyX11) G hin hw tyX11_ok nmX11 in_X11_init_X11 rfl h_348 (by decide) (by decide +kernel) rfl rfl rfl rfl rfl (Nat.le_of_ble_eq_true rfl) rfl dX11_init_145 (fun f_379 H_380 locs h_381 x_382 hw => ?_)
  have h_16 := h_16.ext x_382 (Ne.symm ne_8)
  have h_17 := h_17.ext x_382 (Ne.symm (py_ne_arr h_348 h_17))
  have h_41 := h_41.ext x_382 (Ne.symm ne_29)
  have h_42 := h_42.ext x_382 (py_ne_kind h_42 h_348 (by decide))
  have h_68 := h_68.ext x_382 (Ne.symm ne_55)
  have h_69 := h_69.ext x_382 (py_ne_kind h_69 h_348 (by decide))
  have h_125 := h_125.ext x_382 (Ne.symm ne_109)
  have h_126 := h_126.ext x_382 (py_ne_kind h_126 h_348 (by decide))
  have h_162 := h_162.ext x_382 (Ne.symm ne_144)
  have h_163 := h_163.ext x_382 (py_ne_kind h_163 h_348 (by decide))
  have h_201 := h_201.ext x_382 (Ne.symm ne_181)
  have h_202 := h_202.ext x_382 (py_ne_kind h_202 h_348 (by decide))
  have h_240 := h_240.ext x_382 (Ne.symm ne_220)
  have h_275 := h_275.ext x_382 (Ne.symm ne_254)
  have h_311 := h_311.ext x_382 (Ne.symm ne_289)
  refine lv_aload_n G.1 G.2.1 dX11_init_148 rfl (lv_at hl 0 rfl) ?_
  refine lv_iconst (v := 0) G.1 G.2.1 dX11_init_149 (by decide) ?_
  refine py_put (C := RX11) (T := TX11) (N := 16) (k := 13) (v := .int 0) (fs' := [.ref q_1, .ref q_22, .ref q_48, .ref q_75, .ref r_97, .ref q_102, .ref q_137, .ref q_174, .ref q_213, .ref q_247, .ref q_282, .ref q_317, .ref q_350, .int 0, .int 0, .int 0]) (ty0 := tyX11) G hw tyX11_ok nmX11 in_X11_init_X11 rfl h_381 (by decide) (by decide +kernel) rfl rfl rfl rfl (Nat.le_of_ble_eq_true rfl) rfl dX11_init_150 (fun f_383 H_384 locs h_385 x_386 hw => ?_)
  have h_16 := h_16.ext x_386 (Ne.symm ne_8)
  have h_17 := h_17.ext x_386 (Ne.symm (py_ne_arr h_381 h_17))
  have h_41 := h_41.ext x_386 (Ne.symm ne_29)
  have h_42 := h_42.ext x_386 (py_ne_kind h_42 h_381 (by decide))
  have h_68 := h_68.ext x_386 (Ne.symm ne_55)
  have h_69 := h_69.ext x_386 (py_ne_kind h_69 h_381 (by decide))
  have h_125 := h_125.ext x_386 (Ne.symm ne_109)
  have h_126 := h_126.ext x_386 (py_ne_kind h_126 h_381 (by decide))
  have h_162 := h_162.ext x_386 (Ne.symm ne_144)
  have h_163 := h_163.ext x_386 (py_ne_kind h_163 h_381 (by decide))
  have h_201 := h_201.ext x_386 (Ne.symm ne_181)
  have h_202 := h_202.ext x_386 (py_ne_kind h_202 h_381 (by decide))
  have h_240 := h_240.ext x_386 (Ne.symm ne_220)
  have h_275 := h_275.ext x_386 (Ne.symm ne_254)
  have h_311 := h_311.ext x_386 (Ne.symm ne_289)
  refine lv_aload_n G.1 G.2.1 dX11_init_153 rfl (lv_at hl 0 rfl) ?_
  refine lv_iconst (v := (-1)) G.1 G.2.1 dX11_init_154 (by decide) ?_
  refine py_put (C := RX11) (T := TX11) (N := 16) (k := 14) (v := .int (-1)) (fs' := [.ref q_1, .ref q_22, .ref q_48, .ref q_75, .ref r_97, .ref q_102, .ref q_137, .ref q_174, .ref q_213, .ref q_247, .ref q_282, .ref q_317, .ref q_350, .int 0, .int (-1), .int 0]) (ty0 := tyX11) G hw tyX11_ok nmX11 in_X11_init_X11 rfl h_385 (by decide) (by decide +kernel) rfl rfl rfl rfl (Nat.le_of_ble_eq_true rfl) rfl dX11_init_155 (fun f_387 H_388 locs h_389 x_390 hw => ?_)
  have h_16 := h_16.ext x_390 (Ne.symm ne_8)
  have h_17 := h_17.ext x_390 (Ne.symm (py_ne_arr h_385 h_17))
  have h_41 := h_41.ext x_390 (Ne.symm ne_29)
  have h_42 := h_42.ext x_390 (py_ne_kind h_42 h_385 (by decide))
  have h_68 := h_68.ext x_390 (Ne.symm ne_55)
  have h_69 := h_69.ext x_390 (py_ne_kind h_69 h_385 (by decide))
  have h_125 := h_125.ext x_390 (Ne.symm ne_109)
  have h_126 := h_126.ext x_390 (py_ne_kind h_126 h_385 (by decide))
  have h_162 := h_162.ext x_390 (Ne.symm ne_144)
  have h_163 := h_163.ext x_390 (py_ne_kind h_163 h_385 (by decide))
  have h_201 := h_201.ext x_390 (Ne.symm ne_181)
  have h_202 := h_202.ext x_390 (py_ne_kind h_202 h_385 (by decide))
  have h_240 := h_240.ext x_390 (Ne.symm ne_220)
  have h_275 := h_275.ext x_390 (Ne.symm ne_254)
  have h_311 := h_311.ext x_390 (Ne.symm ne_289)
  refine lv_aload_n G.1 G.2.1 dX11_init_158 rfl (lv_at hl 0 rfl) ?_
  refine lv_iconst (v := 0) G.1 G.2.1 dX11_init_159 (by decide) ?_
  refine py_put (C := RX11) (T := TX11) (N := 16) (k := 15) (v := .int 0) (fs' := [.ref q_1, .ref q_22, .ref q_48, .ref q_75, .ref r_97, .ref q_102, .ref q_137, .ref q_174, .ref q_213, .ref q_247, .ref q_282, .ref q_317, .ref q_350, .int 0, .int (-1), .int 0]) (ty0 := tyX11) G hw tyX11_ok nmX11 in_X11_init_X11 rfl h_389 (by decide) (by decide +kernel) rfl rfl rfl rfl (Nat.le_of_ble_eq_true rfl) rfl dX11_init_160 (fun f_391 H_392 locs h_393 x_394 hw => ?_)
  have h_16 := h_16.ext x_394 (Ne.symm ne_8)
  have h_17 := h_17.ext x_394 (Ne.symm (py_ne_arr h_389 h_17))
  have h_41 := h_41.ext x_394 (Ne.symm ne_29)
  have h_42 := h_42.ext x_394 (py_ne_kind h_42 h_389 (by decide))
  have h_68 := h_68.ext x_394 (Ne.symm ne_55)
  have h_69 := h_69.ext x_394 (py_ne_kind h_69 h_389 (by decide))
  have h_125 := h_125.ext x_394 (Ne.symm ne_109)
  have h_126 := h_126.ext x_394 (py_ne_kind h_126 h_389 (by decide))
  have h_162 := h_162.ext x_394 (Ne.symm ne_144)
  have h_163 := h_163.ext x_394 (py_ne_kind h_163 h_389 (by decide))
  have h_201 := h_201.ext x_394 (Ne.symm ne_181)
  have h_202 := h_202.ext x_394 (py_ne_kind h_202 h_389 (by decide))
  have h_240 := h_240.ext x_394 (Ne.symm ne_220)
  have h_275 := h_275.ext x_394 (Ne.symm ne_254)
  have h_311 := h_311.ext x_394 (Ne.symm ne_289)
  refine W.widen (k := 96) (n := 2936) (Nat.le_of_ble_eq_true rfl) (Nat.le_of_ble_eq_true rfl) ?_
  have xt_395 : py_ext L f L_373 f_391 h := fun b hb hn => by
    have n1 : b ≠ q_1 := fun h => hq_5 (h ▸ hb)
    obtain ⟨m1, e1⟩ := x_7 b hb
    obtain ⟨m2, e2⟩ := x_14 b m1 n1
    obtain ⟨m3, e3⟩ := x_21 b m2 hn
    have n4 : b ≠ q_22 := fun h => hq_26 (h ▸ m3)
    obtain ⟨m4, e4⟩ := x_28 b m3
    obtain ⟨m5, e5⟩ := x_37 b m4 n4
    obtain ⟨m6, e6⟩ := x_47 b m5 hn
    have n7 : b ≠ q_48 := fun h => hq_52 (h ▸ m6)
    obtain ⟨m7, e7⟩ := x_54 b m6
    obtain ⟨m8, e8⟩ := x_65 b m7 n7
    obtain ⟨m9, e9⟩ := x_74 b m8 hn
    have n10 : b ≠ q_75 := fun h => hq_79 (h ▸ m9)
    obtain ⟨m10, e10⟩ := x_81 b m9
    obtain ⟨m11, e11⟩ := x_92 b m10 hn
    obtain ⟨m12, e12⟩ := hp_96 b m11
    obtain ⟨m13, e13⟩ := x_101 b m12 hn
    have n14 : b ≠ q_102 := fun h => hq_106 (h ▸ m13)
    obtain ⟨m14, e14⟩ := x_108 b m13
    obtain ⟨m15, e15⟩ := x_121 b m14 n14
    obtain ⟨m16, e16⟩ := x_136 b m15 hn
    have n17 : b ≠ q_137 := fun h => hq_141 (h ▸ m16)
    obtain ⟨m17, e17⟩ := x_143 b m16
    obtain ⟨m18, e18⟩ := x_158 b m17 n17
    obtain ⟨m19, e19⟩ := x_173 b m18 hn
    have n20 : b ≠ q_174 := fun h => hq_178 (h ▸ m19)
    obtain ⟨m20, e20⟩ := x_180 b m19
    obtain ⟨m21, e21⟩ := x_197 b m20 n20
    obtain ⟨m22, e22⟩ := x_212 b m21 hn
    have n23 : b ≠ q_213 := fun h => hq_217 (h ▸ m22)
    obtain ⟨m23, e23⟩ := x_219 b m22
    obtain ⟨m24, e24⟩ := x_238 b m23 n23
    obtain ⟨m25, e25⟩ := x_246 b m24 hn
    have n26 : b ≠ q_247 := fun h => hq_251 (h ▸ m25)
    obtain ⟨m26, e26⟩ := x_253 b m25
    obtain ⟨m27, e27⟩ := x_273 b m26 n26
    obtain ⟨m28, e28⟩ := x_281 b m27 hn
    have n29 : b ≠ q_282 := fun h => hq_286 (h ▸ m28)
    obtain ⟨m29, e29⟩ := x_288 b m28
    obtain ⟨m30, e30⟩ := x_309 b m29 n29
    obtain ⟨m31, e31⟩ := x_316 b m30 hn
    have n32 : b ≠ q_317 := fun h => hq_321 (h ▸ m31)
    obtain ⟨m32, e32⟩ := x_323 b m31
    obtain ⟨m33, e33⟩ := x_345 b m32 n32
    obtain ⟨m34, e34⟩ := x_349 b m33 hn
    have n35 : b ≠ q_350 := fun h => hq_354 (h ▸ m34)
    obtain ⟨m35, e35⟩ := x_356 b m34
    obtain ⟨m36, e36⟩ := x_378 b m35 n35
    obtain ⟨m37, e37⟩ := x_382 b m36 hn
    obtain ⟨m38, e38⟩ := x_386 b m37 hn
    obtain ⟨m39, e39⟩ := x_390 b m38 hn
    obtain ⟨m40, e40⟩ := x_394 b m39 hn
    exact ⟨m40, e40.trans (e39.trans (e38.trans (e37.trans (e36.trans (e35.trans (e34.trans (e33.trans (e32.trans (e31.trans (e30.trans (e29.trans (e28.trans (e27.trans (e26.trans (e25.trans (e24.trans (e23.trans (e22.trans (e21.trans (e20.trans (e19.trans (e18.trans (e17.trans (e16.trans (e15.trans (e14.trans (e13.trans (e12.trans (e11.trans (e10.trans (e9.trans (e8.trans (e7.trans (e6.trans (e5.trans (e4.trans (e3.trans (e2.trans (e1.trans (rfl))))))))))))))))))))))))))))))))))))))))⟩
  exact py_vret G hr hlk hw ⟨⟨q_1, byt_15, q_22, itm_38, dr_39, q_48, dl_66, q_75, r_97, q_102, va_123, q_137, q_174, q_213, q_247, q_282, q_317, q_350, _, _, _, _, _, _, _, _, h_393, h_16, h_17, h_41, h_42, hl_43, h_68, h_69, hl_70, h_125, hp_127, hp_128, hp_129, h_126, hp_130, hp_131, hp_132, h_240, hl_241, hp_242, h_275, hl_276, hp_277, h_311, hl_312⟩, xt_395⟩ dX11_init_163

def w_X12_init : List Cond := .code yX12_init cX12_init 1 none :: ([Cond.methodLink RX12 3 objectInit, Cond.instanceMethod objectInit, Cond.code objectInit ⟨#[0xb1]⟩ 1 none, Cond.arrayClass .int, Cond.fieldLink RX12 9 "HeadYearModel" "tape" "[I", Cond.fieldLink RX12 13 "HeadYearModel" "code" "[I", Cond.fieldLink RX12 16 "HeadYearModel" "value" "[I", Cond.fieldLink RX12 19 "HeadYearModel" "codes" "[I", Cond.fieldLink RX12 22 "HeadYearModel" "clauses" "[I", Cond.fieldLink RX12 25 "HeadYearModel" "testFrom" "[I", Cond.fieldLink RX12 28 "HeadYearModel" "sumFrom" "[I", Cond.fieldLink RX12 31 "HeadYearModel" "sumTo" "[I", Cond.fieldLink RX12 34 "HeadYearModel" "letters" "[I", Cond.fieldLink RX12 37 "HeadYearModel" "stack" "[I", Cond.fieldLink RX12 40 "HeadYearModel" "readLevel" "[I", Cond.fieldLink RX12 43 "HeadYearModel" "readFamily" "[I", Cond.fieldLink RX12 46 "HeadYearModel" "levelRow" "[I", Cond.fieldLink RX12 49 "HeadYearModel" "birth" "[I", Cond.fieldLink RX12 52 "HeadYearModel" "twin" "[I", Cond.fieldLink RX12 55 "HeadYearModel" "now" "[I", Cond.fieldLink RX12 58 "HeadYearModel" "aside" "[I", Cond.fieldLink RX12 61 "HeadYearModel" "image" "[I", Cond.fieldLink RX12 64 "HeadYearModel" "holding" "I", Cond.fieldLink RX12 68 "HeadYearModel" "find" "I", Cond.fieldLink RX12 71 "HeadYearModel" "price" "I", Cond.fieldLink RX12 74 "HeadYearModel" "lacks" "[I", Cond.fieldLink RX12 77 "HeadYearModel" "toLevel" "[I", Cond.fieldLink RX12 80 "HeadYearModel" "toHut" "[I", Cond.fieldLink RX12 83 "HeadYearModel" "diaryLevel" "[I", Cond.fieldLink RX12 86 "HeadYearModel" "diaryHeads" "[I", Cond.fieldLink RX12 89 "HeadYearModel" "buyer" "[I", Cond.fieldLink RX12 92 "HeadYearModel" "buyBy" "[I", Cond.fieldLink RX12 95 "HeadYearModel" "buyCost" "[I", Cond.fieldLink RX12 98 "HeadYearModel" "far" "[I", Cond.arrayClass .long, Cond.fieldLink RX12 101 "HeadYearModel" "parts" "[J", Cond.fieldLink RX12 105 "HeadYearModel" "then" "[J", Cond.fieldLink RX12 108 "HeadYearModel" "dying" "[J", Cond.fieldLink RX12 111 "HeadYearModel" "imageLevel" "[I", Cond.fieldLink RX12 114 "HeadYearModel" "imageHeads" "[I"] ++ (u_ws RX12 TX12 54 ++ ([])))
theorem in_X12_init_X12 : ∀ w ∈ u_ws RX12 TX12 54, w ∈ w_X12_init := fun _ h => List.mem_cons_of_mem _ (List.mem_append_right _ (List.mem_append_left _ h))
set_option maxHeartbeats 4000000 in
set_option maxRecDepth 100000 in
theorem c_X12_init (l : Launch) (E : py_E) (L : List Nat) (f : py_F) (sz : Nat) (h : Nat) (hh : py_at L f h (.inr (12, [.int 0, .null, .int 0, .int 0, .int 0, .int 0, .null, .null, .null, .null, .null, .null, .null, .int 0, .int 0, .null, .null, .null, .null, .int 0, .int 0, .null, .null, .null, .int 0, .int 0, .null, .null, .null, .int 0, .long 0, .int 0, .int 0, .int 0, .int 0, .null, .null, .null, .null, .null, .null, .null, .null, .int 0, .null, .null, .null, .null, .long 0, .null, .null, .int 0, .long 0, .int 0]))) : Met l yX12_init w_X12_init ({ frames := 1, cells := 32, slots := 8314, locals := 12 }) (py_Pc E [.ref h] L f sz) (py_Qv E L f sz (fun L1 f1 => fr_M E L1 f1 h ∧ py_ext L f L1 f1 h)) 32 8314 (va_A (va_pl L f) sz) := by
  refine Met.ofW (cc := cX12_init) (maxL := 1) (ret := none) (by decide) rfl ?_
  intro p e s m args below meth c s₁ B hml hv
  obtain ⟨rfl, rfl, hw⟩ := py_start hv
  have G : CallFix p m c cX12_init 1 s _ w_X12_init RX12 := ⟨B.exec, B.bytes, hml, findClass_of_methodNamed B.named, atoms_spec (ws := w_X12_init) B.pre⟩
  have hr := B.returns
  have hlk := B.notSynchronized
  have hin : meth.name = "<init>" := (name_of_methodNamed B.named B.method).1
  have hl := lv_entry ([.ref h]) (n := 1) (Nat.le_of_ble_eq_true rfl)
  rw [lg_entry_eq]
  generalize (lg_sl ([.ref h]) ++ List.replicate (1 - (lg_sl ([.ref h])).length) Slot.unset).toArray = ls at hl ⊢
  have hl : lv_has ls 1 [(0, .ref h)] := hl
  refine lv_aload_n G.1 G.2.1 dX12_init_0 rfl (lv_at hl 0 rfl) ?_
  refine py_objInit G hl.1 (by decide +kernel) (by decide +kernel) (by decide +kernel) dX12_init_1 (Nat.le_of_ble_eq_true rfl) (Nat.le_of_ble_eq_true rfl) ?_
  refine lv_aload_n G.1 G.2.1 dX12_init_4 rfl (lv_at hl 0 rfl) ?_
  refine lv_sipush (v := 160) G.1 G.2.1 dX12_init_5 (by decide) ?_
  refine py_newI (N := 160) G hw (by decide +kernel) (by decide) (by decide) (Nat.le_of_ble_eq_true rfl) (Nat.le_of_ble_eq_true rfl) (Nat.le_of_ble_eq_true rfl) dX12_init_8 (fun q_1 L_2 f_3 H_4 hq_5 h_6 x_7 hw => ?_)
  have ne_8 : h ≠ q_1 := py_ne_new hh hq_5
  have hh := hh.all x_7
  refine py_putF (C := RX12) (T := TX12) (N := 54) (k := 1) (v := .ref q_1) (fs' := [.int 0, .ref q_1, .int 0, .int 0, .int 0, .int 0, .null, .null, .null, .null, .null, .null, .null, .int 0, .int 0, .null, .null, .null, .null, .int 0, .int 0, .null, .null, .null, .int 0, .int 0, .null, .null, .null, .int 0, .long 0, .int 0, .int 0, .int 0, .int 0, .null, .null, .null, .null, .null, .null, .null, .null, .int 0, .null, .null, .null, .null, .long 0, .null, .null, .int 0, .long 0, .int 0]) (ty0 := tyX12) G hin hw tyX12_ok nmX12 in_X12_init_X12 rfl hh (by decide) (by decide +kernel) rfl rfl rfl rfl rfl (Nat.le_of_ble_eq_true rfl) rfl dX12_init_10 (fun f_9 H_10 locs h_11 x_12 hw => ?_)
  have h_6 := h_6.ext x_12 (Ne.symm ne_8)
  refine lv_aload_n G.1 G.2.1 dX12_init_13 rfl (lv_at hl 0 rfl) ?_
  refine lv_sipush (v := 1700) G.1 G.2.1 dX12_init_14 (by decide) ?_
  refine py_newI (N := 1700) G hw (by decide +kernel) (by decide) (by decide) (Nat.le_of_ble_eq_true rfl) (Nat.le_of_ble_eq_true rfl) (Nat.le_of_ble_eq_true rfl) dX12_init_17 (fun q_13 L_14 f_15 H_16 hq_17 h_18 x_19 hw => ?_)
  have ne_20 : h ≠ q_13 := py_ne_new h_11 hq_17
  have h_11 := h_11.all x_19
  have ne_21 : q_1 ≠ q_13 := py_ne_new h_6 hq_17
  have h_6 := h_6.all x_19
  refine py_putF (C := RX12) (T := TX12) (N := 54) (k := 6) (v := .ref q_13) (fs' := [.int 0, .ref q_1, .int 0, .int 0, .int 0, .int 0, .ref q_13, .null, .null, .null, .null, .null, .null, .int 0, .int 0, .null, .null, .null, .null, .int 0, .int 0, .null, .null, .null, .int 0, .int 0, .null, .null, .null, .int 0, .long 0, .int 0, .int 0, .int 0, .int 0, .null, .null, .null, .null, .null, .null, .null, .null, .int 0, .null, .null, .null, .null, .long 0, .null, .null, .int 0, .long 0, .int 0]) (ty0 := tyX12) G hin hw tyX12_ok nmX12 in_X12_init_X12 rfl h_11 (by decide) (by decide +kernel) rfl rfl rfl rfl rfl (Nat.le_of_ble_eq_true rfl) rfl dX12_init_19 (fun f_22 H_23 locs h_24 x_25 hw => ?_)
  have h_6 := h_6.ext x_25 (Ne.symm ne_8)
  refine lv_aload_n G.1 G.2.1 dX12_init_22 rfl (lv_at hl 0 rfl) ?_
  refine lv_sipush (v := 1700) G.1 G.2.1 dX12_init_23 (by decide) ?_
  refine py_newI (N := 1700) G hw (by decide +kernel) (by decide) (by decide) (Nat.le_of_ble_eq_true rfl) (Nat.le_of_ble_eq_true rfl) (Nat.le_of_ble_eq_true rfl) dX12_init_26 (fun q_26 L_27 f_28 H_29 hq_30 h_31 x_32 hw => ?_)
  have ne_33 : h ≠ q_26 := py_ne_new h_24 hq_30
  have h_24 := h_24.all x_32
  have ne_34 : q_1 ≠ q_26 := py_ne_new h_6 hq_30
  have h_6 := h_6.all x_32
  refine py_putF (C := RX12) (T := TX12) (N := 54) (k := 7) (v := .ref q_26) (fs' := [.int 0, .ref q_1, .int 0, .int 0, .int 0, .int 0, .ref q_13, .ref q_26, .null, .null, .null, .null, .null, .int 0, .int 0, .null, .null, .null, .null, .int 0, .int 0, .null, .null, .null, .int 0, .int 0, .null, .null, .null, .int 0, .long 0, .int 0, .int 0, .int 0, .int 0, .null, .null, .null, .null, .null, .null, .null, .null, .int 0, .null, .null, .null, .null, .long 0, .null, .null, .int 0, .long 0, .int 0]) (ty0 := tyX12) G hin hw tyX12_ok nmX12 in_X12_init_X12 rfl h_24 (by decide) (by decide +kernel) rfl rfl rfl rfl rfl (Nat.le_of_ble_eq_true rfl) rfl dX12_init_28 (fun f_35 H_36 locs h_37 x_38 hw => ?_)
  have h_6 := h_6.ext x_38 (Ne.symm ne_8)
  refine lv_aload_n G.1 G.2.1 dX12_init_31 rfl (lv_at hl 0 rfl) ?_
  refine lv_iconst (v := 5) G.1 G.2.1 dX12_init_32 (by decide) ?_
  refine py_newI (N := 5) G hw (by decide +kernel) (by decide) (by decide) (Nat.le_of_ble_eq_true rfl) (Nat.le_of_ble_eq_true rfl) (Nat.le_of_ble_eq_true rfl) dX12_init_33 (fun q_39 L_40 f_41 H_42 hq_43 h_44 x_45 hw => ?_)
  have ne_46 : h ≠ q_39 := py_ne_new h_37 hq_43
  have h_37 := h_37.all x_45
  have ne_47 : q_1 ≠ q_39 := py_ne_new h_6 hq_43
  have h_6 := h_6.all x_45
  refine py_putF (C := RX12) (T := TX12) (N := 54) (k := 8) (v := .ref q_39) (fs' := [.int 0, .ref q_1, .int 0, .int 0, .int 0, .int 0, .ref q_13, .ref q_26, .ref q_39, .null, .null, .null, .null, .int 0, .int 0, .null, .null, .null, .null, .int 0, .int 0, .null, .null, .null, .int 0, .int 0, .null, .null, .null, .int 0, .long 0, .int 0, .int 0, .int 0, .int 0, .null, .null, .null, .null, .null, .null, .null, .null, .int 0, .null, .null, .null, .null, .long 0, .null, .null, .int 0, .long 0, .int 0]) (ty0 := tyX12) G hin hw tyX12_ok nmX12 in_X12_init_X12 rfl h_37 (by decide) (by decide +kernel) rfl rfl rfl rfl rfl (Nat.le_of_ble_eq_true rfl) rfl dX12_init_35 (fun f_48 H_49 locs h_50 x_51 hw => ?_)
  have h_6 := h_6.ext x_51 (Ne.symm ne_8)
  have h_44 := h_44.ext x_51 (Ne.symm ne_46)
  refine lv_aload_n G.1 G.2.1 dX12_init_38 rfl (lv_at hl 0 rfl) ?_
  refine lv_iconst (v := 5) G.1 G.2.1 dX12_init_39 (by decide) ?_
  refine py_newI (N := 5) G hw (by decide +kernel) (by decide) (by decide) (Nat.le_of_ble_eq_true rfl) (Nat.le_of_ble_eq_true rfl) (Nat.le_of_ble_eq_true rfl) dX12_init_40 (fun q_52 L_53 f_54 H_55 hq_56 h_57 x_58 hw => ?_)
  have ne_59 : h ≠ q_52 := py_ne_new h_50 hq_56
  have h_50 := h_50.all x_58
  have ne_60 : q_1 ≠ q_52 := py_ne_new h_6 hq_56
  have h_6 := h_6.all x_58
  have ne_61 : q_39 ≠ q_52 := py_ne_new h_44 hq_56
  have h_44 := h_44.all x_58
  refine py_putF (C := RX12) (T := TX12) (N := 54) (k := 9) (v := .ref q_52) (fs' := [.int 0, .ref q_1, .int 0, .int 0, .int 0, .int 0, .ref q_13, .ref q_26, .ref q_39, .ref q_52, .null, .null, .null, .int 0, .int 0, .null, .null, .null, .null, .int 0, .int 0, .null, .null, .null, .int 0, .int 0, .null, .null, .null, .int 0, .long 0, .int 0, .int 0, .int 0, .int 0, .null, .null, .null, .null, .null, .null, .null, .null, .int 0, .null, .null, .null, .null, .long 0, .null, .null, .int 0, .long 0, .int 0]) (ty0 := tyX12) G hin hw tyX12_ok nmX12 in_X12_init_X12 rfl h_50 (by decide) (by decide +kernel) rfl rfl rfl rfl rfl (Nat.le_of_ble_eq_true rfl) rfl dX12_init_42 (fun f_62 H_63 locs h_64 x_65 hw => ?_)
  have h_6 := h_6.ext x_65 (Ne.symm ne_8)
  have h_44 := h_44.ext x_65 (Ne.symm ne_46)
  have h_57 := h_57.ext x_65 (Ne.symm ne_59)
  refine lv_aload_n G.1 G.2.1 dX12_init_45 rfl (lv_at hl 0 rfl) ?_
  refine lv_sipush (v := 450) G.1 G.2.1 dX12_init_46 (by decide) ?_
  refine py_newI (N := 450) G hw (by decide +kernel) (by decide) (by decide) (Nat.le_of_ble_eq_true rfl) (Nat.le_of_ble_eq_true rfl) (Nat.le_of_ble_eq_true rfl) dX12_init_49 (fun q_66 L_67 f_68 H_69 hq_70 h_71 x_72 hw => ?_)
  have ne_73 : h ≠ q_66 := py_ne_new h_64 hq_70
  have h_64 := h_64.all x_72
  have ne_74 : q_1 ≠ q_66 := py_ne_new h_6 hq_70
  have h_6 := h_6.all x_72
  have ne_75 : q_39 ≠ q_66 := py_ne_new h_44 hq_70
  have h_44 := h_44.all x_72
  have ne_76 : q_52 ≠ q_66 := py_ne_new h_57 hq_70
  have h_57 := h_57.all x_72
  refine py_putF (C := RX12) (T := TX12) (N := 54) (k := 10) (v := .ref q_66) (fs' := [.int 0, .ref q_1, .int 0, .int 0, .int 0, .int 0, .ref q_13, .ref q_26, .ref q_39, .ref q_52, .ref q_66, .null, .null, .int 0, .int 0, .null, .null, .null, .null, .int 0, .int 0, .null, .null, .null, .int 0, .int 0, .null, .null, .null, .int 0, .long 0, .int 0, .int 0, .int 0, .int 0, .null, .null, .null, .null, .null, .null, .null, .null, .int 0, .null, .null, .null, .null, .long 0, .null, .null, .int 0, .long 0, .int 0]) (ty0 := tyX12) G hin hw tyX12_ok nmX12 in_X12_init_X12 rfl h_64 (by decide) (by decide +kernel) rfl rfl rfl rfl rfl (Nat.le_of_ble_eq_true rfl) rfl dX12_init_51 (fun f_77 H_78 locs h_79 x_80 hw => ?_)
  have h_6 := h_6.ext x_80 (Ne.symm ne_8)
  have h_44 := h_44.ext x_80 (Ne.symm ne_46)
  have h_57 := h_57.ext x_80 (Ne.symm ne_59)
  refine lv_aload_n G.1 G.2.1 dX12_init_54 rfl (lv_at hl 0 rfl) ?_
  refine lv_sipush (v := 450) G.1 G.2.1 dX12_init_55 (by decide) ?_
  refine py_newI (N := 450) G hw (by decide +kernel) (by decide) (by decide) (Nat.le_of_ble_eq_true rfl) (Nat.le_of_ble_eq_true rfl) (Nat.le_of_ble_eq_true rfl) dX12_init_58 (fun q_81 L_82 f_83 H_84 hq_85 h_86 x_87 hw => ?_)
  have ne_88 : h ≠ q_81 := py_ne_new h_79 hq_85
  have h_79 := h_79.all x_87
  have ne_89 : q_1 ≠ q_81 := py_ne_new h_6 hq_85
  have h_6 := h_6.all x_87
  have ne_90 : q_39 ≠ q_81 := py_ne_new h_44 hq_85
  have h_44 := h_44.all x_87
  have ne_91 : q_52 ≠ q_81 := py_ne_new h_57 hq_85
  have h_57 := h_57.all x_87
  refine py_putF (C := RX12) (T := TX12) (N := 54) (k := 11) (v := .ref q_81) (fs' := [.int 0, .ref q_1, .int 0, .int 0, .int 0, .int 0, .ref q_13, .ref q_26, .ref q_39, .ref q_52, .ref q_66, .ref q_81, .null, .int 0, .int 0, .null, .null, .null, .null, .int 0, .int 0, .null, .null, .null, .int 0, .int 0, .null, .null, .null, .int 0, .long 0, .int 0, .int 0, .int 0, .int 0, .null, .null, .null, .null, .null, .null, .null, .null, .int 0, .null, .null, .null, .null, .long 0, .null, .null, .int 0, .long 0, .int 0]) (ty0 := tyX12) G hin hw tyX12_ok nmX12 in_X12_init_X12 rfl h_79 (by decide) (by decide +kernel) rfl rfl rfl rfl rfl (Nat.le_of_ble_eq_true rfl) rfl dX12_init_60 (fun f_92 H_93 locs h_94 x_95 hw => ?_)
  have h_6 := h_6.ext x_95 (Ne.symm ne_8)
  have h_44 := h_44.ext x_95 (Ne.symm ne_46)
  have h_57 := h_57.ext x_95 (Ne.symm ne_59)
  refine lv_aload_n G.1 G.2.1 dX12_init_63 rfl (lv_at hl 0 rfl) ?_
  refine lv_sipush (v := 450) G.1 G.2.1 dX12_init_64 (by decide) ?_
  refine py_newI (N := 450) G hw (by decide +kernel) (by decide) (by decide) (Nat.le_of_ble_eq_true rfl) (Nat.le_of_ble_eq_true rfl) (Nat.le_of_ble_eq_true rfl) dX12_init_67 (fun q_96 L_97 f_98 H_99 hq_100 h_101 x_102 hw => ?_)
  have ne_103 : h ≠ q_96 := py_ne_new h_94 hq_100
  have h_94 := h_94.all x_102
  have ne_104 : q_1 ≠ q_96 := py_ne_new h_6 hq_100
  have h_6 := h_6.all x_102
  have ne_105 : q_39 ≠ q_96 := py_ne_new h_44 hq_100
  have h_44 := h_44.all x_102
  have ne_106 : q_52 ≠ q_96 := py_ne_new h_57 hq_100
  have h_57 := h_57.all x_102
  refine py_putF (C := RX12) (T := TX12) (N := 54) (k := 12) (v := .ref q_96) (fs' := [.int 0, .ref q_1, .int 0, .int 0, .int 0, .int 0, .ref q_13, .ref q_26, .ref q_39, .ref q_52, .ref q_66, .ref q_81, .ref q_96, .int 0, .int 0, .null, .null, .null, .null, .int 0, .int 0, .null, .null, .null, .int 0, .int 0, .null, .null, .null, .int 0, .long 0, .int 0, .int 0, .int 0, .int 0, .null, .null, .null, .null, .null, .null, .null, .null, .int 0, .null, .null, .null, .null, .long 0, .null, .null, .int 0, .long 0, .int 0]) (ty0 := tyX12) G hin hw tyX12_ok nmX12 in_X12_init_X12 rfl h_94 (by decide) (by decide +kernel) rfl rfl rfl rfl rfl (Nat.le_of_ble_eq_true rfl) rfl dX12_init_69 (fun f_107 H_108 locs h_109 x_110 hw => ?_)
  have h_6 := h_6.ext x_110 (Ne.symm ne_8)
  have h_44 := h_44.ext x_110 (Ne.symm ne_46)
  have h_57 := h_57.ext x_110 (Ne.symm ne_59)
  refine lv_aload_n G.1 G.2.1 dX12_init_72 rfl (lv_at hl 0 rfl) ?_
  refine lv_bipush (v := 6) G.1 G.2.1 dX12_init_73 (by decide) ?_
  refine py_newI (N := 6) G hw (by decide +kernel) (by decide) (by decide) (Nat.le_of_ble_eq_true rfl) (Nat.le_of_ble_eq_true rfl) (Nat.le_of_ble_eq_true rfl) dX12_init_75 (fun q_111 L_112 f_113 H_114 hq_115 h_116 x_117 hw => ?_)
  have ne_118 : h ≠ q_111 := py_ne_new h_109 hq_115
  have h_109 := h_109.all x_117
  have ne_119 : q_1 ≠ q_111 := py_ne_new h_6 hq_115
  have h_6 := h_6.all x_117
  have ne_120 : q_39 ≠ q_111 := py_ne_new h_44 hq_115
  have h_44 := h_44.all x_117
  have ne_121 : q_52 ≠ q_111 := py_ne_new h_57 hq_115
  have h_57 := h_57.all x_117
  refine py_putF (C := RX12) (T := TX12) (N := 54) (k := 15) (v := .ref q_111) (fs' := [.int 0, .ref q_1, .int 0, .int 0, .int 0, .int 0, .ref q_13, .ref q_26, .ref q_39, .ref q_52, .ref q_66, .ref q_81, .ref q_96, .int 0, .int 0, .ref q_111, .null, .null, .null, .int 0, .int 0, .null, .null, .null, .int 0, .int 0, .null, .null, .null, .int 0, .long 0, .int 0, .int 0, .int 0, .int 0, .null, .null, .null, .null, .null, .null, .null, .null, .int 0, .null, .null, .null, .null, .long 0, .null, .null, .int 0, .long 0, .int 0]) (ty0 := tyX12) G hin hw tyX12_ok nmX12 in_X12_init_X12 rfl h_109 (by decide) (by decide +kernel) rfl rfl rfl rfl rfl (Nat.le_of_ble_eq_true rfl) rfl dX12_init_77 (fun f_122 H_123 locs h_124 x_125 hw => ?_)
  have h_6 := h_6.ext x_125 (Ne.symm ne_8)
  have h_44 := h_44.ext x_125 (Ne.symm ne_46)
  have h_57 := h_57.ext x_125 (Ne.symm ne_59)
  refine lv_aload_n G.1 G.2.1 dX12_init_80 rfl (lv_at hl 0 rfl) ?_
  refine lv_bipush (v := 80) G.1 G.2.1 dX12_init_81 (by decide) ?_
  refine py_newI (N := 80) G hw (by decide +kernel) (by decide) (by decide) (Nat.le_of_ble_eq_true rfl) (Nat.le_of_ble_eq_true rfl) (Nat.le_of_ble_eq_true rfl) dX12_init_83 (fun q_126 L_127 f_128 H_129 hq_130 h_131 x_132 hw => ?_)
  have ne_133 : h ≠ q_126 := py_ne_new h_124 hq_130
  have h_124 := h_124.all x_132
  have ne_134 : q_1 ≠ q_126 := py_ne_new h_6 hq_130
  have h_6 := h_6.all x_132
  have ne_135 : q_39 ≠ q_126 := py_ne_new h_44 hq_130
  have h_44 := h_44.all x_132
  have ne_136 : q_52 ≠ q_126 := py_ne_new h_57 hq_130
  have h_57 := h_57.all x_132
  refine py_putF (C := RX12) (T := TX12) (N := 54) (k := 16) (v := .ref q_126) (fs' := [.int 0, .ref q_1, .int 0, .int 0, .int 0, .int 0, .ref q_13, .ref q_26, .ref q_39, .ref q_52, .ref q_66, .ref q_81, .ref q_96, .int 0, .int 0, .ref q_111, .ref q_126, .null, .null, .int 0, .int 0, .null, .null, .null, .int 0, .int 0, .null, .null, .null, .int 0, .long 0, .int 0, .int 0, .int 0, .int 0, .null, .null, .null, .null, .null, .null, .null, .null, .int 0, .null, .null, .null, .null, .long 0, .null, .null, .int 0, .long 0, .int 0]) (ty0 := tyX12) G hin hw tyX12_ok nmX12 in_X12_init_X12 rfl h_124 (by decide) (by decide +kernel) rfl rfl rfl rfl rfl (Nat.le_of_ble_eq_true rfl) rfl dX12_init_85 (fun f_137 H_138 locs h_139 x_140 hw => ?_)
  have h_6 := h_6.ext x_140 (Ne.symm ne_8)
  have h_44 := h_44.ext x_140 (Ne.symm ne_46)
  have h_57 := h_57.ext x_140 (Ne.symm ne_59)
  refine lv_aload_n G.1 G.2.1 dX12_init_88 rfl (lv_at hl 0 rfl) ?_
  refine lv_bipush (v := 32) G.1 G.2.1 dX12_init_89 (by decide) ?_
  refine py_newI (N := 32) G hw (by decide +kernel) (by decide) (by decide) (Nat.le_of_ble_eq_true rfl) (Nat.le_of_ble_eq_true rfl) (Nat.le_of_ble_eq_true rfl) dX12_init_91 (fun q_141 L_142 f_143 H_144 hq_145 h_146 x_147 hw => ?_)
  have ne_148 : h ≠ q_141 := py_ne_new h_139 hq_145
  have h_139 := h_139.all x_147
  have ne_149 : q_1 ≠ q_141 := py_ne_new h_6 hq_145
  have h_6 := h_6.all x_147
  have ne_150 : q_39 ≠ q_141 := py_ne_new h_44 hq_145
  have h_44 := h_44.all x_147
  have ne_151 : q_52 ≠ q_141 := py_ne_new h_57 hq_145
  have h_57 := h_57.all x_147
  refine py_putF (C := RX12) (T := TX12) (N := 54) (k := 17) (v := .ref q_141) (fs' := [.int 0, .ref q_1, .int 0, .int 0, .int 0, .int 0, .ref q_13, .ref q_26, .ref q_39, .ref q_52, .ref q_66, .ref q_81, .ref q_96, .int 0, .int 0, .ref q_111, .ref q_126, .ref q_141, .null, .int 0, .int 0, .null, .null, .null, .int 0, .int 0, .null, .null, .null, .int 0, .long 0, .int 0, .int 0, .int 0, .int 0, .null, .null, .null, .null, .null, .null, .null, .null, .int 0, .null, .null, .null, .null, .long 0, .null, .null, .int 0, .long 0, .int 0]) (ty0 := tyX12) G hin hw tyX12_ok nmX12 in_X12_init_X12 rfl h_139 (by decide) (by decide +kernel) rfl rfl rfl rfl rfl (Nat.le_of_ble_eq_true rfl) rfl dX12_init_93 (fun f_152 H_153 locs h_154 x_155 hw => ?_)
  have h_6 := h_6.ext x_155 (Ne.symm ne_8)
  have h_44 := h_44.ext x_155 (Ne.symm ne_46)
  have h_57 := h_57.ext x_155 (Ne.symm ne_59)
  refine lv_aload_n G.1 G.2.1 dX12_init_96 rfl (lv_at hl 0 rfl) ?_
  refine lv_bipush (v := 40) G.1 G.2.1 dX12_init_97 (by decide) ?_
  refine py_newI (N := 40) G hw (by decide +kernel) (by decide) (by decide) (Nat.le_of_ble_eq_true rfl) (Nat.le_of_ble_eq_true rfl) (Nat.le_of_ble_eq_true rfl) dX12_init_99 (fun q_156 L_157 f_158 H_159 hq_160 h_161 x_162 hw => ?_)
  have ne_163 : h ≠ q_156 := py_ne_new h_154 hq_160
  have h_154 := h_154.all x_162
  have ne_164 : q_1 ≠ q_156 := py_ne_new h_6 hq_160
  have h_6 := h_6.all x_162
  have ne_165 : q_39 ≠ q_156 := py_ne_new h_44 hq_160
  have h_44 := h_44.all x_162
  have ne_166 : q_52 ≠ q_156 := py_ne_new h_57 hq_160
  have h_57 := h_57.all x_162
  refine py_putF (C := RX12) (T := TX12) (N := 54) (k := 18) (v := .ref q_156) (fs' := [.int 0, .ref q_1, .int 0, .int 0, .int 0, .int 0, .ref q_13, .ref q_26, .ref q_39, .ref q_52, .ref q_66, .ref q_81, .ref q_96, .int 0, .int 0, .ref q_111, .ref q_126, .ref q_141, .ref q_156, .int 0, .int 0, .null, .null, .null, .int 0, .int 0, .null, .null, .null, .int 0, .long 0, .int 0, .int 0, .int 0, .int 0, .null, .null, .null, .null, .null, .null, .null, .null, .int 0, .null, .null, .null, .null, .long 0, .null, .null, .int 0, .long 0, .int 0]) (ty0 := tyX12) G hin hw tyX12_ok nmX12 in_X12_init_X12 rfl h_154 (by decide) (by decide +kernel) rfl rfl rfl rfl rfl (Nat.le_of_ble_eq_true rfl) rfl dX12_init_101 (fun f_167 H_168 locs h_169 x_170 hw => ?_)
  have h_6 := h_6.ext x_170 (Ne.symm ne_8)
  have h_44 := h_44.ext x_170 (Ne.symm ne_46)
  have h_57 := h_57.ext x_170 (Ne.symm ne_59)
  refine lv_aload_n G.1 G.2.1 dX12_init_104 rfl (lv_at hl 0 rfl) ?_
  refine lv_bipush (v := 32) G.1 G.2.1 dX12_init_105 (by decide) ?_
  refine py_newI (N := 32) G hw (by decide +kernel) (by decide) (by decide) (Nat.le_of_ble_eq_true rfl) (Nat.le_of_ble_eq_true rfl) (Nat.le_of_ble_eq_true rfl) dX12_init_107 (fun q_171 L_172 f_173 H_174 hq_175 h_176 x_177 hw => ?_)
  have ne_178 : h ≠ q_171 := py_ne_new h_169 hq_175
  have h_169 := h_169.all x_177
  have ne_179 : q_1 ≠ q_171 := py_ne_new h_6 hq_175
  have h_6 := h_6.all x_177
  have ne_180 : q_39 ≠ q_171 := py_ne_new h_44 hq_175
  have h_44 := h_44.all x_177
  have ne_181 : q_52 ≠ q_171 := py_ne_new h_57 hq_175
  have h_57 := h_57.all x_177
  refine py_putF (C := RX12) (T := TX12) (N := 54) (k := 21) (v := .ref q_171) (fs' := [.int 0, .ref q_1, .int 0, .int 0, .int 0, .int 0, .ref q_13, .ref q_26, .ref q_39, .ref q_52, .ref q_66, .ref q_81, .ref q_96, .int 0, .int 0, .ref q_111, .ref q_126, .ref q_141, .ref q_156, .int 0, .int 0, .ref q_171, .null, .null, .int 0, .int 0, .null, .null, .null, .int 0, .long 0, .int 0, .int 0, .int 0, .int 0, .null, .null, .null, .null, .null, .null, .null, .null, .int 0, .null, .null, .null, .null, .long 0, .null, .null, .int 0, .long 0, .int 0]) (ty0 := tyX12) G hin hw tyX12_ok nmX12 in_X12_init_X12 rfl h_169 (by decide) (by decide +kernel) rfl rfl rfl rfl rfl (Nat.le_of_ble_eq_true rfl) rfl dX12_init_109 (fun f_182 H_183 locs h_184 x_185 hw => ?_)
  have h_6 := h_6.ext x_185 (Ne.symm ne_8)
  have h_44 := h_44.ext x_185 (Ne.symm ne_46)
  have h_57 := h_57.ext x_185 (Ne.symm ne_59)
  refine lv_aload_n G.1 G.2.1 dX12_init_112 rfl (lv_at hl 0 rfl) ?_
  refine lv_bipush (v := 10) G.1 G.2.1 dX12_init_113 (by decide) ?_
  refine py_newI (N := 10) G hw (by decide +kernel) (by decide) (by decide) (Nat.le_of_ble_eq_true rfl) (Nat.le_of_ble_eq_true rfl) (Nat.le_of_ble_eq_true rfl) dX12_init_115 (fun q_186 L_187 f_188 H_189 hq_190 h_191 x_192 hw => ?_)
  have ne_193 : h ≠ q_186 := py_ne_new h_184 hq_190
  have h_184 := h_184.all x_192
  have ne_194 : q_1 ≠ q_186 := py_ne_new h_6 hq_190
  have h_6 := h_6.all x_192
  have ne_195 : q_39 ≠ q_186 := py_ne_new h_44 hq_190
  have h_44 := h_44.all x_192
  have ne_196 : q_52 ≠ q_186 := py_ne_new h_57 hq_190
  have h_57 := h_57.all x_192
  refine py_putF (C := RX12) (T := TX12) (N := 54) (k := 22) (v := .ref q_186) (fs' := [.int 0, .ref q_1, .int 0, .int 0, .int 0, .int 0, .ref q_13, .ref q_26, .ref q_39, .ref q_52, .ref q_66, .ref q_81, .ref q_96, .int 0, .int 0, .ref q_111, .ref q_126, .ref q_141, .ref q_156, .int 0, .int 0, .ref q_171, .ref q_186, .null, .int 0, .int 0, .null, .null, .null, .int 0, .long 0, .int 0, .int 0, .int 0, .int 0, .null, .null, .null, .null, .null, .null, .null, .null, .int 0, .null, .null, .null, .null, .long 0, .null, .null, .int 0, .long 0, .int 0]) (ty0 := tyX12) G hin hw tyX12_ok nmX12 in_X12_init_X12 rfl h_184 (by decide) (by decide +kernel) rfl rfl rfl rfl rfl (Nat.le_of_ble_eq_true rfl) rfl dX12_init_117 (fun f_197 H_198 locs h_199 x_200 hw => ?_)
  have h_6 := h_6.ext x_200 (Ne.symm ne_8)
  have h_44 := h_44.ext x_200 (Ne.symm ne_46)
  have h_57 := h_57.ext x_200 (Ne.symm ne_59)
  refine lv_aload_n G.1 G.2.1 dX12_init_120 rfl (lv_at hl 0 rfl) ?_
  refine lv_bipush (v := 10) G.1 G.2.1 dX12_init_121 (by decide) ?_
  refine py_newI (N := 10) G hw (by decide +kernel) (by decide) (by decide) (Nat.le_of_ble_eq_true rfl) (Nat.le_of_ble_eq_true rfl) (Nat.le_of_ble_eq_true rfl) dX12_init_123 (fun q_201 L_202 f_203 H_204 hq_205 h_206 x_207 hw => ?_)
  have ne_208 : h ≠ q_201 := py_ne_new h_199 hq_205
  have h_199 := h_199.all x_207
  have ne_209 : q_1 ≠ q_201 := py_ne_new h_6 hq_205
  have h_6 := h_6.all x_207
  have ne_210 : q_39 ≠ q_201 := py_ne_new h_44 hq_205
  have h_44 := h_44.all x_207
  have ne_211 : q_52 ≠ q_201 := py_ne_new h_57 hq_205
  have h_57 := h_57.all x_207
  refine py_putF (C := RX12) (T := TX12) (N := 54) (k := 23) (v := .ref q_201) (fs' := [.int 0, .ref q_1, .int 0, .int 0, .int 0, .int 0, .ref q_13, .ref q_26, .ref q_39, .ref q_52, .ref q_66, .ref q_81, .ref q_96, .int 0, .int 0, .ref q_111, .ref q_126, .ref q_141, .ref q_156, .int 0, .int 0, .ref q_171, .ref q_186, .ref q_201, .int 0, .int 0, .null, .null, .null, .int 0, .long 0, .int 0, .int 0, .int 0, .int 0, .null, .null, .null, .null, .null, .null, .null, .null, .int 0, .null, .null, .null, .null, .long 0, .null, .null, .int 0, .long 0, .int 0]) (ty0 := tyX12) G hin hw tyX12_ok nmX12 in_X12_init_X12 rfl h_199 (by decide) (by decide +kernel) rfl rfl rfl rfl rfl (Nat.le_of_ble_eq_true rfl) rfl dX12_init_125 (fun f_212 H_213 locs h_214 x_215 hw => ?_)
  have h_6 := h_6.ext x_215 (Ne.symm ne_8)
  have h_44 := h_44.ext x_215 (Ne.symm ne_46)
  have h_57 := h_57.ext x_215 (Ne.symm ne_59)
  refine lv_aload_n G.1 G.2.1 dX12_init_128 rfl (lv_at hl 0 rfl) ?_
  refine lv_bipush (v := 90) G.1 G.2.1 dX12_init_129 (by decide) ?_
  refine py_newI (N := 90) G hw (by decide +kernel) (by decide) (by decide) (Nat.le_of_ble_eq_true rfl) (Nat.le_of_ble_eq_true rfl) (Nat.le_of_ble_eq_true rfl) dX12_init_131 (fun q_216 L_217 f_218 H_219 hq_220 h_221 x_222 hw => ?_)
  have ne_223 : h ≠ q_216 := py_ne_new h_214 hq_220
  have h_214 := h_214.all x_222
  have ne_224 : q_1 ≠ q_216 := py_ne_new h_6 hq_220
  have h_6 := h_6.all x_222
  have ne_225 : q_39 ≠ q_216 := py_ne_new h_44 hq_220
  have h_44 := h_44.all x_222
  have ne_226 : q_52 ≠ q_216 := py_ne_new h_57 hq_220
  have h_57 := h_57.all x_222
  refine py_putF (C := RX12) (T := TX12) (N := 54) (k := 26) (v := .ref q_216) (fs' := [.int 0, .ref q_1, .int 0, .int 0, .int 0, .int 0, .ref q_13, .ref q_26, .ref q_39, .ref q_52, .ref q_66, .ref q_81, .ref q_96, .int 0, .int 0, .ref q_111, .ref q_126, .ref q_141, .ref q_156, .int 0, .int 0, .ref q_171, .ref q_186, .ref q_201, .int 0, .int 0, .ref q_216, .null, .null, .int 0, .long 0, .int 0, .int 0, .int 0, .int 0, .null, .null, .null, .null, .null, .null, .null, .null, .int 0, .null, .null, .null, .null, .long 0, .null, .null, .int 0, .long 0, .int 0]) (ty0 := tyX12) G hin hw tyX12_ok nmX12 in_X12_init_X12 rfl h_214 (by decide) (by decide +kernel) rfl rfl rfl rfl rfl (Nat.le_of_ble_eq_true rfl) rfl dX12_init_133 (fun f_227 H_228 locs h_229 x_230 hw => ?_)
  have h_6 := h_6.ext x_230 (Ne.symm ne_8)
  have h_44 := h_44.ext x_230 (Ne.symm ne_46)
  have h_57 := h_57.ext x_230 (Ne.symm ne_59)
  refine lv_aload_n G.1 G.2.1 dX12_init_136 rfl (lv_at hl 0 rfl) ?_
  refine lv_bipush (v := 90) G.1 G.2.1 dX12_init_137 (by decide) ?_
  refine py_newI (N := 90) G hw (by decide +kernel) (by decide) (by decide) (Nat.le_of_ble_eq_true rfl) (Nat.le_of_ble_eq_true rfl) (Nat.le_of_ble_eq_true rfl) dX12_init_139 (fun q_231 L_232 f_233 H_234 hq_235 h_236 x_237 hw => ?_)
  have ne_238 : h ≠ q_231 := py_ne_new h_229 hq_235
  have h_229 := h_229.all x_237
  have ne_239 : q_1 ≠ q_231 := py_ne_new h_6 hq_235
  have h_6 := h_6.all x_237
  have ne_240 : q_39 ≠ q_231 := py_ne_new h_44 hq_235
  have h_44 := h_44.all x_237
  have ne_241 : q_52 ≠ q_231 := py_ne_new h_57 hq_235
  have h_57 := h_57.all x_237
  refine py_putF (C := RX12) (T := TX12) (N := 54) (k := 27) (v := .ref q_231) (fs' := [.int 0, .ref q_1, .int 0, .int 0, .int 0, .int 0, .ref q_13, .ref q_26, .ref q_39, .ref q_52, .ref q_66, .ref q_81, .ref q_96, .int 0, .int 0, .ref q_111, .ref q_126, .ref q_141, .ref q_156, .int 0, .int 0, .ref q_171, .ref q_186, .ref q_201, .int 0, .int 0, .ref q_216, .ref q_231, .null, .int 0, .long 0, .int 0, .int 0, .int 0, .int 0, .null, .null, .null, .null, .null, .null, .null, .null, .int 0, .null, .null, .null, .null, .long 0, .null, .null, .int 0, .long 0, .int 0]) (ty0 := tyX12) G hin hw tyX12_ok nmX12 in_X12_init_X12 rfl h_229 (by decide) (by decide +kernel) rfl rfl rfl rfl rfl (Nat.le_of_ble_eq_true rfl) rfl dX12_init_141 (fun f_242 H_243 locs h_244 x_245 hw => ?_)
  have h_6 := h_6.ext x_245 (Ne.symm ne_8)
  have h_44 := h_44.ext x_245 (Ne.symm ne_46)
  have h_57 := h_57.ext x_245 (Ne.symm ne_59)
  refine lv_aload_n G.1 G.2.1 dX12_init_144 rfl (lv_at hl 0 rfl) ?_
  refine lv_bipush (v := 90) G.1 G.2.1 dX12_init_145 (by decide) ?_
  refine py_newI (N := 90) G hw (by decide +kernel) (by decide) (by decide) (Nat.le_of_ble_eq_true rfl) (Nat.le_of_ble_eq_true rfl) (Nat.le_of_ble_eq_true rfl) dX12_init_147 (fun q_246 L_247 f_248 H_249 hq_250 h_251 x_252 hw => ?_)
  have ne_253 : h ≠ q_246 := py_ne_new h_244 hq_250
  have h_244 := h_244.all x_252
  have ne_254 : q_1 ≠ q_246 := py_ne_new h_6 hq_250
  have h_6 := h_6.all x_252
  have ne_255 : q_39 ≠ q_246 := py_ne_new h_44 hq_250
  have h_44 := h_44.all x_252
  have ne_256 : q_52 ≠ q_246 := py_ne_new h_57 hq_250
  have h_57 := h_57.all x_252
  refine py_putF (C := RX12) (T := TX12) (N := 54) (k := 28) (v := .ref q_246) (fs' := [.int 0, .ref q_1, .int 0, .int 0, .int 0, .int 0, .ref q_13, .ref q_26, .ref q_39, .ref q_52, .ref q_66, .ref q_81, .ref q_96, .int 0, .int 0, .ref q_111, .ref q_126, .ref q_141, .ref q_156, .int 0, .int 0, .ref q_171, .ref q_186, .ref q_201, .int 0, .int 0, .ref q_216, .ref q_231, .ref q_246, .int 0, .long 0, .int 0, .int 0, .int 0, .int 0, .null, .null, .null, .null, .null, .null, .null, .null, .int 0, .null, .null, .null, .null, .long 0, .null, .null, .int 0, .long 0, .int 0]) (ty0 := tyX12) G hin hw tyX12_ok nmX12 in_X12_init_X12 rfl h_244 (by decide) (by decide +kernel) rfl rfl rfl rfl rfl (Nat.le_of_ble_eq_true rfl) rfl dX12_init_149 (fun f_257 H_258 locs h_259 x_260 hw => ?_)
  have h_6 := h_6.ext x_260 (Ne.symm ne_8)
  have h_44 := h_44.ext x_260 (Ne.symm ne_46)
  have h_57 := h_57.ext x_260 (Ne.symm ne_59)
  refine lv_aload_n G.1 G.2.1 dX12_init_152 rfl (lv_at hl 0 rfl) ?_
  refine lv_iconst (v := (-1)) G.1 G.2.1 dX12_init_153 (by decide) ?_
  refine py_put (C := RX12) (T := TX12) (N := 54) (k := 31) (v := .int (-1)) (fs' := [.int 0, .ref q_1, .int 0, .int 0, .int 0, .int 0, .ref q_13, .ref q_26, .ref q_39, .ref q_52, .ref q_66, .ref q_81, .ref q_96, .int 0, .int 0, .ref q_111, .ref q_126, .ref q_141, .ref q_156, .int 0, .int 0, .ref q_171, .ref q_186, .ref q_201, .int 0, .int 0, .ref q_216, .ref q_231, .ref q_246, .int 0, .long 0, .int (-1), .int 0, .int 0, .int 0, .null, .null, .null, .null, .null, .null, .null, .null, .int 0, .null, .null, .null, .null, .long 0, .null, .null, .int 0, .long 0, .int 0]) (ty0 := tyX12) G hw tyX12_ok nmX12 in_X12_init_X12 rfl h_259 (by decide) (by decide +kernel) rfl rfl rfl rfl (Nat.le_of_ble_eq_true rfl) rfl dX12_init_154 (fun f_261 H_262 locs h_263 x_264 hw => ?_)
  have h_6 := h_6.ext x_264 (Ne.symm ne_8)
  have h_44 := h_44.ext x_264 (Ne.symm ne_46)
  have h_57 := h_57.ext x_264 (Ne.symm ne_59)
  refine lv_aload_n G.1 G.2.1 dX12_init_157 rfl (lv_at hl 0 rfl) ?_
  refine lv_bipush (v := 50) G.1 G.2.1 dX12_init_158 (by decide) ?_
  refine py_put (C := RX12) (T := TX12) (N := 54) (k := 32) (v := .int 50) (fs' := [.int 0, .ref q_1, .int 0, .int 0, .int 0, .int 0, .ref q_13, .ref q_26, .ref q_39, .ref q_52, .ref q_66, .ref q_81, .ref q_96, .int 0, .int 0, .ref q_111, .ref q_126, .ref q_141, .ref q_156, .int 0, .int 0, .ref q_171, .ref q_186, .ref q_201, .int 0, .int 0, .ref q_216, .ref q_231, .ref q_246, .int 0, .long 0, .int (-1), .int 50, .int 0, .int 0, .null, .null, .null, .null, .null, .null, .null, .null, .int 0, .null, .null, .null, .null, .long 0, .null, .null, .int 0, .long 0, .int 0]) (ty0 := tyX12) G hw tyX12_ok nmX12 in_X12_init_X12 rfl h_263 (by decide) (by decide +kernel) rfl rfl rfl rfl (Nat.le_of_ble_eq_true rfl) rfl dX12_init_160 (fun f_265 H_266 locs h_267 x_268 hw => ?_)
  have h_6 := h_6.ext x_268 (Ne.symm ne_8)
  have h_44 := h_44.ext x_268 (Ne.symm ne_46)
  have h_57 := h_57.ext x_268 (Ne.symm ne_59)
  refine lv_aload_n G.1 G.2.1 dX12_init_163 rfl (lv_at hl 0 rfl) ?_
  refine lv_bipush (v := 10) G.1 G.2.1 dX12_init_164 (by decide) ?_
  refine py_put (C := RX12) (T := TX12) (N := 54) (k := 34) (v := .int 10) (fs' := [.int 0, .ref q_1, .int 0, .int 0, .int 0, .int 0, .ref q_13, .ref q_26, .ref q_39, .ref q_52, .ref q_66, .ref q_81, .ref q_96, .int 0, .int 0, .ref q_111, .ref q_126, .ref q_141, .ref q_156, .int 0, .int 0, .ref q_171, .ref q_186, .ref q_201, .int 0, .int 0, .ref q_216, .ref q_231, .ref q_246, .int 0, .long 0, .int (-1), .int 50, .int 0, .int 10, .null, .null, .null, .null, .null, .null, .null, .null, .int 0, .null, .null, .null, .null, .long 0, .null, .null, .int 0, .long 0, .int 0]) (ty0 := tyX12) G hw tyX12_ok nmX12 in_X12_init_X12 rfl h_267 (by decide) (by decide +kernel) rfl rfl rfl rfl (Nat.le_of_ble_eq_true rfl) rfl dX12_init_166 (fun f_269 H_270 locs h_271 x_272 hw => ?_)
  have h_6 := h_6.ext x_272 (Ne.symm ne_8)
  have h_44 := h_44.ext x_272 (Ne.symm ne_46)
  have h_57 := h_57.ext x_272 (Ne.symm ne_59)
  refine lv_aload_n G.1 G.2.1 dX12_init_169 rfl (lv_at hl 0 rfl) ?_
  refine lv_bipush (v := 8) G.1 G.2.1 dX12_init_170 (by decide) ?_
  refine py_newI (N := 8) G hw (by decide +kernel) (by decide) (by decide) (Nat.le_of_ble_eq_true rfl) (Nat.le_of_ble_eq_true rfl) (Nat.le_of_ble_eq_true rfl) dX12_init_172 (fun q_273 L_274 f_275 H_276 hq_277 h_278 x_279 hw => ?_)
  have ne_280 : h ≠ q_273 := py_ne_new h_271 hq_277
  have h_271 := h_271.all x_279
  have ne_281 : q_1 ≠ q_273 := py_ne_new h_6 hq_277
  have h_6 := h_6.all x_279
  have ne_282 : q_39 ≠ q_273 := py_ne_new h_44 hq_277
  have h_44 := h_44.all x_279
  have ne_283 : q_52 ≠ q_273 := py_ne_new h_57 hq_277
  have h_57 := h_57.all x_279
  refine py_putF (C := RX12) (T := TX12) (N := 54) (k := 35) (v := .ref q_273) (fs' := [.int 0, .ref q_1, .int 0, .int 0, .int 0, .int 0, .ref q_13, .ref q_26, .ref q_39, .ref q_52, .ref q_66, .ref q_81, .ref q_96, .int 0, .int 0, .ref q_111, .ref q_126, .ref q_141, .ref q_156, .int 0, .int 0, .ref q_171, .ref q_186, .ref q_201, .int 0, .int 0, .ref q_216, .ref q_231, .ref q_246, .int 0, .long 0, .int (-1), .int 50, .int 0, .int 10, .ref q_273, .null, .null, .null, .null, .null, .null, .null, .int 0, .null, .null, .null, .null, .long 0, .null, .null, .int 0, .long 0, .int 0]) (ty0 := tyX12) G hin hw tyX12_ok nmX12 in_X12_init_X12 rfl h_271 (by decide) (by decide +kernel) rfl rfl rfl rfl rfl (Nat.le_of_ble_eq_true rfl) rfl dX12_init_174 (fun f_284 H_285 locs h_286 x_287 hw => ?_)
  have h_6 := h_6.ext x_287 (Ne.symm ne_8)
  have h_44 := h_44.ext x_287 (Ne.symm ne_46)
  have h_57 := h_57.ext x_287 (Ne.symm ne_59)
  refine lv_aload_n G.1 G.2.1 dX12_init_177 rfl (lv_at hl 0 rfl) ?_
  refine lv_bipush (v := 10) G.1 G.2.1 dX12_init_178 (by decide) ?_
  refine py_newI (N := 10) G hw (by decide +kernel) (by decide) (by decide) (Nat.le_of_ble_eq_true rfl) (Nat.le_of_ble_eq_true rfl) (Nat.le_of_ble_eq_true rfl) dX12_init_180 (fun q_288 L_289 f_290 H_291 hq_292 h_293 x_294 hw => ?_)
  have ne_295 : h ≠ q_288 := py_ne_new h_286 hq_292
  have h_286 := h_286.all x_294
  have ne_296 : q_1 ≠ q_288 := py_ne_new h_6 hq_292
  have h_6 := h_6.all x_294
  have ne_297 : q_39 ≠ q_288 := py_ne_new h_44 hq_292
  have h_44 := h_44.all x_294
  have ne_298 : q_52 ≠ q_288 := py_ne_new h_57 hq_292
  have h_57 := h_57.all x_294
  refine py_putF (C := RX12) (T := TX12) (N := 54) (k := 36) (v := .ref q_288) (fs' := [.int 0, .ref q_1, .int 0, .int 0, .int 0, .int 0, .ref q_13, .ref q_26, .ref q_39, .ref q_52, .ref q_66, .ref q_81, .ref q_96, .int 0, .int 0, .ref q_111, .ref q_126, .ref q_141, .ref q_156, .int 0, .int 0, .ref q_171, .ref q_186, .ref q_201, .int 0, .int 0, .ref q_216, .ref q_231, .ref q_246, .int 0, .long 0, .int (-1), .int 50, .int 0, .int 10, .ref q_273, .ref q_288, .null, .null, .null, .null, .null, .null, .int 0, .null, .null, .null, .null, .long 0, .null, .null, .int 0, .long 0, .int 0]) (ty0 := tyX12) G hin hw tyX12_ok nmX12 in_X12_init_X12 rfl h_286 (by decide) (by decide +kernel) rfl rfl rfl rfl rfl (Nat.le_of_ble_eq_true rfl) rfl dX12_init_182 (fun f_299 H_300 locs h_301 x_302 hw => ?_)
  have h_6 := h_6.ext x_302 (Ne.symm ne_8)
  have h_44 := h_44.ext x_302 (Ne.symm ne_46)
  have h_57 := h_57.ext x_302 (Ne.symm ne_59)
  refine lv_aload_n G.1 G.2.1 dX12_init_185 rfl (lv_at hl 0 rfl) ?_
  refine lv_bipush (v := 10) G.1 G.2.1 dX12_init_186 (by decide) ?_
  refine py_newI (N := 10) G hw (by decide +kernel) (by decide) (by decide) (Nat.le_of_ble_eq_true rfl) (Nat.le_of_ble_eq_true rfl) (Nat.le_of_ble_eq_true rfl) dX12_init_188 (fun q_303 L_304 f_305 H_306 hq_307 h_308 x_309 hw => ?_)
  have ne_310 : h ≠ q_303 := py_ne_new h_301 hq_307
  have h_301 := h_301.all x_309
  have ne_311 : q_1 ≠ q_303 := py_ne_new h_6 hq_307
  have h_6 := h_6.all x_309
  have ne_312 : q_39 ≠ q_303 := py_ne_new h_44 hq_307
  have h_44 := h_44.all x_309
  have ne_313 : q_52 ≠ q_303 := py_ne_new h_57 hq_307
  have h_57 := h_57.all x_309
  refine py_putF (C := RX12) (T := TX12) (N := 54) (k := 37) (v := .ref q_303) (fs' := [.int 0, .ref q_1, .int 0, .int 0, .int 0, .int 0, .ref q_13, .ref q_26, .ref q_39, .ref q_52, .ref q_66, .ref q_81, .ref q_96, .int 0, .int 0, .ref q_111, .ref q_126, .ref q_141, .ref q_156, .int 0, .int 0, .ref q_171, .ref q_186, .ref q_201, .int 0, .int 0, .ref q_216, .ref q_231, .ref q_246, .int 0, .long 0, .int (-1), .int 50, .int 0, .int 10, .ref q_273, .ref q_288, .ref q_303, .null, .null, .null, .null, .null, .int 0, .null, .null, .null, .null, .long 0, .null, .null, .int 0, .long 0, .int 0]) (ty0 := tyX12) G hin hw tyX12_ok nmX12 in_X12_init_X12 rfl h_301 (by decide) (by decide +kernel) rfl rfl rfl rfl rfl (Nat.le_of_ble_eq_true rfl) rfl dX12_init_190 (fun f_314 H_315 locs h_316 x_317 hw => ?_)
  have h_6 := h_6.ext x_317 (Ne.symm ne_8)
  have h_44 := h_44.ext x_317 (Ne.symm ne_46)
  have h_57 := h_57.ext x_317 (Ne.symm ne_59)
  refine lv_aload_n G.1 G.2.1 dX12_init_193 rfl (lv_at hl 0 rfl) ?_
  refine lv_sipush (v := 600) G.1 G.2.1 dX12_init_194 (by decide) ?_
  refine py_newI (N := 600) G hw (by decide +kernel) (by decide) (by decide) (Nat.le_of_ble_eq_true rfl) (Nat.le_of_ble_eq_true rfl) (Nat.le_of_ble_eq_true rfl) dX12_init_197 (fun q_318 L_319 f_320 H_321 hq_322 h_323 x_324 hw => ?_)
  have ne_325 : h ≠ q_318 := py_ne_new h_316 hq_322
  have h_316 := h_316.all x_324
  have ne_326 : q_1 ≠ q_318 := py_ne_new h_6 hq_322
  have h_6 := h_6.all x_324
  have ne_327 : q_39 ≠ q_318 := py_ne_new h_44 hq_322
  have h_44 := h_44.all x_324
  have ne_328 : q_52 ≠ q_318 := py_ne_new h_57 hq_322
  have h_57 := h_57.all x_324
  refine py_putF (C := RX12) (T := TX12) (N := 54) (k := 38) (v := .ref q_318) (fs' := [.int 0, .ref q_1, .int 0, .int 0, .int 0, .int 0, .ref q_13, .ref q_26, .ref q_39, .ref q_52, .ref q_66, .ref q_81, .ref q_96, .int 0, .int 0, .ref q_111, .ref q_126, .ref q_141, .ref q_156, .int 0, .int 0, .ref q_171, .ref q_186, .ref q_201, .int 0, .int 0, .ref q_216, .ref q_231, .ref q_246, .int 0, .long 0, .int (-1), .int 50, .int 0, .int 10, .ref q_273, .ref q_288, .ref q_303, .ref q_318, .null, .null, .null, .null, .int 0, .null, .null, .null, .null, .long 0, .null, .null, .int 0, .long 0, .int 0]) (ty0 := tyX12) G hin hw tyX12_ok nmX12 in_X12_init_X12 rfl h_316 (by decide) (by decide +kernel) rfl rfl rfl rfl rfl (Nat.le_of_ble_eq_true rfl) rfl dX12_init_199 (fun f_329 H_330 locs h_331 x_332 hw => ?_)
  have h_6 := h_6.ext x_332 (Ne.symm ne_8)
  have h_44 := h_44.ext x_332 (Ne.symm ne_46)
  have h_57 := h_57.ext x_332 (Ne.symm ne_59)
  refine lv_aload_n G.1 G.2.1 dX12_init_202 rfl (lv_at hl 0 rfl) ?_
  refine lv_sipush (v := 600) G.1 G.2.1 dX12_init_203 (by decide) ?_
  refine py_newI (N := 600) G hw (by decide +kernel) (by decide) (by decide) (Nat.le_of_ble_eq_true rfl) (Nat.le_of_ble_eq_true rfl) (Nat.le_of_ble_eq_true rfl) dX12_init_206 (fun q_333 L_334 f_335 H_336 hq_337 h_338 x_339 hw => ?_)
  have ne_340 : h ≠ q_333 := py_ne_new h_331 hq_337
  have h_331 := h_331.all x_339
  have ne_341 : q_1 ≠ q_333 := py_ne_new h_6 hq_337
  have h_6 := h_6.all x_339
  have ne_342 : q_39 ≠ q_333 := py_ne_new h_44 hq_337
  have h_44 := h_44.all x_339
  have ne_343 : q_52 ≠ q_333 := py_ne_new h_57 hq_337
  have h_57 := h_57.all x_339
  refine py_putF (C := RX12) (T := TX12) (N := 54) (k := 39) (v := .ref q_333) (fs' := [.int 0, .ref q_1, .int 0, .int 0, .int 0, .int 0, .ref q_13, .ref q_26, .ref q_39, .ref q_52, .ref q_66, .ref q_81, .ref q_96, .int 0, .int 0, .ref q_111, .ref q_126, .ref q_141, .ref q_156, .int 0, .int 0, .ref q_171, .ref q_186, .ref q_201, .int 0, .int 0, .ref q_216, .ref q_231, .ref q_246, .int 0, .long 0, .int (-1), .int 50, .int 0, .int 10, .ref q_273, .ref q_288, .ref q_303, .ref q_318, .ref q_333, .null, .null, .null, .int 0, .null, .null, .null, .null, .long 0, .null, .null, .int 0, .long 0, .int 0]) (ty0 := tyX12) G hin hw tyX12_ok nmX12 in_X12_init_X12 rfl h_331 (by decide) (by decide +kernel) rfl rfl rfl rfl rfl (Nat.le_of_ble_eq_true rfl) rfl dX12_init_208 (fun f_344 H_345 locs h_346 x_347 hw => ?_)
  have h_6 := h_6.ext x_347 (Ne.symm ne_8)
  have h_44 := h_44.ext x_347 (Ne.symm ne_46)
  have h_57 := h_57.ext x_347 (Ne.symm ne_59)
  refine lv_aload_n G.1 G.2.1 dX12_init_211 rfl (lv_at hl 0 rfl) ?_
  refine lv_bipush (v := 40) G.1 G.2.1 dX12_init_212 (by decide) ?_
  refine py_newI (N := 40) G hw (by decide +kernel) (by decide) (by decide) (Nat.le_of_ble_eq_true rfl) (Nat.le_of_ble_eq_true rfl) (Nat.le_of_ble_eq_true rfl) dX12_init_214 (fun q_348 L_349 f_350 H_351 hq_352 h_353 x_354 hw => ?_)
  have ne_355 : h ≠ q_348 := py_ne_new h_346 hq_352
  have h_346 := h_346.all x_354
  have ne_356 : q_1 ≠ q_348 := py_ne_new h_6 hq_352
  have h_6 := h_6.all x_354
  have ne_357 : q_39 ≠ q_348 := py_ne_new h_44 hq_352
  have h_44 := h_44.all x_354
  have ne_358 : q_52 ≠ q_348 := py_ne_new h_57 hq_352
  have h_57 := h_57.all x_354
  refine py_putF (C := RX12) (T := TX12) (N := 54) (k := 40) (v := .ref q_348) (fs' := [.int 0, .ref q_1, .int 0, .int 0, .int 0, .int 0, .ref q_13, .ref q_26, .ref q_39, .ref q_52, .ref q_66, .ref q_81, .ref q_96, .int 0, .int 0, .ref q_111, .ref q_126, .ref q_141, .ref q_156, .int 0, .int 0, .ref q_171, .ref q_186, .ref q_201, .int 0, .int 0, .ref q_216, .ref q_231, .ref q_246, .int 0, .long 0, .int (-1), .int 50, .int 0, .int 10, .ref q_273, .ref q_288, .ref q_303, .ref q_318, .ref q_333, .ref q_348, .null, .null, .int 0, .null, .null, .null, .null, .long 0, .null, .null, .int 0, .long 0, .int 0]) (ty0 := tyX12) G hin hw tyX12_ok nmX12 in_X12_init_X12 rfl h_346 (by decide) (by decide +kernel) rfl rfl rfl rfl rfl (Nat.le_of_ble_eq_true rfl) rfl dX12_init_216 (fun f_359 H_360 locs h_361 x_362 hw => ?_)
  have h_6 := h_6.ext x_362 (Ne.symm ne_8)
  have h_44 := h_44.ext x_362 (Ne.symm ne_46)
  have h_57 := h_57.ext x_362 (Ne.symm ne_59)
  refine lv_aload_n G.1 G.2.1 dX12_init_219 rfl (lv_at hl 0 rfl) ?_
  refine lv_bipush (v := 40) G.1 G.2.1 dX12_init_220 (by decide) ?_
  refine py_newI (N := 40) G hw (by decide +kernel) (by decide) (by decide) (Nat.le_of_ble_eq_true rfl) (Nat.le_of_ble_eq_true rfl) (Nat.le_of_ble_eq_true rfl) dX12_init_222 (fun q_363 L_364 f_365 H_366 hq_367 h_368 x_369 hw => ?_)
  have ne_370 : h ≠ q_363 := py_ne_new h_361 hq_367
  have h_361 := h_361.all x_369
  have ne_371 : q_1 ≠ q_363 := py_ne_new h_6 hq_367
  have h_6 := h_6.all x_369
  have ne_372 : q_39 ≠ q_363 := py_ne_new h_44 hq_367
  have h_44 := h_44.all x_369
  have ne_373 : q_52 ≠ q_363 := py_ne_new h_57 hq_367
  have h_57 := h_57.all x_369
  refine py_putF (C := RX12) (T := TX12) (N := 54) (k := 41) (v := .ref q_363) (fs' := [.int 0, .ref q_1, .int 0, .int 0, .int 0, .int 0, .ref q_13, .ref q_26, .ref q_39, .ref q_52, .ref q_66, .ref q_81, .ref q_96, .int 0, .int 0, .ref q_111, .ref q_126, .ref q_141, .ref q_156, .int 0, .int 0, .ref q_171, .ref q_186, .ref q_201, .int 0, .int 0, .ref q_216, .ref q_231, .ref q_246, .int 0, .long 0, .int (-1), .int 50, .int 0, .int 10, .ref q_273, .ref q_288, .ref q_303, .ref q_318, .ref q_333, .ref q_348, .ref q_363, .null, .int 0, .null, .null, .null, .null, .long 0, .null, .null, .int 0, .long 0, .int 0]) (ty0 := tyX12) G hin hw tyX12_ok nmX12 in_X12_init_X12 rfl h_361 (by decide) (by decide +kernel) rfl rfl rfl rfl rfl (Nat.le_of_ble_eq_true rfl) rfl dX12_init_224 (fun f_374 H_375 locs h_376 x_377 hw => ?_)
  have h_6 := h_6.ext x_377 (Ne.symm ne_8)
  have h_44 := h_44.ext x_377 (Ne.symm ne_46)
  have h_57 := h_57.ext x_377 (Ne.symm ne_59)
  refine lv_aload_n G.1 G.2.1 dX12_init_227 rfl (lv_at hl 0 rfl) ?_
  refine lv_bipush (v := 40) G.1 G.2.1 dX12_init_228 (by decide) ?_
  refine py_newI (N := 40) G hw (by decide +kernel) (by decide) (by decide) (Nat.le_of_ble_eq_true rfl) (Nat.le_of_ble_eq_true rfl) (Nat.le_of_ble_eq_true rfl) dX12_init_230 (fun q_378 L_379 f_380 H_381 hq_382 h_383 x_384 hw => ?_)
  have ne_385 : h ≠ q_378 := py_ne_new h_376 hq_382
  have h_376 := h_376.all x_384
  have ne_386 : q_1 ≠ q_378 := py_ne_new h_6 hq_382
  have h_6 := h_6.all x_384
  have ne_387 : q_39 ≠ q_378 := py_ne_new h_44 hq_382
  have h_44 := h_44.all x_384
  have ne_388 : q_52 ≠ q_378 := py_ne_new h_57 hq_382
  have h_57 := h_57.all x_384
  refine py_putF (C := RX12) (T := TX12) (N := 54) (k := 42) (v := .ref q_378) (fs' := [.int 0, .ref q_1, .int 0, .int 0, .int 0, .int 0, .ref q_13, .ref q_26, .ref q_39, .ref q_52, .ref q_66, .ref q_81, .ref q_96, .int 0, .int 0, .ref q_111, .ref q_126, .ref q_141, .ref q_156, .int 0, .int 0, .ref q_171, .ref q_186, .ref q_201, .int 0, .int 0, .ref q_216, .ref q_231, .ref q_246, .int 0, .long 0, .int (-1), .int 50, .int 0, .int 10, .ref q_273, .ref q_288, .ref q_303, .ref q_318, .ref q_333, .ref q_348, .ref q_363, .ref q_378, .int 0, .null, .null, .null, .null, .long 0, .null, .null, .int 0, .long 0, .int 0]) (ty0 := tyX12) G hin hw tyX12_ok nmX12 in_X12_init_X12 rfl h_376 (by decide) (by decide +kernel) rfl rfl rfl rfl rfl (Nat.le_of_ble_eq_true rfl) rfl dX12_init_232 (fun f_389 H_390 locs h_391 x_392 hw => ?_)
  have h_6 := h_6.ext x_392 (Ne.symm ne_8)
  have h_44 := h_44.ext x_392 (Ne.symm ne_46)
  have h_57 := h_57.ext x_392 (Ne.symm ne_59)
  refine lv_aload_n G.1 G.2.1 dX12_init_235 rfl (lv_at hl 0 rfl) ?_
  refine lv_bipush (v := 8) G.1 G.2.1 dX12_init_236 (by decide) ?_
  refine py_newI (N := 8) G hw (by decide +kernel) (by decide) (by decide) (Nat.le_of_ble_eq_true rfl) (Nat.le_of_ble_eq_true rfl) (Nat.le_of_ble_eq_true rfl) dX12_init_238 (fun q_393 L_394 f_395 H_396 hq_397 h_398 x_399 hw => ?_)
  have ne_400 : h ≠ q_393 := py_ne_new h_391 hq_397
  have h_391 := h_391.all x_399
  have ne_401 : q_1 ≠ q_393 := py_ne_new h_6 hq_397
  have h_6 := h_6.all x_399
  have ne_402 : q_39 ≠ q_393 := py_ne_new h_44 hq_397
  have h_44 := h_44.all x_399
  have ne_403 : q_52 ≠ q_393 := py_ne_new h_57 hq_397
  have h_57 := h_57.all x_399
  refine py_putF (C := RX12) (T := TX12) (N := 54) (k := 44) (v := .ref q_393) (fs' := [.int 0, .ref q_1, .int 0, .int 0, .int 0, .int 0, .ref q_13, .ref q_26, .ref q_39, .ref q_52, .ref q_66, .ref q_81, .ref q_96, .int 0, .int 0, .ref q_111, .ref q_126, .ref q_141, .ref q_156, .int 0, .int 0, .ref q_171, .ref q_186, .ref q_201, .int 0, .int 0, .ref q_216, .ref q_231, .ref q_246, .int 0, .long 0, .int (-1), .int 50, .int 0, .int 10, .ref q_273, .ref q_288, .ref q_303, .ref q_318, .ref q_333, .ref q_348, .ref q_363, .ref q_378, .int 0, .ref q_393, .null, .null, .null, .long 0, .null, .null, .int 0, .long 0, .int 0]) (ty0 := tyX12) G hin hw tyX12_ok nmX12 in_X12_init_X12 rfl h_391 (by decide) (by decide +kernel) rfl rfl rfl rfl rfl (Nat.le_of_ble_eq_true rfl) rfl dX12_init_240 (fun f_404 H_405 locs h_406 x_407 hw => ?_)
  have h_6 := h_6.ext x_407 (Ne.symm ne_8)
  have h_44 := h_44.ext x_407 (Ne.symm ne_46)
  have h_57 := h_57.ext x_407 (Ne.symm ne_59)
  refine lv_aload_n G.1 G.2.1 dX12_init_243 rfl (lv_at hl 0 rfl) ?_
  refine lv_sipush (v := 168) G.1 G.2.1 dX12_init_244 (by decide) ?_
  refine py_newJ (N := 168) G hw (by decide +kernel) (by decide) (by decide) (Nat.le_of_ble_eq_true rfl) (Nat.le_of_ble_eq_true rfl) (Nat.le_of_ble_eq_true rfl) dX12_init_247 (fun q_408 L_409 f_410 H_411 hq_412 h_413 x_414 hw => ?_)
  have ne_415 : h ≠ q_408 := py_ne_new h_406 hq_412
  have h_406 := h_406.all x_414
  have ne_416 : q_1 ≠ q_408 := py_ne_new h_6 hq_412
  have h_6 := h_6.all x_414
  have ne_417 : q_39 ≠ q_408 := py_ne_new h_44 hq_412
  have h_44 := h_44.all x_414
  have ne_418 : q_52 ≠ q_408 := py_ne_new h_57 hq_412
  have h_57 := h_57.all x_414
  refine py_putF (C := RX12) (T := TX12) (N := 54) (k := 45) (v := .ref q_408) (fs' := [.int 0, .ref q_1, .int 0, .int 0, .int 0, .int 0, .ref q_13, .ref q_26, .ref q_39, .ref q_52, .ref q_66, .ref q_81, .ref q_96, .int 0, .int 0, .ref q_111, .ref q_126, .ref q_141, .ref q_156, .int 0, .int 0, .ref q_171, .ref q_186, .ref q_201, .int 0, .int 0, .ref q_216, .ref q_231, .ref q_246, .int 0, .long 0, .int (-1), .int 50, .int 0, .int 10, .ref q_273, .ref q_288, .ref q_303, .ref q_318, .ref q_333, .ref q_348, .ref q_363, .ref q_378, .int 0, .ref q_393, .ref q_408, .null, .null, .long 0, .null, .null, .int 0, .long 0, .int 0]) (ty0 := tyX12) G hin hw tyX12_ok nmX12 in_X12_init_X12 rfl h_406 (by decide) (by decide +kernel) rfl rfl rfl rfl rfl (Nat.le_of_ble_eq_true rfl) rfl dX12_init_249 (fun f_419 H_420 locs h_421 x_422 hw => ?_)
  have h_6 := h_6.ext x_422 (Ne.symm ne_8)
  have h_44 := h_44.ext x_422 (Ne.symm ne_46)
  have h_57 := h_57.ext x_422 (Ne.symm ne_59)
  refine lv_aload_n G.1 G.2.1 dX12_init_252 rfl (lv_at hl 0 rfl) ?_
  refine lv_sipush (v := 168) G.1 G.2.1 dX12_init_253 (by decide) ?_
  refine py_newJ (N := 168) G hw (by decide +kernel) (by decide) (by decide) (Nat.le_of_ble_eq_true rfl) (Nat.le_of_ble_eq_true rfl) (Nat.le_of_ble_eq_true rfl) dX12_init_256 (fun q_423 L_424 f_425 H_426 hq_427 h_428 x_429 hw => ?_)
  have ne_430 : h ≠ q_423 := py_ne_new h_421 hq_427
  have h_421 := h_421.all x_429
  have ne_431 : q_1 ≠ q_423 := py_ne_new h_6 hq_427
  have h_6 := h_6.all x_429
  have ne_432 : q_39 ≠ q_423 := py_ne_new h_44 hq_427
  have h_44 := h_44.all x_429
  have ne_433 : q_52 ≠ q_423 := py_ne_new h_57 hq_427
  have h_57 := h_57.all x_429
  refine py_putF (C := RX12) (T := TX12) (N := 54) (k := 46) (v := .ref q_423) (fs' := [.int 0, .ref q_1, .int 0, .int 0, .int 0, .int 0, .ref q_13, .ref q_26, .ref q_39, .ref q_52, .ref q_66, .ref q_81, .ref q_96, .int 0, .int 0, .ref q_111, .ref q_126, .ref q_141, .ref q_156, .int 0, .int 0, .ref q_171, .ref q_186, .ref q_201, .int 0, .int 0, .ref q_216, .ref q_231, .ref q_246, .int 0, .long 0, .int (-1), .int 50, .int 0, .int 10, .ref q_273, .ref q_288, .ref q_303, .ref q_318, .ref q_333, .ref q_348, .ref q_363, .ref q_378, .int 0, .ref q_393, .ref q_408, .ref q_423, .null, .long 0, .null, .null, .int 0, .long 0, .int 0]) (ty0 := tyX12) G hin hw tyX12_ok nmX12 in_X12_init_X12 rfl h_421 (by decide) (by decide +kernel) rfl rfl rfl rfl rfl (Nat.le_of_ble_eq_true rfl) rfl dX12_init_258 (fun f_434 H_435 locs h_436 x_437 hw => ?_)
  have h_6 := h_6.ext x_437 (Ne.symm ne_8)
  have h_44 := h_44.ext x_437 (Ne.symm ne_46)
  have h_57 := h_57.ext x_437 (Ne.symm ne_59)
  refine lv_aload_n G.1 G.2.1 dX12_init_261 rfl (lv_at hl 0 rfl) ?_
  refine lv_bipush (v := 22) G.1 G.2.1 dX12_init_262 (by decide) ?_
  refine py_newJ (N := 22) G hw (by decide +kernel) (by decide) (by decide) (Nat.le_of_ble_eq_true rfl) (Nat.le_of_ble_eq_true rfl) (Nat.le_of_ble_eq_true rfl) dX12_init_264 (fun q_438 L_439 f_440 H_441 hq_442 h_443 x_444 hw => ?_)
  have ne_445 : h ≠ q_438 := py_ne_new h_436 hq_442
  have h_436 := h_436.all x_444
  have ne_446 : q_1 ≠ q_438 := py_ne_new h_6 hq_442
  have h_6 := h_6.all x_444
  have ne_447 : q_39 ≠ q_438 := py_ne_new h_44 hq_442
  have h_44 := h_44.all x_444
  have ne_448 : q_52 ≠ q_438 := py_ne_new h_57 hq_442
  have h_57 := h_57.all x_444
  refine py_putF (C := RX12) (T := TX12) (N := 54) (k := 47) (v := .ref q_438) (fs' := [.int 0, .ref q_1, .int 0, .int 0, .int 0, .int 0, .ref q_13, .ref q_26, .ref q_39, .ref q_52, .ref q_66, .ref q_81, .ref q_96, .int 0, .int 0, .ref q_111, .ref q_126, .ref q_141, .ref q_156, .int 0, .int 0, .ref q_171, .ref q_186, .ref q_201, .int 0, .int 0, .ref q_216, .ref q_231, .ref q_246, .int 0, .long 0, .int (-1), .int 50, .int 0, .int 10, .ref q_273, .ref q_288, .ref q_303, .ref q_318, .ref q_333, .ref q_348, .ref q_363, .ref q_378, .int 0, .ref q_393, .ref q_408, .ref q_423, .ref q_438, .long 0, .null, .null, .int 0, .long 0, .int 0]) (ty0 := tyX12) G hin hw tyX12_ok nmX12 in_X12_init_X12 rfl h_436 (by decide) (by decide +kernel) rfl rfl rfl rfl rfl (Nat.le_of_ble_eq_true rfl) rfl dX12_init_266 (fun f_449 H_450 locs h_451 x_452 hw => ?_)
  have h_6 := h_6.ext x_452 (Ne.symm ne_8)
  have h_44 := h_44.ext x_452 (Ne.symm ne_46)
  have h_57 := h_57.ext x_452 (Ne.symm ne_59)
  refine lv_aload_n G.1 G.2.1 dX12_init_269 rfl (lv_at hl 0 rfl) ?_
  refine lv_sipush (v := 600) G.1 G.2.1 dX12_init_270 (by decide) ?_
  refine py_newI (N := 600) G hw (by decide +kernel) (by decide) (by decide) (Nat.le_of_ble_eq_true rfl) (Nat.le_of_ble_eq_true rfl) (Nat.le_of_ble_eq_true rfl) dX12_init_273 (fun q_453 L_454 f_455 H_456 hq_457 h_458 x_459 hw => ?_)
  have ne_460 : h ≠ q_453 := py_ne_new h_451 hq_457
  have h_451 := h_451.all x_459
  have ne_461 : q_1 ≠ q_453 := py_ne_new h_6 hq_457
  have h_6 := h_6.all x_459
  have ne_462 : q_39 ≠ q_453 := py_ne_new h_44 hq_457
  have h_44 := h_44.all x_459
  have ne_463 : q_52 ≠ q_453 := py_ne_new h_57 hq_457
  have h_57 := h_57.all x_459
  refine py_putF (C := RX12) (T := TX12) (N := 54) (k := 49) (v := .ref q_453) (fs' := [.int 0, .ref q_1, .int 0, .int 0, .int 0, .int 0, .ref q_13, .ref q_26, .ref q_39, .ref q_52, .ref q_66, .ref q_81, .ref q_96, .int 0, .int 0, .ref q_111, .ref q_126, .ref q_141, .ref q_156, .int 0, .int 0, .ref q_171, .ref q_186, .ref q_201, .int 0, .int 0, .ref q_216, .ref q_231, .ref q_246, .int 0, .long 0, .int (-1), .int 50, .int 0, .int 10, .ref q_273, .ref q_288, .ref q_303, .ref q_318, .ref q_333, .ref q_348, .ref q_363, .ref q_378, .int 0, .ref q_393, .ref q_408, .ref q_423, .ref q_438, .long 0, .ref q_453, .null, .int 0, .long 0, .int 0]) (ty0 := tyX12) G hin hw tyX12_ok nmX12 in_X12_init_X12 rfl h_451 (by decide) (by decide +kernel) rfl rfl rfl rfl rfl (Nat.le_of_ble_eq_true rfl) rfl dX12_init_275 (fun f_464 H_465 locs h_466 x_467 hw => ?_)
  have h_6 := h_6.ext x_467 (Ne.symm ne_8)
  have h_44 := h_44.ext x_467 (Ne.symm ne_46)
  have h_57 := h_57.ext x_467 (Ne.symm ne_59)
  refine lv_aload_n G.1 G.2.1 dX12_init_278 rfl (lv_at hl 0 rfl) ?_
  refine lv_sipush (v := 600) G.1 G.2.1 dX12_init_279 (by decide) ?_
  refine py_newI (N := 600) G hw (by decide +kernel) (by decide) (by decide) (Nat.le_of_ble_eq_true rfl) (Nat.le_of_ble_eq_true rfl) (Nat.le_of_ble_eq_true rfl) dX12_init_282 (fun q_468 L_469 f_470 H_471 hq_472 h_473 x_474 hw => ?_)
  have ne_475 : h ≠ q_468 := py_ne_new h_466 hq_472
  have h_466 := h_466.all x_474
  have ne_476 : q_1 ≠ q_468 := py_ne_new h_6 hq_472
  have h_6 := h_6.all x_474
  have ne_477 : q_39 ≠ q_468 := py_ne_new h_44 hq_472
  have h_44 := h_44.all x_474
  have ne_478 : q_52 ≠ q_468 := py_ne_new h_57 hq_472
  have h_57 := h_57.all x_474
  refine py_putF (C := RX12) (T := TX12) (N := 54) (k := 50) (v := .ref q_468) (fs' := [.int 0, .ref q_1, .int 0, .int 0, .int 0, .int 0, .ref q_13, .ref q_26, .ref q_39, .ref q_52, .ref q_66, .ref q_81, .ref q_96, .int 0, .int 0, .ref q_111, .ref q_126, .ref q_141, .ref q_156, .int 0, .int 0, .ref q_171, .ref q_186, .ref q_201, .int 0, .int 0, .ref q_216, .ref q_231, .ref q_246, .int 0, .long 0, .int (-1), .int 50, .int 0, .int 10, .ref q_273, .ref q_288, .ref q_303, .ref q_318, .ref q_333, .ref q_348, .ref q_363, .ref q_378, .int 0, .ref q_393, .ref q_408, .ref q_423, .ref q_438, .long 0, .ref q_453, .ref q_468, .int 0, .long 0, .int 0]) (ty0 := tyX12) G hin hw tyX12_ok nmX12 in_X12_init_X12 rfl h_466 (by decide) (by decide +kernel) rfl rfl rfl rfl rfl (Nat.le_of_ble_eq_true rfl) rfl dX12_init_284 (fun f_479 H_480 locs h_481 x_482 hw => ?_)
  have h_6 := h_6.ext x_482 (Ne.symm ne_8)
  have h_44 := h_44.ext x_482 (Ne.symm ne_46)
  have h_57 := h_57.ext x_482 (Ne.symm ne_59)
  refine W.widen (k := 32) (n := 8314) (Nat.le_of_ble_eq_true rfl) (Nat.le_of_ble_eq_true rfl) ?_
  have xt_483 : py_ext L f L_469 f_479 h := fun b hb hn => by
    have n1 : b ≠ q_1 := fun h => hq_5 (h ▸ hb)
    obtain ⟨m1, e1⟩ := x_7 b hb
    obtain ⟨m2, e2⟩ := x_12 b m1 hn
    have n3 : b ≠ q_13 := fun h => hq_17 (h ▸ m2)
    obtain ⟨m3, e3⟩ := x_19 b m2
    obtain ⟨m4, e4⟩ := x_25 b m3 hn
    have n5 : b ≠ q_26 := fun h => hq_30 (h ▸ m4)
    obtain ⟨m5, e5⟩ := x_32 b m4
    obtain ⟨m6, e6⟩ := x_38 b m5 hn
    have n7 : b ≠ q_39 := fun h => hq_43 (h ▸ m6)
    obtain ⟨m7, e7⟩ := x_45 b m6
    obtain ⟨m8, e8⟩ := x_51 b m7 hn
    have n9 : b ≠ q_52 := fun h => hq_56 (h ▸ m8)
    obtain ⟨m9, e9⟩ := x_58 b m8
    obtain ⟨m10, e10⟩ := x_65 b m9 hn
    have n11 : b ≠ q_66 := fun h => hq_70 (h ▸ m10)
    obtain ⟨m11, e11⟩ := x_72 b m10
    obtain ⟨m12, e12⟩ := x_80 b m11 hn
    have n13 : b ≠ q_81 := fun h => hq_85 (h ▸ m12)
    obtain ⟨m13, e13⟩ := x_87 b m12
    obtain ⟨m14, e14⟩ := x_95 b m13 hn
    have n15 : b ≠ q_96 := fun h => hq_100 (h ▸ m14)
    obtain ⟨m15, e15⟩ := x_102 b m14
    obtain ⟨m16, e16⟩ := x_110 b m15 hn
    have n17 : b ≠ q_111 := fun h => hq_115 (h ▸ m16)
    obtain ⟨m17, e17⟩ := x_117 b m16
    obtain ⟨m18, e18⟩ := x_125 b m17 hn
    have n19 : b ≠ q_126 := fun h => hq_130 (h ▸ m18)
    obtain ⟨m19, e19⟩ := x_132 b m18
    obtain ⟨m20, e20⟩ := x_140 b m19 hn
    have n21 : b ≠ q_141 := fun h => hq_145 (h ▸ m20)
    obtain ⟨m21, e21⟩ := x_147 b m20
    obtain ⟨m22, e22⟩ := x_155 b m21 hn
    have n23 : b ≠ q_156 := fun h => hq_160 (h ▸ m22)
    obtain ⟨m23, e23⟩ := x_162 b m22
    obtain ⟨m24, e24⟩ := x_170 b m23 hn
    have n25 : b ≠ q_171 := fun h => hq_175 (h ▸ m24)
    obtain ⟨m25, e25⟩ := x_177 b m24
    obtain ⟨m26, e26⟩ := x_185 b m25 hn
    have n27 : b ≠ q_186 := fun h => hq_190 (h ▸ m26)
    obtain ⟨m27, e27⟩ := x_192 b m26
    obtain ⟨m28, e28⟩ := x_200 b m27 hn
    have n29 : b ≠ q_201 := fun h => hq_205 (h ▸ m28)
    obtain ⟨m29, e29⟩ := x_207 b m28
    obtain ⟨m30, e30⟩ := x_215 b m29 hn
    have n31 : b ≠ q_216 := fun h => hq_220 (h ▸ m30)
    obtain ⟨m31, e31⟩ := x_222 b m30
    obtain ⟨m32, e32⟩ := x_230 b m31 hn
    have n33 : b ≠ q_231 := fun h => hq_235 (h ▸ m32)
    obtain ⟨m33, e33⟩ := x_237 b m32
    obtain ⟨m34, e34⟩ := x_245 b m33 hn
    have n35 : b ≠ q_246 := fun h => hq_250 (h ▸ m34)
    obtain ⟨m35, e35⟩ := x_252 b m34
    obtain ⟨m36, e36⟩ := x_260 b m35 hn
    obtain ⟨m37, e37⟩ := x_264 b m36 hn
    obtain ⟨m38, e38⟩ := x_268 b m37 hn
    obtain ⟨m39, e39⟩ := x_272 b m38 hn
    have n40 : b ≠ q_273 := fun h => hq_277 (h ▸ m39)
    obtain ⟨m40, e40⟩ := x_279 b m39
    obtain ⟨m41, e41⟩ := x_287 b m40 hn
    have n42 : b ≠ q_288 := fun h => hq_292 (h ▸ m41)
    obtain ⟨m42, e42⟩ := x_294 b m41
    obtain ⟨m43, e43⟩ := x_302 b m42 hn
    have n44 : b ≠ q_303 := fun h => hq_307 (h ▸ m43)
    obtain ⟨m44, e44⟩ := x_309 b m43
    obtain ⟨m45, e45⟩ := x_317 b m44 hn
    have n46 : b ≠ q_318 := fun h => hq_322 (h ▸ m45)
    obtain ⟨m46, e46⟩ := x_324 b m45
    obtain ⟨m47, e47⟩ := x_332 b m46 hn
    have n48 : b ≠ q_333 := fun h => hq_337 (h ▸ m47)
    obtain ⟨m48, e48⟩ := x_339 b m47
    obtain ⟨m49, e49⟩ := x_347 b m48 hn
    have n50 : b ≠ q_348 := fun h => hq_352 (h ▸ m49)
    obtain ⟨m50, e50⟩ := x_354 b m49
    obtain ⟨m51, e51⟩ := x_362 b m50 hn
    have n52 : b ≠ q_363 := fun h => hq_367 (h ▸ m51)
    obtain ⟨m52, e52⟩ := x_369 b m51
    obtain ⟨m53, e53⟩ := x_377 b m52 hn
    have n54 : b ≠ q_378 := fun h => hq_382 (h ▸ m53)
    obtain ⟨m54, e54⟩ := x_384 b m53
    obtain ⟨m55, e55⟩ := x_392 b m54 hn
    have n56 : b ≠ q_393 := fun h => hq_397 (h ▸ m55)
    obtain ⟨m56, e56⟩ := x_399 b m55
    obtain ⟨m57, e57⟩ := x_407 b m56 hn
    have n58 : b ≠ q_408 := fun h => hq_412 (h ▸ m57)
    obtain ⟨m58, e58⟩ := x_414 b m57
    obtain ⟨m59, e59⟩ := x_422 b m58 hn
    have n60 : b ≠ q_423 := fun h => hq_427 (h ▸ m59)
    obtain ⟨m60, e60⟩ := x_429 b m59
    obtain ⟨m61, e61⟩ := x_437 b m60 hn
    have n62 : b ≠ q_438 := fun h => hq_442 (h ▸ m61)
    obtain ⟨m62, e62⟩ := x_444 b m61
    obtain ⟨m63, e63⟩ := x_452 b m62 hn
    have n64 : b ≠ q_453 := fun h => hq_457 (h ▸ m63)
    obtain ⟨m64, e64⟩ := x_459 b m63
    obtain ⟨m65, e65⟩ := x_467 b m64 hn
    have n66 : b ≠ q_468 := fun h => hq_472 (h ▸ m65)
    obtain ⟨m66, e66⟩ := x_474 b m65
    obtain ⟨m67, e67⟩ := x_482 b m66 hn
    exact ⟨m67, e67.trans (e66.trans (e65.trans (e64.trans (e63.trans (e62.trans (e61.trans (e60.trans (e59.trans (e58.trans (e57.trans (e56.trans (e55.trans (e54.trans (e53.trans (e52.trans (e51.trans (e50.trans (e49.trans (e48.trans (e47.trans (e46.trans (e45.trans (e44.trans (e43.trans (e42.trans (e41.trans (e40.trans (e39.trans (e38.trans (e37.trans (e36.trans (e35.trans (e34.trans (e33.trans (e32.trans (e31.trans (e30.trans (e29.trans (e28.trans (e27.trans (e26.trans (e25.trans (e24.trans (e23.trans (e22.trans (e21.trans (e20.trans (e19.trans (e18.trans (e17.trans (e16.trans (e15.trans (e14.trans (e13.trans (e12.trans (e11.trans (e10.trans (e9.trans (e8.trans (e7.trans (e6.trans (e5.trans (e4.trans (e3.trans (e2.trans (e1.trans (rfl)))))))))))))))))))))))))))))))))))))))))))))))))))))))))))))))))))⟩
  exact py_vret G hr hlk hw ⟨⟨q_1, q_39, q_52, _, _, _, _, _, _, _, h_481, rfl, rfl, rfl, rfl, rfl, rfl, rfl, rfl, rfl, rfl, rfl, rfl, ⟨rfl, rfl, rfl⟩, h_6, h_44, h_57⟩, xt_483⟩ dX12_init_287
end
section
theorem dX11_advice_0 : decode cX11_advice 0 = .ok (.aload_n 0, 1) := by decide +kernel
theorem dX11_advice_1 : decode cX11_advice 1 = .ok (.iload_n 1, 1) := by decide +kernel
theorem dX11_advice_2 : decode cX11_advice 2 = .ok (.invokevirtual 246, 3) := by decide +kernel
theorem dX11_advice_5 : decode cX11_advice 5 = .ok (.ifCond .eq 19, 3) := by decide +kernel
theorem dX11_advice_24 : decode cX11_advice 24 = .ok (.ldc 166, 2) := by decide +kernel
theorem dX11_advice_26 : decode cX11_advice 26 = .ok (.ireturn, 1) := by decide +kernel
theorem dX11_back_0 : decode cX11_back 0 = .ok (.aload_n 0, 1) := by decide +kernel
theorem dX11_back_1 : decode cX11_back 1 = .ok (.getfield 101, 3) := by decide +kernel
theorem dX11_back_4 : decode cX11_back 4 = .ok (.ifCond .ne 5, 3) := by decide +kernel
theorem dX11_back_7 : decode cX11_back 7 = .ok (.iconst (-1), 1) := by decide +kernel
theorem dX11_back_8 : decode cX11_back 8 = .ok (.ireturn, 1) := by decide +kernel
theorem dX11_buy_0 : decode cX11_buy 0 = .ok (.aload_n 0, 1) := by decide +kernel
theorem dX11_buy_1 : decode cX11_buy 1 = .ok (.iload_n 1, 1) := by decide +kernel
theorem dX11_buy_2 : decode cX11_buy 2 = .ok (.invokevirtual 246, 3) := by decide +kernel
theorem dX11_buy_5 : decode cX11_buy 5 = .ok (.ifCond .eq 26, 3) := by decide +kernel
theorem dX11_buy_31 : decode cX11_buy 31 = .ok (.iconst (-1), 1) := by decide +kernel
theorem dX11_buy_32 : decode cX11_buy 32 = .ok (.ireturn, 1) := by decide +kernel
theorem dX11_climb_0 : decode cX11_climb 0 = .ok (.aload_n 0, 1) := by decide +kernel
theorem dX11_climb_1 : decode cX11_climb 1 = .ok (.iload_n 1, 1) := by decide +kernel
theorem dX11_climb_2 : decode cX11_climb 2 = .ok (.invokevirtual 163, 3) := by decide +kernel
theorem dX11_climb_5 : decode cX11_climb 5 = .ok (.ifCond .eq 10, 3) := by decide +kernel
theorem dX11_climb_15 : decode cX11_climb 15 = .ok (.ldc 166, 2) := by decide +kernel
theorem dX11_climb_17 : decode cX11_climb 17 = .ok (.ireturn, 1) := by decide +kernel
theorem dX11_diary_0 : decode cX11_diary 0 = .ok (.aload_n 0, 1) := by decide +kernel
theorem dX11_diary_1 : decode cX11_diary 1 = .ok (.iload_n 1, 1) := by decide +kernel
theorem dX11_diary_2 : decode cX11_diary 2 = .ok (.invokevirtual 163, 3) := by decide +kernel
theorem dX11_diary_5 : decode cX11_diary 5 = .ok (.ifCond .eq 25, 3) := by decide +kernel
theorem dX11_diary_30 : decode cX11_diary 30 = .ok (.ldc 166, 2) := by decide +kernel
theorem dX11_diary_32 : decode cX11_diary 32 = .ok (.ireturn, 1) := by decide +kernel
theorem dX11_end_0 : decode cX11_end 0 = .ok (.iload_n 1, 1) := by decide +kernel
theorem dX11_end_1 : decode cX11_end 1 = .ok (.ifCond .lt 14, 3) := by decide +kernel
theorem dX11_end_4 : decode cX11_end 4 = .ok (.iload_n 1, 1) := by decide +kernel
theorem dX11_end_5 : decode cX11_end 5 = .ok (.aload_n 0, 1) := by decide +kernel
theorem dX11_end_6 : decode cX11_end 6 = .ok (.getfield 10, 3) := by decide +kernel
theorem dX11_end_9 : decode cX11_end 9 = .ok (.getfield 109, 3) := by decide +kernel
theorem dX11_end_12 : decode cX11_end 12 = .ok (.if_icmp .le 5, 3) := by decide +kernel
theorem dX11_end_15 : decode cX11_end 15 = .ok (.iconst 0, 1) := by decide +kernel
theorem dX11_end_16 : decode cX11_end 16 = .ok (.ireturn, 1) := by decide +kernel
theorem dX11_end_17 : decode cX11_end 17 = .ok (.aload_n 0, 1) := by decide +kernel
theorem dX11_end_18 : decode cX11_end 18 = .ok (.getfield 10, 3) := by decide +kernel
theorem dX11_end_21 : decode cX11_end 21 = .ok (.iload_n 1, 1) := by decide +kernel
theorem dX11_end_22 : decode cX11_end 22 = .ok (.putfield 109, 3) := by decide +kernel
theorem dX11_end_25 : decode cX11_end 25 = .ok (.iconst 1, 1) := by decide +kernel
theorem dX11_end_26 : decode cX11_end 26 = .ok (.ireturn, 1) := by decide +kernel
theorem dX11_family_0 : decode cX11_family 0 = .ok (.aload_n 0, 1) := by decide +kernel
theorem dX11_family_1 : decode cX11_family 1 = .ok (.iload_n 1, 1) := by decide +kernel
theorem dX11_family_2 : decode cX11_family 2 = .ok (.invokevirtual 163, 3) := by decide +kernel
theorem dX11_family_5 : decode cX11_family 5 = .ok (.ifCond .ne 6, 3) := by decide +kernel
theorem dX11_family_8 : decode cX11_family 8 = .ok (.ldc 166, 2) := by decide +kernel
theorem dX11_family_10 : decode cX11_family 10 = .ok (.ireturn, 1) := by decide +kernel
theorem dX11_full_0 : decode cX11_full 0 = .ok (.aload_n 0, 1) := by decide +kernel
theorem dX11_full_1 : decode cX11_full 1 = .ok (.invokevirtual 218, 3) := by decide +kernel
theorem dX11_full_4 : decode cX11_full 4 = .ok (.ifCond .eq 13, 3) := by decide +kernel
theorem dX11_full_17 : decode cX11_full 17 = .ok (.iconst (-1), 1) := by decide +kernel
theorem dX11_full_18 : decode cX11_full 18 = .ok (.ireturn, 1) := by decide +kernel
theorem dX11_hasValley_0 : decode cX11_hasValley 0 = .ok (.aload_n 0, 1) := by decide +kernel
theorem dX11_hasValley_1 : decode cX11_hasValley 1 = .ok (.getfield 47, 3) := by decide +kernel
theorem dX11_hasValley_4 : decode cX11_hasValley 4 = .ok (.getfield 128, 3) := by decide +kernel
theorem dX11_hasValley_7 : decode cX11_hasValley 7 = .ok (.getfield 317, 3) := by decide +kernel
theorem dX11_hasValley_10 : decode cX11_hasValley 10 = .ok (.ifCond .le 7, 3) := by decide +kernel
theorem dX11_hasValley_17 : decode cX11_hasValley 17 = .ok (.iconst 0, 1) := by decide +kernel
theorem dX11_hasValley_18 : decode cX11_hasValley 18 = .ok (.ireturn, 1) := by decide +kernel
theorem dX11_hungry_0 : decode cX11_hungry 0 = .ok (.aload_n 0, 1) := by decide +kernel
theorem dX11_hungry_1 : decode cX11_hungry 1 = .ok (.invokevirtual 218, 3) := by decide +kernel
theorem dX11_hungry_4 : decode cX11_hungry 4 = .ok (.ifCond .eq 10, 3) := by decide +kernel
theorem dX11_hungry_14 : decode cX11_hungry 14 = .ok (.iconst (-1), 1) := by decide +kernel
theorem dX11_hungry_15 : decode cX11_hungry 15 = .ok (.ireturn, 1) := by decide +kernel
theorem dX11_hush_0 : decode cX11_hush 0 = .ok (.aload_n 0, 1) := by decide +kernel
theorem dX11_hush_1 : decode cX11_hush 1 = .ok (.iload_n 1, 1) := by decide +kernel
theorem dX11_hush_2 : decode cX11_hush 2 = .ok (.invokevirtual 246, 3) := by decide +kernel
theorem dX11_hush_5 : decode cX11_hush 5 = .ok (.ifCond .eq 16, 3) := by decide +kernel
theorem dX11_hush_21 : decode cX11_hush 21 = .ok (.iconst 0, 1) := by decide +kernel
theorem dX11_hush_22 : decode cX11_hush 22 = .ok (.ireturn, 1) := by decide +kernel
theorem dX11_hut_0 : decode cX11_hut 0 = .ok (.aload_n 0, 1) := by decide +kernel
theorem dX11_hut_1 : decode cX11_hut 1 = .ok (.iload_n 1, 1) := by decide +kernel
theorem dX11_hut_2 : decode cX11_hut 2 = .ok (.invokevirtual 132, 3) := by decide +kernel
theorem dX11_hut_5 : decode cX11_hut 5 = .ok (.ifCond .eq 15, 3) := by decide +kernel
theorem dX11_hut_20 : decode cX11_hut 20 = .ok (.iconst (-1), 1) := by decide +kernel
theorem dX11_hut_21 : decode cX11_hut 21 = .ok (.ireturn, 1) := by decide +kernel
theorem dX11_image_0 : decode cX11_image 0 = .ok (.aload_n 0, 1) := by decide +kernel
theorem dX11_image_1 : decode cX11_image 1 = .ok (.invokevirtual 218, 3) := by decide +kernel
theorem dX11_image_4 : decode cX11_image 4 = .ok (.ifCond .ne 5, 3) := by decide +kernel
theorem dX11_image_7 : decode cX11_image 7 = .ok (.iconst (-1), 1) := by decide +kernel
theorem dX11_image_8 : decode cX11_image 8 = .ok (.ireturn, 1) := by decide +kernel
theorem dX11_isFamily_0 : decode cX11_isFamily 0 = .ok (.iload_n 1, 1) := by decide +kernel
theorem dX11_isFamily_1 : decode cX11_isFamily 1 = .ok (.ifCond .lt 21, 3) := by decide +kernel
theorem dX11_isFamily_4 : decode cX11_isFamily 4 = .ok (.iload_n 1, 1) := by decide +kernel
theorem dX11_isFamily_5 : decode cX11_isFamily 5 = .ok (.aload_n 0, 1) := by decide +kernel
theorem dX11_isFamily_6 : decode cX11_isFamily 6 = .ok (.getfield 47, 3) := by decide +kernel
theorem dX11_isFamily_9 : decode cX11_isFamily 9 = .ok (.getfield 128, 3) := by decide +kernel
theorem dX11_isFamily_12 : decode cX11_isFamily 12 = .ok (.getfield 319, 3) := by decide +kernel
theorem dX11_isFamily_15 : decode cX11_isFamily 15 = .ok (.if_icmp .ge 7, 3) := by decide +kernel
theorem dX11_isFamily_18 : decode cX11_isFamily 18 = .ok (.iconst 1, 1) := by decide +kernel
theorem dX11_isFamily_19 : decode cX11_isFamily 19 = .ok (.goto 4, 3) := by decide +kernel
theorem dX11_isFamily_22 : decode cX11_isFamily 22 = .ok (.iconst 0, 1) := by decide +kernel
theorem dX11_isFamily_23 : decode cX11_isFamily 23 = .ok (.ireturn, 1) := by decide +kernel
theorem dX11_isLaw_0 : decode cX11_isLaw 0 = .ok (.iload_n 1, 1) := by decide +kernel
theorem dX11_isLaw_1 : decode cX11_isLaw 1 = .ok (.ifCond .lt 15, 3) := by decide +kernel
theorem dX11_isLaw_4 : decode cX11_isLaw 4 = .ok (.iload_n 1, 1) := by decide +kernel
theorem dX11_isLaw_5 : decode cX11_isLaw 5 = .ok (.aload_n 0, 1) := by decide +kernel
theorem dX11_isLaw_6 : decode cX11_isLaw 6 = .ok (.getfield 94, 3) := by decide +kernel
theorem dX11_isLaw_9 : decode cX11_isLaw 9 = .ok (.if_icmp .ge 7, 3) := by decide +kernel
theorem dX11_isLaw_12 : decode cX11_isLaw 12 = .ok (.iconst 1, 1) := by decide +kernel
theorem dX11_isLaw_13 : decode cX11_isLaw 13 = .ok (.goto 4, 3) := by decide +kernel
theorem dX11_isLaw_16 : decode cX11_isLaw 16 = .ok (.iconst 0, 1) := by decide +kernel
theorem dX11_isLaw_17 : decode cX11_isLaw 17 = .ok (.ireturn, 1) := by decide +kernel
theorem dX11_isLevel_0 : decode cX11_isLevel 0 = .ok (.iload_n 1, 1) := by decide +kernel
theorem dX11_isLevel_1 : decode cX11_isLevel 1 = .ok (.ifCond .lt 21, 3) := by decide +kernel
theorem dX11_isLevel_4 : decode cX11_isLevel 4 = .ok (.iload_n 1, 1) := by decide +kernel
theorem dX11_isLevel_5 : decode cX11_isLevel 5 = .ok (.aload_n 0, 1) := by decide +kernel
theorem dX11_isLevel_6 : decode cX11_isLevel 6 = .ok (.getfield 47, 3) := by decide +kernel
theorem dX11_isLevel_9 : decode cX11_isLevel 9 = .ok (.getfield 128, 3) := by decide +kernel
theorem dX11_isLevel_12 : decode cX11_isLevel 12 = .ok (.getfield 317, 3) := by decide +kernel
theorem dX11_isLevel_15 : decode cX11_isLevel 15 = .ok (.if_icmp .ge 7, 3) := by decide +kernel
theorem dX11_isLevel_18 : decode cX11_isLevel 18 = .ok (.iconst 1, 1) := by decide +kernel
theorem dX11_isLevel_19 : decode cX11_isLevel 19 = .ok (.goto 4, 3) := by decide +kernel
theorem dX11_isLevel_22 : decode cX11_isLevel 22 = .ok (.iconst 0, 1) := by decide +kernel
theorem dX11_isLevel_23 : decode cX11_isLevel 23 = .ok (.ireturn, 1) := by decide +kernel
theorem dX11_law_0 : decode cX11_law 0 = .ok (.iload_n 1, 1) := by decide +kernel
theorem dX11_law_1 : decode cX11_law 1 = .ok (.iconst (-1), 1) := by decide +kernel
theorem dX11_law_2 : decode cX11_law 2 = .ok (.if_icmp .eq 13, 3) := by decide +kernel
theorem dX11_law_5 : decode cX11_law 5 = .ok (.aload_n 0, 1) := by decide +kernel
theorem dX11_law_6 : decode cX11_law 6 = .ok (.iload_n 1, 1) := by decide +kernel
theorem dX11_law_7 : decode cX11_law 7 = .ok (.invokevirtual 202, 3) := by decide +kernel
theorem dX11_law_10 : decode cX11_law 10 = .ok (.ifCond .ne 5, 3) := by decide +kernel
theorem dX11_law_13 : decode cX11_law 13 = .ok (.iconst 0, 1) := by decide +kernel
theorem dX11_law_14 : decode cX11_law 14 = .ok (.ireturn, 1) := by decide +kernel
theorem dX11_law_15 : decode cX11_law 15 = .ok (.aload_n 0, 1) := by decide +kernel
theorem dX11_law_16 : decode cX11_law 16 = .ok (.iload_n 1, 1) := by decide +kernel
theorem dX11_law_17 : decode cX11_law 17 = .ok (.putfield 98, 3) := by decide +kernel
theorem dX11_law_20 : decode cX11_law 20 = .ok (.iconst 1, 1) := by decide +kernel
theorem dX11_law_21 : decode cX11_law 21 = .ok (.ireturn, 1) := by decide +kernel
theorem dX11_leanest_0 : decode cX11_leanest 0 = .ok (.aload_n 0, 1) := by decide +kernel
theorem dX11_leanest_1 : decode cX11_leanest 1 = .ok (.getfield 60, 3) := by decide +kernel
theorem dX11_leanest_4 : decode cX11_leanest 4 = .ok (.getfield 304, 3) := by decide +kernel
theorem dX11_leanest_7 : decode cX11_leanest 7 = .ok (.ifCond .eq 10, 3) := by decide +kernel
theorem dX11_leanest_17 : decode cX11_leanest 17 = .ok (.iconst (-1), 1) := by decide +kernel
theorem dX11_leanest_18 : decode cX11_leanest 18 = .ok (.ireturn, 1) := by decide +kernel
theorem dX11_leap_0 : decode cX11_leap 0 = .ok (.aload_n 0, 1) := by decide +kernel
theorem dX11_leap_1 : decode cX11_leap 1 = .ok (.iload_n 1, 1) := by decide +kernel
theorem dX11_leap_2 : decode cX11_leap 2 = .ok (.invokevirtual 163, 3) := by decide +kernel
theorem dX11_leap_5 : decode cX11_leap 5 = .ok (.ifCond .ne 6, 3) := by decide +kernel
theorem dX11_leap_8 : decode cX11_leap 8 = .ok (.ldc 166, 2) := by decide +kernel
theorem dX11_leap_10 : decode cX11_leap 10 = .ok (.ireturn, 1) := by decide +kernel
theorem dX11_lives_0 : decode cX11_lives 0 = .ok (.aload_n 0, 1) := by decide +kernel
theorem dX11_lives_1 : decode cX11_lives 1 = .ok (.iload_n 1, 1) := by decide +kernel
theorem dX11_lives_2 : decode cX11_lives 2 = .ok (.invokevirtual 163, 3) := by decide +kernel
theorem dX11_lives_5 : decode cX11_lives 5 = .ok (.ifCond .eq 19, 3) := by decide +kernel
theorem dX11_lives_24 : decode cX11_lives 24 = .ok (.iconst 0, 1) := by decide +kernel
theorem dX11_lives_25 : decode cX11_lives 25 = .ok (.ireturn, 1) := by decide +kernel
theorem dX11_mean_0 : decode cX11_mean 0 = .ok (.aload_n 0, 1) := by decide +kernel
theorem dX11_mean_1 : decode cX11_mean 1 = .ok (.iload_n 1, 1) := by decide +kernel
theorem dX11_mean_2 : decode cX11_mean 2 = .ok (.invokevirtual 246, 3) := by decide +kernel
theorem dX11_mean_5 : decode cX11_mean 5 = .ok (.ifCond .eq 14, 3) := by decide +kernel
theorem dX11_mean_19 : decode cX11_mean 19 = .ok (.ldc2_w 336, 3) := by decide +kernel
theorem dX11_mean_22 : decode cX11_mean 22 = .ok (.lreturn, 1) := by decide +kernel
theorem dX11_met_0 : decode cX11_met 0 = .ok (.aload_n 0, 1) := by decide +kernel
theorem dX11_met_1 : decode cX11_met 1 = .ok (.iload_n 1, 1) := by decide +kernel
theorem dX11_met_2 : decode cX11_met 2 = .ok (.invokevirtual 163, 3) := by decide +kernel
theorem dX11_met_5 : decode cX11_met 5 = .ok (.ifCond .eq 23, 3) := by decide +kernel
theorem dX11_met_28 : decode cX11_met 28 = .ok (.ldc 166, 2) := by decide +kernel
theorem dX11_met_30 : decode cX11_met 30 = .ok (.ireturn, 1) := by decide +kernel
theorem dX11_most_0 : decode cX11_most 0 = .ok (.aload_n 0, 1) := by decide +kernel
theorem dX11_most_1 : decode cX11_most 1 = .ok (.invokevirtual 218, 3) := by decide +kernel
theorem dX11_most_4 : decode cX11_most 4 = .ok (.ifCond .eq 10, 3) := by decide +kernel
theorem dX11_most_14 : decode cX11_most 14 = .ok (.iconst (-1), 1) := by decide +kernel
theorem dX11_most_15 : decode cX11_most 15 = .ok (.ireturn, 1) := by decide +kernel
theorem dX11_needs_0 : decode cX11_needs 0 = .ok (.aload_n 0, 1) := by decide +kernel
theorem dX11_needs_1 : decode cX11_needs 1 = .ok (.iload_n 1, 1) := by decide +kernel
theorem dX11_needs_2 : decode cX11_needs 2 = .ok (.invokevirtual 163, 3) := by decide +kernel
theorem dX11_needs_5 : decode cX11_needs 5 = .ok (.ifCond .eq 14, 3) := by decide +kernel
theorem dX11_needs_19 : decode cX11_needs 19 = .ok (.iconst (-1), 1) := by decide +kernel
theorem dX11_needs_20 : decode cX11_needs 20 = .ok (.ireturn, 1) := by decide +kernel
theorem dX11_odds_0 : decode cX11_odds 0 = .ok (.aload_n 0, 1) := by decide +kernel
theorem dX11_odds_1 : decode cX11_odds 1 = .ok (.iload_n 1, 1) := by decide +kernel
theorem dX11_odds_2 : decode cX11_odds 2 = .ok (.invokevirtual 246, 3) := by decide +kernel
theorem dX11_odds_5 : decode cX11_odds 5 = .ok (.ifCond .eq 27, 3) := by decide +kernel
theorem dX11_odds_32 : decode cX11_odds 32 = .ok (.ldc 166, 2) := by decide +kernel
theorem dX11_odds_34 : decode cX11_odds 34 = .ok (.ireturn, 1) := by decide +kernel
theorem dX11_rank_0 : decode cX11_rank 0 = .ok (.aload_n 0, 1) := by decide +kernel
theorem dX11_rank_1 : decode cX11_rank 1 = .ok (.iload_n 1, 1) := by decide +kernel
theorem dX11_rank_2 : decode cX11_rank 2 = .ok (.invokevirtual 163, 3) := by decide +kernel
theorem dX11_rank_5 : decode cX11_rank 5 = .ok (.ifCond .ne 5, 3) := by decide +kernel
theorem dX11_rank_8 : decode cX11_rank 8 = .ok (.iconst (-1), 1) := by decide +kernel
theorem dX11_rank_9 : decode cX11_rank 9 = .ok (.ireturn, 1) := by decide +kernel
theorem dX11_reform_0 : decode cX11_reform 0 = .ok (.aload_n 0, 1) := by decide +kernel
theorem dX11_reform_1 : decode cX11_reform 1 = .ok (.invokevirtual 218, 3) := by decide +kernel
theorem dX11_reform_4 : decode cX11_reform 4 = .ok (.ifCond .eq 11, 3) := by decide +kernel
theorem dX11_reform_15 : decode cX11_reform 15 = .ok (.ldc 166, 2) := by decide +kernel
theorem dX11_reform_17 : decode cX11_reform 17 = .ok (.ireturn, 1) := by decide +kernel
theorem dX11_seed_0 : decode cX11_seed 0 = .ok (.aload_n 0, 1) := by decide +kernel
theorem dX11_seed_1 : decode cX11_seed 1 = .ok (.getfield 47, 3) := by decide +kernel
theorem dX11_seed_4 : decode cX11_seed 4 = .ok (.lload_n 1, 1) := by decide +kernel
theorem dX11_seed_5 : decode cX11_seed 5 = .ok (.putfield 214, 3) := by decide +kernel
theorem dX11_seed_8 : decode cX11_seed 8 = .ok (.iconst 1, 1) := by decide +kernel
theorem dX11_seed_9 : decode cX11_seed 9 = .ok (.ireturn, 1) := by decide +kernel
theorem dX11_set_0 : decode cX11_set 0 = .ok (.iload_n 2, 1) := by decide +kernel
theorem dX11_set_1 : decode cX11_set 1 = .ok (.ifCond .ge 5, 3) := by decide +kernel
theorem dX11_set_4 : decode cX11_set 4 = .ok (.iconst 0, 1) := by decide +kernel
theorem dX11_set_5 : decode cX11_set 5 = .ok (.ireturn, 1) := by decide +kernel
theorem dX11_set_6 : decode cX11_set 6 = .ok (.iload_n 1, 1) := by decide +kernel
theorem dX11_set_7 : decode cX11_set 7 = .ok (.ifCond .ne 19, 3) := by decide +kernel
theorem dX11_set_10 : decode cX11_set 10 = .ok (.iload_n 2, 1) := by decide +kernel
theorem dX11_set_11 : decode cX11_set 11 = .ok (.bipush 100, 2) := by decide +kernel
theorem dX11_set_13 : decode cX11_set 13 = .ok (.if_icmp .gt 13, 3) := by decide +kernel
theorem dX11_set_16 : decode cX11_set 16 = .ok (.aload_n 0, 1) := by decide +kernel
theorem dX11_set_17 : decode cX11_set 17 = .ok (.getfield 74, 3) := by decide +kernel
theorem dX11_set_20 : decode cX11_set 20 = .ok (.iload_n 2, 1) := by decide +kernel
theorem dX11_set_21 : decode cX11_set 21 = .ok (.putfield 205, 3) := by decide +kernel
theorem dX11_set_24 : decode cX11_set 24 = .ok (.iconst 1, 1) := by decide +kernel
theorem dX11_set_25 : decode cX11_set 25 = .ok (.ireturn, 1) := by decide +kernel
theorem dX11_set_26 : decode cX11_set 26 = .ok (.iload_n 1, 1) := by decide +kernel
theorem dX11_set_27 : decode cX11_set 27 = .ok (.iconst 1, 1) := by decide +kernel
theorem dX11_set_28 : decode cX11_set 28 = .ok (.if_icmp .ne 27, 3) := by decide +kernel
theorem dX11_set_31 : decode cX11_set 31 = .ok (.iload_n 2, 1) := by decide +kernel
theorem dX11_set_32 : decode cX11_set 32 = .ok (.iconst 1, 1) := by decide +kernel
theorem dX11_set_33 : decode cX11_set 33 = .ok (.if_icmp .gt 22, 3) := by decide +kernel
theorem dX11_set_36 : decode cX11_set 36 = .ok (.aload_n 0, 1) := by decide +kernel
theorem dX11_set_37 : decode cX11_set 37 = .ok (.getfield 74, 3) := by decide +kernel
theorem dX11_set_40 : decode cX11_set 40 = .ok (.iload_n 2, 1) := by decide +kernel
theorem dX11_set_41 : decode cX11_set 41 = .ok (.iconst 1, 1) := by decide +kernel
theorem dX11_set_42 : decode cX11_set 42 = .ok (.if_icmp .ne 7, 3) := by decide +kernel
theorem dX11_set_45 : decode cX11_set 45 = .ok (.iconst 1, 1) := by decide +kernel
theorem dX11_set_46 : decode cX11_set 46 = .ok (.goto 4, 3) := by decide +kernel
theorem dX11_set_49 : decode cX11_set 49 = .ok (.iconst 0, 1) := by decide +kernel
theorem dX11_set_50 : decode cX11_set 50 = .ok (.putfield 208, 3) := by decide +kernel
theorem dX11_set_53 : decode cX11_set 53 = .ok (.iconst 1, 1) := by decide +kernel
theorem dX11_set_54 : decode cX11_set 54 = .ok (.ireturn, 1) := by decide +kernel
theorem dX11_set_55 : decode cX11_set 55 = .ok (.iload_n 1, 1) := by decide +kernel
theorem dX11_set_56 : decode cX11_set 56 = .ok (.iconst 2, 1) := by decide +kernel
theorem dX11_set_57 : decode cX11_set 57 = .ok (.if_icmp .ne 19, 3) := by decide +kernel
theorem dX11_set_60 : decode cX11_set 60 = .ok (.iload_n 2, 1) := by decide +kernel
theorem dX11_set_61 : decode cX11_set 61 = .ok (.bipush 99, 2) := by decide +kernel
theorem dX11_set_63 : decode cX11_set 63 = .ok (.if_icmp .gt 13, 3) := by decide +kernel
theorem dX11_set_66 : decode cX11_set 66 = .ok (.aload_n 0, 1) := by decide +kernel
theorem dX11_set_67 : decode cX11_set 67 = .ok (.getfield 67, 3) := by decide +kernel
theorem dX11_set_70 : decode cX11_set 70 = .ok (.iload_n 2, 1) := by decide +kernel
theorem dX11_set_71 : decode cX11_set 71 = .ok (.putfield 211, 3) := by decide +kernel
theorem dX11_set_74 : decode cX11_set 74 = .ok (.iconst 1, 1) := by decide +kernel
theorem dX11_set_75 : decode cX11_set 75 = .ok (.ireturn, 1) := by decide +kernel
theorem dX11_set_76 : decode cX11_set 76 = .ok (.iconst 0, 1) := by decide +kernel
theorem dX11_set_77 : decode cX11_set 77 = .ok (.ireturn, 1) := by decide +kernel
theorem dX11_spring_0 : decode cX11_spring 0 = .ok (.aload_n 0, 1) := by decide +kernel
theorem dX11_spring_1 : decode cX11_spring 1 = .ok (.invokevirtual 218, 3) := by decide +kernel
theorem dX11_spring_4 : decode cX11_spring 4 = .ok (.ifCond .ne 5, 3) := by decide +kernel
theorem dX11_spring_7 : decode cX11_spring 7 = .ok (.iconst (-1), 1) := by decide +kernel
theorem dX11_spring_8 : decode cX11_spring 8 = .ok (.ireturn, 1) := by decide +kernel
theorem dX11_tried_0 : decode cX11_tried 0 = .ok (.aload_n 0, 1) := by decide +kernel
theorem dX11_tried_1 : decode cX11_tried 1 = .ok (.invokevirtual 218, 3) := by decide +kernel
theorem dX11_tried_4 : decode cX11_tried 4 = .ok (.ifCond .eq 35, 3) := by decide +kernel
theorem dX11_tried_39 : decode cX11_tried 39 = .ok (.ldc 166, 2) := by decide +kernel
theorem dX11_tried_41 : decode cX11_tried 41 = .ok (.ireturn, 1) := by decide +kernel
theorem dX11_undo_0 : decode cX11_undo 0 = .ok (.aload_n 0, 1) := by decide +kernel
theorem dX11_undo_1 : decode cX11_undo 1 = .ok (.getfield 67, 3) := by decide +kernel
theorem dX11_undo_4 : decode cX11_undo 4 = .ok (.getfield 240, 3) := by decide +kernel
theorem dX11_undo_7 : decode cX11_undo 7 = .ok (.iconst 1, 1) := by decide +kernel
theorem dX11_undo_8 : decode cX11_undo 8 = .ok (.if_icmp .ge 5, 3) := by decide +kernel
theorem dX11_undo_11 : decode cX11_undo 11 = .ok (.iconst (-1), 1) := by decide +kernel
theorem dX11_undo_12 : decode cX11_undo 12 = .ok (.ireturn, 1) := by decide +kernel
theorem dX11_waiting_0 : decode cX11_waiting 0 = .ok (.aload_n 0, 1) := by decide +kernel
theorem dX11_waiting_1 : decode cX11_waiting 1 = .ok (.invokevirtual 218, 3) := by decide +kernel
theorem dX11_waiting_4 : decode cX11_waiting 4 = .ok (.ifCond .eq 13, 3) := by decide +kernel
theorem dX11_waiting_17 : decode cX11_waiting 17 = .ok (.iconst (-1), 1) := by decide +kernel
theorem dX11_waiting_18 : decode cX11_waiting 18 = .ok (.ireturn, 1) := by decide +kernel
theorem dX11_winters_0 : decode cX11_winters 0 = .ok (.aload_n 0, 1) := by decide +kernel
theorem dX11_winters_1 : decode cX11_winters 1 = .ok (.invokevirtual 218, 3) := by decide +kernel
theorem dX11_winters_4 : decode cX11_winters 4 = .ok (.ifCond .eq 28, 3) := by decide +kernel
theorem dX11_winters_32 : decode cX11_winters 32 = .ok (.iconst (-1), 1) := by decide +kernel
theorem dX11_winters_33 : decode cX11_winters 33 = .ok (.ireturn, 1) := by decide +kernel
def w_X11_hasValley : List Cond := .code yX11_hasValley cX11_hasValley 1 (some .boolean) :: ([Cond.fieldLink RX11 47 "HeadYear" "folk" "LHeadYear$Folk;", Cond.fieldLink RX11 128 "HeadYear$Folk" "valley" "LHeadYear$Valley;", Cond.fieldLink RX11 317 "HeadYear$Valley" "levels" "I"] ++ (u_ws RX11 TX11 16 ++ (u_ws RX2 TX2 12 ++ (u_ws RX9 TX9 10 ++ ([])))))
theorem in_X11_hasValley_X11 : ∀ w ∈ u_ws RX11 TX11 16, w ∈ w_X11_hasValley := fun _ h => List.mem_cons_of_mem _ (List.mem_append_right _ (List.mem_append_left _ h))
theorem in_X11_hasValley_X2 : ∀ w ∈ u_ws RX2 TX2 12, w ∈ w_X11_hasValley := fun _ h => List.mem_cons_of_mem _ (List.mem_append_right _ (List.mem_append_right _ (List.mem_append_left _ h)))
theorem in_X11_hasValley_X9 : ∀ w ∈ u_ws RX9 TX9 10, w ∈ w_X11_hasValley := fun _ h => List.mem_cons_of_mem _ (List.mem_append_right _ (List.mem_append_right _ (List.mem_append_right _ (List.mem_append_left _ h))))
set_option maxHeartbeats 4000000 in
set_option maxRecDepth 100000 in
theorem c_X11_hasValley (l : Launch) (E : py_E) (L : List Nat) (f : py_F) (sz : Nat) (h : Nat) (hF : fr_H E L f h) : Met l yX11_hasValley w_X11_hasValley ({ frames := 0, cells := 0, slots := 0, locals := 0 }) (py_Pc E [.ref h] L f sz) (py_Qi E L f sz (fun r L1 f1 => r = 0 ∧ L = L1 ∧ f = f1)) 0 0 (va_A (va_pl L f) sz) := by
  refine Met.ofW (cc := cX11_hasValley) (maxL := 1) (ret := (some .boolean)) (by decide) rfl ?_
  intro p e s m args below meth c s₁ B hml hv
  obtain ⟨rfl, rfl, hw⟩ := py_start hv
  have G : CallFix p m c cX11_hasValley 1 s _ w_X11_hasValley RX11 := ⟨B.exec, B.bytes, hml, findClass_of_methodNamed B.named, atoms_spec (ws := w_X11_hasValley) B.pre⟩
  have hr := B.returns
  have hlk := B.notSynchronized
  have hl := lv_entry ([.ref h]) (n := 1) (Nat.le_of_ble_eq_true rfl)
  rw [lg_entry_eq]
  generalize (lg_sl ([.ref h]) ++ List.replicate (1 - (lg_sl ([.ref h])).length) Slot.unset).toArray = ls at hl ⊢
  have hl : lv_has ls 1 [(0, .ref h)] := hl
  obtain ⟨tape, byt, vr, itm, dr, lr, dl, lws, nl, fo, va, tr, im, di, bu, se, mo, od, g, xd, xl, xf, xv, xi, xu, xs, hh, htape, hbyt, hvr, hdr, hxd, hlr, hdl, hxl, hfo, hxf, hf9, hf11, hva, hxv, hv8, hv9, hdi, hxi, hi2, hbu, hxu, hu3, hse, hxs⟩ := id hF
  have hMp : ∀ m, fr_M E L f m → fr_M E L f m := fun _ h => h
  refine lv_aload_n G.1 G.2.1 dX11_hasValley_0 rfl (lv_at hl 0 rfl) ?_
  refine py_get (C := RX11) (T := TX11) (N := 16) (k := 5) (v := .ref fo) G hw in_X11_hasValley_X11 rfl hh (by decide) (by decide +kernel) rfl dX11_hasValley_1 ?_
  refine py_get (C := RX2) (T := TX2) (N := 12) (k := 9) (v := .ref va) G hw in_X11_hasValley_X2 rfl hfo (by decide) (by decide +kernel) hf9 dX11_hasValley_4 ?_
  refine py_get (C := RX9) (T := TX9) (N := 10) (k := 8) (v := .int 0) G hw in_X11_hasValley_X9 rfl hva (by decide) (by decide +kernel) hv8 dX11_hasValley_7 ?_
  refine lv_if_le (tgt := 17) G.1 G.2.1 dX11_hasValley_10 (by decide) (fun c_1 => ?_) (fun c_1 => ?_)
  · skip
    refine lv_iconst (v := 0) G.1 G.2.1 dX11_hasValley_17 (by decide) ?_
    exact py_iret G hr rfl hlk hw ⟨rfl, rfl, rfl⟩ dX11_hasValley_18
  · skip
    exact absurd c_1 (by decide)

def w_X11_isLevel : List Cond := .code yX11_isLevel cX11_isLevel 2 (some .boolean) :: ([Cond.fieldLink RX11 47 "HeadYear" "folk" "LHeadYear$Folk;", Cond.fieldLink RX11 128 "HeadYear$Folk" "valley" "LHeadYear$Valley;", Cond.fieldLink RX11 317 "HeadYear$Valley" "levels" "I"] ++ (u_ws RX11 TX11 16 ++ (u_ws RX2 TX2 12 ++ (u_ws RX9 TX9 10 ++ ([])))))
theorem in_X11_isLevel_X11 : ∀ w ∈ u_ws RX11 TX11 16, w ∈ w_X11_isLevel := fun _ h => List.mem_cons_of_mem _ (List.mem_append_right _ (List.mem_append_left _ h))
theorem in_X11_isLevel_X2 : ∀ w ∈ u_ws RX2 TX2 12, w ∈ w_X11_isLevel := fun _ h => List.mem_cons_of_mem _ (List.mem_append_right _ (List.mem_append_right _ (List.mem_append_left _ h)))
theorem in_X11_isLevel_X9 : ∀ w ∈ u_ws RX9 TX9 10, w ∈ w_X11_isLevel := fun _ h => List.mem_cons_of_mem _ (List.mem_append_right _ (List.mem_append_right _ (List.mem_append_right _ (List.mem_append_left _ h))))
set_option maxHeartbeats 4000000 in
set_option maxRecDepth 100000 in
theorem c_X11_isLevel (l : Launch) (E : py_E) (L : List Nat) (f : py_F) (sz : Nat) (h : Nat) (a : Int32) (hF : fr_H E L f h) : Met l yX11_isLevel w_X11_isLevel ({ frames := 0, cells := 0, slots := 0, locals := 0 }) (py_Pc E [.ref h, .int a] L f sz) (py_Qi E L f sz (fun r L1 f1 => r = 0 ∧ L = L1 ∧ f = f1)) 0 0 (va_A (va_pl L f) sz) := by
  refine Met.ofW (cc := cX11_isLevel) (maxL := 2) (ret := (some .boolean)) (by decide) rfl ?_
  intro p e s m args below meth c s₁ B hml hv
  obtain ⟨rfl, rfl, hw⟩ := py_start hv
  have G : CallFix p m c cX11_isLevel 2 s _ w_X11_isLevel RX11 := ⟨B.exec, B.bytes, hml, findClass_of_methodNamed B.named, atoms_spec (ws := w_X11_isLevel) B.pre⟩
  have hr := B.returns
  have hlk := B.notSynchronized
  have hl := lv_entry ([.ref h, .int a]) (n := 2) (Nat.le_of_ble_eq_true rfl)
  rw [lg_entry_eq]
  generalize (lg_sl ([.ref h, .int a]) ++ List.replicate (2 - (lg_sl ([.ref h, .int a])).length) Slot.unset).toArray = ls at hl ⊢
  have hl : lv_has ls 2 [(0, .ref h), (1, .int a)] := hl
  obtain ⟨tape, byt, vr, itm, dr, lr, dl, lws, nl, fo, va, tr, im, di, bu, se, mo, od, g, xd, xl, xf, xv, xi, xu, xs, hh, htape, hbyt, hvr, hdr, hxd, hlr, hdl, hxl, hfo, hxf, hf9, hf11, hva, hxv, hv8, hv9, hdi, hxi, hi2, hbu, hxu, hu3, hse, hxs⟩ := id hF
  have hMp : ∀ m, fr_M E L f m → fr_M E L f m := fun _ h => h
  refine lv_iload_n G.1 G.2.1 dX11_isLevel_0 rfl (lv_at hl 1 rfl) ?_
  refine lv_if_lt (tgt := 22) G.1 G.2.1 dX11_isLevel_1 (by decide) (fun c_1 => ?_) (fun c_1 => ?_)
  · skip
    refine lv_iconst (v := 0) G.1 G.2.1 dX11_isLevel_22 (by decide) ?_
    exact py_iret G hr rfl hlk hw ⟨rfl, rfl, rfl⟩ dX11_isLevel_23
  · skip
    refine lv_iload_n G.1 G.2.1 dX11_isLevel_4 rfl (lv_at hl 1 rfl) ?_
    refine lv_aload_n G.1 G.2.1 dX11_isLevel_5 rfl (lv_at hl 0 rfl) ?_
    refine py_get (C := RX11) (T := TX11) (N := 16) (k := 5) (v := .ref fo) G hw in_X11_isLevel_X11 rfl hh (by decide) (by decide +kernel) rfl dX11_isLevel_6 ?_
    refine py_get (C := RX2) (T := TX2) (N := 12) (k := 9) (v := .ref va) G hw in_X11_isLevel_X2 rfl hfo (by decide) (by decide +kernel) hf9 dX11_isLevel_9 ?_
    refine py_get (C := RX9) (T := TX9) (N := 10) (k := 8) (v := .int 0) G hw in_X11_isLevel_X9 rfl hva (by decide) (by decide +kernel) hv8 dX11_isLevel_12 ?_
    refine lv_icmp_ge (tgt := 22) G.1 G.2.1 dX11_isLevel_15 (by decide) (fun c_2 => ?_) (fun c_2 => ?_)
    · skip
      refine lv_iconst (v := 0) G.1 G.2.1 dX11_isLevel_22 (by decide) ?_
      exact py_iret G hr rfl hlk hw ⟨rfl, rfl, rfl⟩ dX11_isLevel_23
    · skip
      refine lv_iconst (v := 1) G.1 G.2.1 dX11_isLevel_18 (by decide) ?_
      refine lv_goto (tgt := 23) G.1 G.2.1 dX11_isLevel_19 (by decide) ?_
      exact py_iret G hr rfl hlk hw (absurd (Int32.not_lt.mp c_1) c_2) dX11_isLevel_23

def w_X11_isFamily : List Cond := .code yX11_isFamily cX11_isFamily 2 (some .boolean) :: ([Cond.fieldLink RX11 47 "HeadYear" "folk" "LHeadYear$Folk;", Cond.fieldLink RX11 128 "HeadYear$Folk" "valley" "LHeadYear$Valley;", Cond.fieldLink RX11 319 "HeadYear$Valley" "families" "I"] ++ (u_ws RX11 TX11 16 ++ (u_ws RX2 TX2 12 ++ (u_ws RX9 TX9 10 ++ ([])))))
theorem in_X11_isFamily_X11 : ∀ w ∈ u_ws RX11 TX11 16, w ∈ w_X11_isFamily := fun _ h => List.mem_cons_of_mem _ (List.mem_append_right _ (List.mem_append_left _ h))
theorem in_X11_isFamily_X2 : ∀ w ∈ u_ws RX2 TX2 12, w ∈ w_X11_isFamily := fun _ h => List.mem_cons_of_mem _ (List.mem_append_right _ (List.mem_append_right _ (List.mem_append_left _ h)))
theorem in_X11_isFamily_X9 : ∀ w ∈ u_ws RX9 TX9 10, w ∈ w_X11_isFamily := fun _ h => List.mem_cons_of_mem _ (List.mem_append_right _ (List.mem_append_right _ (List.mem_append_right _ (List.mem_append_left _ h))))
set_option maxHeartbeats 4000000 in
set_option maxRecDepth 100000 in
theorem c_X11_isFamily (l : Launch) (E : py_E) (L : List Nat) (f : py_F) (sz : Nat) (h : Nat) (a : Int32) (hF : fr_H E L f h) : Met l yX11_isFamily w_X11_isFamily ({ frames := 0, cells := 0, slots := 0, locals := 0 }) (py_Pc E [.ref h, .int a] L f sz) (py_Qi E L f sz (fun r L1 f1 => r = 0 ∧ L = L1 ∧ f = f1)) 0 0 (va_A (va_pl L f) sz) := by
  refine Met.ofW (cc := cX11_isFamily) (maxL := 2) (ret := (some .boolean)) (by decide) rfl ?_
  intro p e s m args below meth c s₁ B hml hv
  obtain ⟨rfl, rfl, hw⟩ := py_start hv
  have G : CallFix p m c cX11_isFamily 2 s _ w_X11_isFamily RX11 := ⟨B.exec, B.bytes, hml, findClass_of_methodNamed B.named, atoms_spec (ws := w_X11_isFamily) B.pre⟩
  have hr := B.returns
  have hlk := B.notSynchronized
  have hl := lv_entry ([.ref h, .int a]) (n := 2) (Nat.le_of_ble_eq_true rfl)
  rw [lg_entry_eq]
  generalize (lg_sl ([.ref h, .int a]) ++ List.replicate (2 - (lg_sl ([.ref h, .int a])).length) Slot.unset).toArray = ls at hl ⊢
  have hl : lv_has ls 2 [(0, .ref h), (1, .int a)] := hl
  obtain ⟨tape, byt, vr, itm, dr, lr, dl, lws, nl, fo, va, tr, im, di, bu, se, mo, od, g, xd, xl, xf, xv, xi, xu, xs, hh, htape, hbyt, hvr, hdr, hxd, hlr, hdl, hxl, hfo, hxf, hf9, hf11, hva, hxv, hv8, hv9, hdi, hxi, hi2, hbu, hxu, hu3, hse, hxs⟩ := id hF
  have hMp : ∀ m, fr_M E L f m → fr_M E L f m := fun _ h => h
  refine lv_iload_n G.1 G.2.1 dX11_isFamily_0 rfl (lv_at hl 1 rfl) ?_
  refine lv_if_lt (tgt := 22) G.1 G.2.1 dX11_isFamily_1 (by decide) (fun c_1 => ?_) (fun c_1 => ?_)
  · skip
    refine lv_iconst (v := 0) G.1 G.2.1 dX11_isFamily_22 (by decide) ?_
    exact py_iret G hr rfl hlk hw ⟨rfl, rfl, rfl⟩ dX11_isFamily_23
  · skip
    refine lv_iload_n G.1 G.2.1 dX11_isFamily_4 rfl (lv_at hl 1 rfl) ?_
    refine lv_aload_n G.1 G.2.1 dX11_isFamily_5 rfl (lv_at hl 0 rfl) ?_
    refine py_get (C := RX11) (T := TX11) (N := 16) (k := 5) (v := .ref fo) G hw in_X11_isFamily_X11 rfl hh (by decide) (by decide +kernel) rfl dX11_isFamily_6 ?_
    refine py_get (C := RX2) (T := TX2) (N := 12) (k := 9) (v := .ref va) G hw in_X11_isFamily_X2 rfl hfo (by decide) (by decide +kernel) hf9 dX11_isFamily_9 ?_
    refine py_get (C := RX9) (T := TX9) (N := 10) (k := 9) (v := .int 0) G hw in_X11_isFamily_X9 rfl hva (by decide) (by decide +kernel) hv9 dX11_isFamily_12 ?_
    refine lv_icmp_ge (tgt := 22) G.1 G.2.1 dX11_isFamily_15 (by decide) (fun c_2 => ?_) (fun c_2 => ?_)
    · skip
      refine lv_iconst (v := 0) G.1 G.2.1 dX11_isFamily_22 (by decide) ?_
      exact py_iret G hr rfl hlk hw ⟨rfl, rfl, rfl⟩ dX11_isFamily_23
    · skip
      refine lv_iconst (v := 1) G.1 G.2.1 dX11_isFamily_18 (by decide) ?_
      refine lv_goto (tgt := 23) G.1 G.2.1 dX11_isFamily_19 (by decide) ?_
      exact py_iret G hr rfl hlk hw (absurd (Int32.not_lt.mp c_1) c_2) dX11_isFamily_23

def w_X11_isLaw : List Cond := .code yX11_isLaw cX11_isLaw 2 (some .boolean) :: ([Cond.fieldLink RX11 94 "HeadYear" "lawCount" "I"] ++ (u_ws RX11 TX11 16 ++ ([])))
theorem in_X11_isLaw_X11 : ∀ w ∈ u_ws RX11 TX11 16, w ∈ w_X11_isLaw := fun _ h => List.mem_cons_of_mem _ (List.mem_append_right _ (List.mem_append_left _ h))
set_option maxHeartbeats 4000000 in
set_option maxRecDepth 100000 in
theorem c_X11_isLaw (l : Launch) (E : py_E) (L : List Nat) (f : py_F) (sz : Nat) (h : Nat) (a : Int32) (hF : fr_H E L f h) : Met l yX11_isLaw w_X11_isLaw ({ frames := 0, cells := 0, slots := 0, locals := 0 }) (py_Pc E [.ref h, .int a] L f sz) (py_Qi E L f sz (fun r L1 f1 => r = 0 ∧ L = L1 ∧ f = f1)) 0 0 (va_A (va_pl L f) sz) := by
  refine Met.ofW (cc := cX11_isLaw) (maxL := 2) (ret := (some .boolean)) (by decide) rfl ?_
  intro p e s m args below meth c s₁ B hml hv
  obtain ⟨rfl, rfl, hw⟩ := py_start hv
  have G : CallFix p m c cX11_isLaw 2 s _ w_X11_isLaw RX11 := ⟨B.exec, B.bytes, hml, findClass_of_methodNamed B.named, atoms_spec (ws := w_X11_isLaw) B.pre⟩
  have hr := B.returns
  have hlk := B.notSynchronized
  have hl := lv_entry ([.ref h, .int a]) (n := 2) (Nat.le_of_ble_eq_true rfl)
  rw [lg_entry_eq]
  generalize (lg_sl ([.ref h, .int a]) ++ List.replicate (2 - (lg_sl ([.ref h, .int a])).length) Slot.unset).toArray = ls at hl ⊢
  have hl : lv_has ls 2 [(0, .ref h), (1, .int a)] := hl
  obtain ⟨tape, byt, vr, itm, dr, lr, dl, lws, nl, fo, va, tr, im, di, bu, se, mo, od, g, xd, xl, xf, xv, xi, xu, xs, hh, htape, hbyt, hvr, hdr, hxd, hlr, hdl, hxl, hfo, hxf, hf9, hf11, hva, hxv, hv8, hv9, hdi, hxi, hi2, hbu, hxu, hu3, hse, hxs⟩ := id hF
  have hMp : ∀ m, fr_M E L f m → fr_M E L f m := fun _ h => h
  refine lv_iload_n G.1 G.2.1 dX11_isLaw_0 rfl (lv_at hl 1 rfl) ?_
  refine lv_if_lt (tgt := 16) G.1 G.2.1 dX11_isLaw_1 (by decide) (fun c_1 => ?_) (fun c_1 => ?_)
  · skip
    refine lv_iconst (v := 0) G.1 G.2.1 dX11_isLaw_16 (by decide) ?_
    exact py_iret G hr rfl hlk hw ⟨rfl, rfl, rfl⟩ dX11_isLaw_17
  · skip
    refine lv_iload_n G.1 G.2.1 dX11_isLaw_4 rfl (lv_at hl 1 rfl) ?_
    refine lv_aload_n G.1 G.2.1 dX11_isLaw_5 rfl (lv_at hl 0 rfl) ?_
    refine py_get (C := RX11) (T := TX11) (N := 16) (k := 13) (v := .int 0) G hw in_X11_isLaw_X11 rfl hh (by decide) (by decide +kernel) rfl dX11_isLaw_6 ?_
    refine lv_icmp_ge (tgt := 16) G.1 G.2.1 dX11_isLaw_9 (by decide) (fun c_2 => ?_) (fun c_2 => ?_)
    · skip
      refine lv_iconst (v := 0) G.1 G.2.1 dX11_isLaw_16 (by decide) ?_
      exact py_iret G hr rfl hlk hw ⟨rfl, rfl, rfl⟩ dX11_isLaw_17
    · skip
      refine lv_iconst (v := 1) G.1 G.2.1 dX11_isLaw_12 (by decide) ?_
      refine lv_goto (tgt := 17) G.1 G.2.1 dX11_isLaw_13 (by decide) ?_
      exact py_iret G hr rfl hlk hw (absurd (Int32.not_lt.mp c_1) c_2) dX11_isLaw_17

def w_X11_lives : List Cond := .code yX11_lives cX11_lives 2 (some .boolean) :: ([Cond.methodLink RX11 163 yX11_isFamily, Cond.instanceMethod yX11_isFamily, Cond.selects RX11 yX11_isFamily yX11_isFamily, Cond.initialized RX11] ++ (w_X11_isFamily ++ ([])))
theorem gg_X11_lives_X11_isFamily : GoodIn w_X11_lives w_X11_isFamily := goodIn_sub (fun _ h => List.mem_cons_of_mem _ (List.mem_append_right _ (List.mem_append_left _ h))) (by decide +kernel)
theorem g_X11_lives_X11_isFamily_163 : GoodIn w_X11_lives (wsV RX11 163 RX11 yX11_isFamily w_X11_isFamily) := goodIn_app (goodIn_of _ (by decide +kernel)) gg_X11_lives_X11_isFamily
set_option maxHeartbeats 4000000 in
set_option maxRecDepth 100000 in
theorem c_X11_lives (l : Launch) (E : py_E) (L : List Nat) (f : py_F) (sz : Nat) (h : Nat) (a : Int32) (hF : fr_H E L f h) : Met l yX11_lives w_X11_lives ({ frames := 1, cells := 0, slots := 0, locals := 21 }) (py_Pc E [.ref h, .int a] L f sz) (py_Qi E L f sz (fun r L1 f1 => r = 0 ∧ L = L1 ∧ f = f1)) 0 0 (va_A (va_pl L f) sz) := by
  refine Met.ofW (cc := cX11_lives) (maxL := 2) (ret := (some .boolean)) (by decide) rfl ?_
  intro p e s m args below meth c s₁ B hml hv
  obtain ⟨rfl, rfl, hw⟩ := py_start hv
  have G : CallFix p m c cX11_lives 2 s _ w_X11_lives RX11 := ⟨B.exec, B.bytes, hml, findClass_of_methodNamed B.named, atoms_spec (ws := w_X11_lives) B.pre⟩
  have hr := B.returns
  have hlk := B.notSynchronized
  have hl := lv_entry ([.ref h, .int a]) (n := 2) (Nat.le_of_ble_eq_true rfl)
  rw [lg_entry_eq]
  generalize (lg_sl ([.ref h, .int a]) ++ List.replicate (2 - (lg_sl ([.ref h, .int a])).length) Slot.unset).toArray = ls at hl ⊢
  have hl : lv_has ls 2 [(0, .ref h), (1, .int a)] := hl
  obtain ⟨tape, byt, vr, itm, dr, lr, dl, lws, nl, fo, va, tr, im, di, bu, se, mo, od, g, xd, xl, xf, xv, xi, xu, xs, hh, htape, hbyt, hvr, hdr, hxd, hlr, hdl, hxl, hfo, hxf, hf9, hf11, hva, hxv, hv8, hv9, hdi, hxi, hi2, hbu, hxu, hu3, hse, hxs⟩ := id hF
  have hMp : ∀ m, fr_M E L f m → fr_M E L f m := fun _ h => h
  refine lv_aload_n G.1 G.2.1 dX11_lives_0 rfl (lv_at hl 0 rfl) ?_
  refine lv_iload_n G.1 G.2.1 dX11_lives_1 rfl (lv_at hl 1 rfl) ?_
  refine py_calli hw (va_runV (As := [.int a]) (rest := []) G (c_X11_isFamily l E L f s.heap.size h a hF) (cwV 1 G.2.2.2.2 g_X11_lives_X11_isFamily_163 rfl rfl rfl (by decide +kernel) ⟨(Nat.le_of_ble_eq_true rfl), (Nat.le_of_ble_eq_true rfl)⟩) (py_preV hw (C := RX11) (T := TX11) (N := 16) rfl hh) rfl rfl hl.1 rfl (lv_room (Nat.le_of_ble_eq_true rfl)) dX11_lives_2 ⟨(Nat.le_of_ble_eq_true rfl), (Nat.le_of_ble_eq_true rfl)⟩) (fun r_5 L_1 f_2 H_3 locs hp_4 hw => ?_)
  obtain ⟨rfl, rfl, rfl⟩ := hp_4
  refine lv_if_eq (tgt := 24) G.1 G.2.1 dX11_lives_5 (by decide) (fun c_6 => ?_) (fun c_6 => ?_)
  · skip
    refine lv_iconst (v := 0) G.1 G.2.1 dX11_lives_24 (by decide) ?_
    exact py_iret G hr rfl hlk hw ⟨rfl, rfl, rfl⟩ dX11_lives_25
  · skip
    exact absurd c_6 (by decide)

def w_X11_family : List Cond := .code yX11_family cX11_family 3 (some .int) :: ([Cond.methodLink RX11 163 yX11_isFamily, Cond.instanceMethod yX11_isFamily, Cond.selects RX11 yX11_isFamily yX11_isFamily, Cond.initialized RX11, Cond.constant RX11 166 (-1000000)] ++ (w_X11_isFamily ++ ([])))
theorem gg_X11_family_X11_isFamily : GoodIn w_X11_family w_X11_isFamily := goodIn_sub (fun _ h => List.mem_cons_of_mem _ (List.mem_append_right _ (List.mem_append_left _ h))) (by decide +kernel)
theorem g_X11_family_X11_isFamily_163 : GoodIn w_X11_family (wsV RX11 163 RX11 yX11_isFamily w_X11_isFamily) := goodIn_app (goodIn_of _ (by decide +kernel)) gg_X11_family_X11_isFamily
set_option maxHeartbeats 4000000 in
set_option maxRecDepth 100000 in
theorem c_X11_family (l : Launch) (E : py_E) (L : List Nat) (f : py_F) (sz : Nat) (h : Nat) (a : Int32) (b : Int32) (hF : fr_H E L f h) : Met l yX11_family w_X11_family ({ frames := 1, cells := 0, slots := 0, locals := 21 }) (py_Pc E [.ref h, .int a, .int b] L f sz) (py_Qi E L f sz (fun r L1 f1 => r = -1000000 ∧ ∀ m, fr_M E L f m → fr_M E L1 f1 m)) 0 0 (va_A (va_pl L f) sz) := by
  refine Met.ofW (cc := cX11_family) (maxL := 3) (ret := (some .int)) (by decide) rfl ?_
  intro p e s m args below meth c s₁ B hml hv
  obtain ⟨rfl, rfl, hw⟩ := py_start hv
  have G : CallFix p m c cX11_family 3 s _ w_X11_family RX11 := ⟨B.exec, B.bytes, hml, findClass_of_methodNamed B.named, atoms_spec (ws := w_X11_family) B.pre⟩
  have hr := B.returns
  have hlk := B.notSynchronized
  have hl := lv_entry ([.ref h, .int a, .int b]) (n := 3) (Nat.le_of_ble_eq_true rfl)
  rw [lg_entry_eq]
  generalize (lg_sl ([.ref h, .int a, .int b]) ++ List.replicate (3 - (lg_sl ([.ref h, .int a, .int b])).length) Slot.unset).toArray = ls at hl ⊢
  have hl : lv_has ls 3 [(0, .ref h), (1, .int a), (2, .int b)] := hl
  obtain ⟨tape, byt, vr, itm, dr, lr, dl, lws, nl, fo, va, tr, im, di, bu, se, mo, od, g, xd, xl, xf, xv, xi, xu, xs, hh, htape, hbyt, hvr, hdr, hxd, hlr, hdl, hxl, hfo, hxf, hf9, hf11, hva, hxv, hv8, hv9, hdi, hxi, hi2, hbu, hxu, hu3, hse, hxs⟩ := id hF
  have hMp : ∀ m, fr_M E L f m → fr_M E L f m := fun _ h => h
  refine lv_aload_n G.1 G.2.1 dX11_family_0 rfl (lv_at hl 0 rfl) ?_
  refine lv_iload_n G.1 G.2.1 dX11_family_1 rfl (lv_at hl 1 rfl) ?_
  refine py_calli hw (va_runV (As := [.int a]) (rest := []) G (c_X11_isFamily l E L f s.heap.size h a hF) (cwV 1 G.2.2.2.2 g_X11_family_X11_isFamily_163 rfl rfl rfl (by decide +kernel) ⟨(Nat.le_of_ble_eq_true rfl), (Nat.le_of_ble_eq_true rfl)⟩) (py_preV hw (C := RX11) (T := TX11) (N := 16) rfl hh) rfl rfl hl.1 rfl (lv_room (Nat.le_of_ble_eq_true rfl)) dX11_family_2 ⟨(Nat.le_of_ble_eq_true rfl), (Nat.le_of_ble_eq_true rfl)⟩) (fun r_5 L_1 f_2 H_3 locs hp_4 hw => ?_)
  obtain ⟨rfl, rfl, rfl⟩ := hp_4
  refine lv_if_ne (tgt := 11) G.1 G.2.1 dX11_family_5 (by decide) (fun c_6 => ?_) (fun c_6 => ?_)
  · skip
    exact absurd c_6 (by decide)
  · skip
    refine lv_ldc (v := (-1000000)) G.1 G.2.1 G.2.2.2.1 (G.2.2.2.2 (Cond.constant RX11 166 (-1000000)) (by decide +kernel)) dX11_family_8 ?_
    exact py_iret G hr rfl hlk hw ⟨rfl, hMp⟩ dX11_family_10

def w_X11_hut : List Cond := .code yX11_hut cX11_hut 3 (some .int) :: ([Cond.methodLink RX11 132 yX11_isLevel, Cond.instanceMethod yX11_isLevel, Cond.selects RX11 yX11_isLevel yX11_isLevel, Cond.initialized RX11] ++ (w_X11_isLevel ++ ([])))
theorem gg_X11_hut_X11_isLevel : GoodIn w_X11_hut w_X11_isLevel := goodIn_sub (fun _ h => List.mem_cons_of_mem _ (List.mem_append_right _ (List.mem_append_left _ h))) (by decide +kernel)
theorem g_X11_hut_X11_isLevel_132 : GoodIn w_X11_hut (wsV RX11 132 RX11 yX11_isLevel w_X11_isLevel) := goodIn_app (goodIn_of _ (by decide +kernel)) gg_X11_hut_X11_isLevel
set_option maxHeartbeats 4000000 in
set_option maxRecDepth 100000 in
theorem c_X11_hut (l : Launch) (E : py_E) (L : List Nat) (f : py_F) (sz : Nat) (h : Nat) (a : Int32) (b : Int32) (hF : fr_H E L f h) : Met l yX11_hut w_X11_hut ({ frames := 1, cells := 0, slots := 0, locals := 21 }) (py_Pc E [.ref h, .int a, .int b] L f sz) (py_Qi E L f sz (fun r L1 f1 => r = -1 ∧ ∀ m, fr_M E L f m → fr_M E L1 f1 m)) 0 0 (va_A (va_pl L f) sz) := by
  refine Met.ofW (cc := cX11_hut) (maxL := 3) (ret := (some .int)) (by decide) rfl ?_
  intro p e s m args below meth c s₁ B hml hv
  obtain ⟨rfl, rfl, hw⟩ := py_start hv
  have G : CallFix p m c cX11_hut 3 s _ w_X11_hut RX11 := ⟨B.exec, B.bytes, hml, findClass_of_methodNamed B.named, atoms_spec (ws := w_X11_hut) B.pre⟩
  have hr := B.returns
  have hlk := B.notSynchronized
  have hl := lv_entry ([.ref h, .int a, .int b]) (n := 3) (Nat.le_of_ble_eq_true rfl)
  rw [lg_entry_eq]
  generalize (lg_sl ([.ref h, .int a, .int b]) ++ List.replicate (3 - (lg_sl ([.ref h, .int a, .int b])).length) Slot.unset).toArray = ls at hl ⊢
  have hl : lv_has ls 3 [(0, .ref h), (1, .int a), (2, .int b)] := hl
  obtain ⟨tape, byt, vr, itm, dr, lr, dl, lws, nl, fo, va, tr, im, di, bu, se, mo, od, g, xd, xl, xf, xv, xi, xu, xs, hh, htape, hbyt, hvr, hdr, hxd, hlr, hdl, hxl, hfo, hxf, hf9, hf11, hva, hxv, hv8, hv9, hdi, hxi, hi2, hbu, hxu, hu3, hse, hxs⟩ := id hF
  have hMp : ∀ m, fr_M E L f m → fr_M E L f m := fun _ h => h
  refine lv_aload_n G.1 G.2.1 dX11_hut_0 rfl (lv_at hl 0 rfl) ?_
  refine lv_iload_n G.1 G.2.1 dX11_hut_1 rfl (lv_at hl 1 rfl) ?_
  refine py_calli hw (va_runV (As := [.int a]) (rest := []) G (c_X11_isLevel l E L f s.heap.size h a hF) (cwV 1 G.2.2.2.2 g_X11_hut_X11_isLevel_132 rfl rfl rfl (by decide +kernel) ⟨(Nat.le_of_ble_eq_true rfl), (Nat.le_of_ble_eq_true rfl)⟩) (py_preV hw (C := RX11) (T := TX11) (N := 16) rfl hh) rfl rfl hl.1 rfl (lv_room (Nat.le_of_ble_eq_true rfl)) dX11_hut_2 ⟨(Nat.le_of_ble_eq_true rfl), (Nat.le_of_ble_eq_true rfl)⟩) (fun r_5 L_1 f_2 H_3 locs hp_4 hw => ?_)
  obtain ⟨rfl, rfl, rfl⟩ := hp_4
  refine lv_if_eq (tgt := 20) G.1 G.2.1 dX11_hut_5 (by decide) (fun c_6 => ?_) (fun c_6 => ?_)
  · skip
    refine lv_iconst (v := (-1)) G.1 G.2.1 dX11_hut_20 (by decide) ?_
    exact py_iret G hr rfl hlk hw ⟨rfl, hMp⟩ dX11_hut_21
  · skip
    exact absurd c_6 (by decide)

def w_X11_winters : List Cond := .code yX11_winters cX11_winters 4 (some .int) :: ([Cond.methodLink RX11 218 yX11_hasValley, Cond.instanceMethod yX11_hasValley, Cond.selects RX11 yX11_hasValley yX11_hasValley, Cond.initialized RX11] ++ (w_X11_hasValley ++ ([])))
theorem gg_X11_winters_X11_hasValley : GoodIn w_X11_winters w_X11_hasValley := goodIn_sub (fun _ h => List.mem_cons_of_mem _ (List.mem_append_right _ (List.mem_append_left _ h))) (by decide +kernel)
theorem g_X11_winters_X11_hasValley_218 : GoodIn w_X11_winters (wsV RX11 218 RX11 yX11_hasValley w_X11_hasValley) := goodIn_app (goodIn_of _ (by decide +kernel)) gg_X11_winters_X11_hasValley
set_option maxHeartbeats 4000000 in
set_option maxRecDepth 100000 in
theorem c_X11_winters (l : Launch) (E : py_E) (L : List Nat) (f : py_F) (sz : Nat) (h : Nat) (a : Int32) (hF : fr_H E L f h) : Met l yX11_winters w_X11_winters ({ frames := 1, cells := 0, slots := 0, locals := 20 }) (py_Pc E [.ref h, .int a] L f sz) (py_Qi E L f sz (fun r L1 f1 => r = -1 ∧ ∀ m, fr_M E L f m → fr_M E L1 f1 m)) 0 0 (va_A (va_pl L f) sz) := by
  refine Met.ofW (cc := cX11_winters) (maxL := 4) (ret := (some .int)) (by decide) rfl ?_
  intro p e s m args below meth c s₁ B hml hv
  obtain ⟨rfl, rfl, hw⟩ := py_start hv
  have G : CallFix p m c cX11_winters 4 s _ w_X11_winters RX11 := ⟨B.exec, B.bytes, hml, findClass_of_methodNamed B.named, atoms_spec (ws := w_X11_winters) B.pre⟩
  have hr := B.returns
  have hlk := B.notSynchronized
  have hl := lv_entry ([.ref h, .int a]) (n := 4) (Nat.le_of_ble_eq_true rfl)
  rw [lg_entry_eq]
  generalize (lg_sl ([.ref h, .int a]) ++ List.replicate (4 - (lg_sl ([.ref h, .int a])).length) Slot.unset).toArray = ls at hl ⊢
  have hl : lv_has ls 4 [(0, .ref h), (1, .int a)] := hl
  obtain ⟨tape, byt, vr, itm, dr, lr, dl, lws, nl, fo, va, tr, im, di, bu, se, mo, od, g, xd, xl, xf, xv, xi, xu, xs, hh, htape, hbyt, hvr, hdr, hxd, hlr, hdl, hxl, hfo, hxf, hf9, hf11, hva, hxv, hv8, hv9, hdi, hxi, hi2, hbu, hxu, hu3, hse, hxs⟩ := id hF
  have hMp : ∀ m, fr_M E L f m → fr_M E L f m := fun _ h => h
  refine lv_aload_n G.1 G.2.1 dX11_winters_0 rfl (lv_at hl 0 rfl) ?_
  refine py_calli hw (va_runV (As := []) (rest := []) G (c_X11_hasValley l E L f s.heap.size h hF) (cwV 0 G.2.2.2.2 g_X11_winters_X11_hasValley_218 rfl rfl rfl (by decide +kernel) ⟨(Nat.le_of_ble_eq_true rfl), (Nat.le_of_ble_eq_true rfl)⟩) (py_preV hw (C := RX11) (T := TX11) (N := 16) rfl hh) rfl rfl hl.1 rfl (lv_room (Nat.le_of_ble_eq_true rfl)) dX11_winters_1 ⟨(Nat.le_of_ble_eq_true rfl), (Nat.le_of_ble_eq_true rfl)⟩) (fun r_5 L_1 f_2 H_3 locs hp_4 hw => ?_)
  obtain ⟨rfl, rfl, rfl⟩ := hp_4
  refine lv_if_eq (tgt := 32) G.1 G.2.1 dX11_winters_4 (by decide) (fun c_6 => ?_) (fun c_6 => ?_)
  · skip
    refine lv_iconst (v := (-1)) G.1 G.2.1 dX11_winters_32 (by decide) ?_
    exact py_iret G hr rfl hlk hw ⟨rfl, hMp⟩ dX11_winters_33
  · skip
    exact absurd c_6 (by decide)

def w_X11_spring : List Cond := .code yX11_spring cX11_spring 1 (some .int) :: ([Cond.methodLink RX11 218 yX11_hasValley, Cond.instanceMethod yX11_hasValley, Cond.selects RX11 yX11_hasValley yX11_hasValley, Cond.initialized RX11] ++ (w_X11_hasValley ++ ([])))
theorem gg_X11_spring_X11_hasValley : GoodIn w_X11_spring w_X11_hasValley := goodIn_sub (fun _ h => List.mem_cons_of_mem _ (List.mem_append_right _ (List.mem_append_left _ h))) (by decide +kernel)
theorem g_X11_spring_X11_hasValley_218 : GoodIn w_X11_spring (wsV RX11 218 RX11 yX11_hasValley w_X11_hasValley) := goodIn_app (goodIn_of _ (by decide +kernel)) gg_X11_spring_X11_hasValley
set_option maxHeartbeats 4000000 in
set_option maxRecDepth 100000 in
theorem c_X11_spring (l : Launch) (E : py_E) (L : List Nat) (f : py_F) (sz : Nat) (h : Nat) (hF : fr_H E L f h) : Met l yX11_spring w_X11_spring ({ frames := 1, cells := 0, slots := 0, locals := 20 }) (py_Pc E [.ref h] L f sz) (py_Qi E L f sz (fun r L1 f1 => r = -1 ∧ ∀ m, fr_M E L f m → fr_M E L1 f1 m)) 0 0 (va_A (va_pl L f) sz) := by
  refine Met.ofW (cc := cX11_spring) (maxL := 1) (ret := (some .int)) (by decide) rfl ?_
  intro p e s m args below meth c s₁ B hml hv
  obtain ⟨rfl, rfl, hw⟩ := py_start hv
  have G : CallFix p m c cX11_spring 1 s _ w_X11_spring RX11 := ⟨B.exec, B.bytes, hml, findClass_of_methodNamed B.named, atoms_spec (ws := w_X11_spring) B.pre⟩
  have hr := B.returns
  have hlk := B.notSynchronized
  have hl := lv_entry ([.ref h]) (n := 1) (Nat.le_of_ble_eq_true rfl)
  rw [lg_entry_eq]
  generalize (lg_sl ([.ref h]) ++ List.replicate (1 - (lg_sl ([.ref h])).length) Slot.unset).toArray = ls at hl ⊢
  have hl : lv_has ls 1 [(0, .ref h)] := hl
  obtain ⟨tape, byt, vr, itm, dr, lr, dl, lws, nl, fo, va, tr, im, di, bu, se, mo, od, g, xd, xl, xf, xv, xi, xu, xs, hh, htape, hbyt, hvr, hdr, hxd, hlr, hdl, hxl, hfo, hxf, hf9, hf11, hva, hxv, hv8, hv9, hdi, hxi, hi2, hbu, hxu, hu3, hse, hxs⟩ := id hF
  have hMp : ∀ m, fr_M E L f m → fr_M E L f m := fun _ h => h
  refine lv_aload_n G.1 G.2.1 dX11_spring_0 rfl (lv_at hl 0 rfl) ?_
  refine py_calli hw (va_runV (As := []) (rest := []) G (c_X11_hasValley l E L f s.heap.size h hF) (cwV 0 G.2.2.2.2 g_X11_spring_X11_hasValley_218 rfl rfl rfl (by decide +kernel) ⟨(Nat.le_of_ble_eq_true rfl), (Nat.le_of_ble_eq_true rfl)⟩) (py_preV hw (C := RX11) (T := TX11) (N := 16) rfl hh) rfl rfl hl.1 rfl (lv_room (Nat.le_of_ble_eq_true rfl)) dX11_spring_1 ⟨(Nat.le_of_ble_eq_true rfl), (Nat.le_of_ble_eq_true rfl)⟩) (fun r_5 L_1 f_2 H_3 locs hp_4 hw => ?_)
  obtain ⟨rfl, rfl, rfl⟩ := hp_4
  refine lv_if_ne (tgt := 9) G.1 G.2.1 dX11_spring_4 (by decide) (fun c_6 => ?_) (fun c_6 => ?_)
  · skip
    exact absurd c_6 (by decide)
  · skip
    refine lv_iconst (v := (-1)) G.1 G.2.1 dX11_spring_7 (by decide) ?_
    exact py_iret G hr rfl hlk hw ⟨rfl, hMp⟩ dX11_spring_8

def w_X11_buy : List Cond := .code yX11_buy cX11_buy 4 (some .int) :: ([Cond.methodLink RX11 246 yX11_lives, Cond.instanceMethod yX11_lives, Cond.selects RX11 yX11_lives yX11_lives, Cond.initialized RX11] ++ (w_X11_lives ++ ([])))
theorem gg_X11_buy_X11_lives : GoodIn w_X11_buy w_X11_lives := goodIn_sub (fun _ h => List.mem_cons_of_mem _ (List.mem_append_right _ (List.mem_append_left _ h))) (by decide +kernel)
theorem g_X11_buy_X11_lives_246 : GoodIn w_X11_buy (wsV RX11 246 RX11 yX11_lives w_X11_lives) := goodIn_app (goodIn_of _ (by decide +kernel)) gg_X11_buy_X11_lives
set_option maxHeartbeats 4000000 in
set_option maxRecDepth 100000 in
theorem c_X11_buy (l : Launch) (E : py_E) (L : List Nat) (f : py_F) (sz : Nat) (h : Nat) (a : Int32) (b : Int32) (hF : fr_H E L f h) : Met l yX11_buy w_X11_buy ({ frames := 2, cells := 0, slots := 0, locals := 42 }) (py_Pc E [.ref h, .int a, .int b] L f sz) (py_Qi E L f sz (fun r L1 f1 => r = -1 ∧ ∀ m, fr_M E L f m → fr_M E L1 f1 m)) 0 0 (va_A (va_pl L f) sz) := by
  refine Met.ofW (cc := cX11_buy) (maxL := 4) (ret := (some .int)) (by decide) rfl ?_
  intro p e s m args below meth c s₁ B hml hv
  obtain ⟨rfl, rfl, hw⟩ := py_start hv
  have G : CallFix p m c cX11_buy 4 s _ w_X11_buy RX11 := ⟨B.exec, B.bytes, hml, findClass_of_methodNamed B.named, atoms_spec (ws := w_X11_buy) B.pre⟩
  have hr := B.returns
  have hlk := B.notSynchronized
  have hl := lv_entry ([.ref h, .int a, .int b]) (n := 4) (Nat.le_of_ble_eq_true rfl)
  rw [lg_entry_eq]
  generalize (lg_sl ([.ref h, .int a, .int b]) ++ List.replicate (4 - (lg_sl ([.ref h, .int a, .int b])).length) Slot.unset).toArray = ls at hl ⊢
  have hl : lv_has ls 4 [(0, .ref h), (1, .int a), (2, .int b)] := hl
  obtain ⟨tape, byt, vr, itm, dr, lr, dl, lws, nl, fo, va, tr, im, di, bu, se, mo, od, g, xd, xl, xf, xv, xi, xu, xs, hh, htape, hbyt, hvr, hdr, hxd, hlr, hdl, hxl, hfo, hxf, hf9, hf11, hva, hxv, hv8, hv9, hdi, hxi, hi2, hbu, hxu, hu3, hse, hxs⟩ := id hF
  have hMp : ∀ m, fr_M E L f m → fr_M E L f m := fun _ h => h
  refine lv_aload_n G.1 G.2.1 dX11_buy_0 rfl (lv_at hl 0 rfl) ?_
  refine lv_iload_n G.1 G.2.1 dX11_buy_1 rfl (lv_at hl 1 rfl) ?_
  refine py_calli hw (va_runV (As := [.int a]) (rest := []) G (c_X11_lives l E L f s.heap.size h a hF) (cwV 1 G.2.2.2.2 g_X11_buy_X11_lives_246 rfl rfl rfl (by decide +kernel) ⟨(Nat.le_of_ble_eq_true rfl), (Nat.le_of_ble_eq_true rfl)⟩) (py_preV hw (C := RX11) (T := TX11) (N := 16) rfl hh) rfl rfl hl.1 rfl (lv_room (Nat.le_of_ble_eq_true rfl)) dX11_buy_2 ⟨(Nat.le_of_ble_eq_true rfl), (Nat.le_of_ble_eq_true rfl)⟩) (fun r_5 L_1 f_2 H_3 locs hp_4 hw => ?_)
  obtain ⟨rfl, rfl, rfl⟩ := hp_4
  refine lv_if_eq (tgt := 31) G.1 G.2.1 dX11_buy_5 (by decide) (fun c_6 => ?_) (fun c_6 => ?_)
  · skip
    refine lv_iconst (v := (-1)) G.1 G.2.1 dX11_buy_31 (by decide) ?_
    exact py_iret G hr rfl hlk hw ⟨rfl, hMp⟩ dX11_buy_32
  · skip
    exact absurd c_6 (by decide)

def w_X11_undo : List Cond := .code yX11_undo cX11_undo 3 (some .int) :: ([Cond.fieldLink RX11 67 "HeadYear" "buyings" "LHeadYear$Buyings;", Cond.fieldLink RX11 240 "HeadYear$Buyings" "count" "I"] ++ (u_ws RX11 TX11 16 ++ (u_ws RX0 TX0 5 ++ ([]))))
theorem in_X11_undo_X11 : ∀ w ∈ u_ws RX11 TX11 16, w ∈ w_X11_undo := fun _ h => List.mem_cons_of_mem _ (List.mem_append_right _ (List.mem_append_left _ h))
theorem in_X11_undo_X0 : ∀ w ∈ u_ws RX0 TX0 5, w ∈ w_X11_undo := fun _ h => List.mem_cons_of_mem _ (List.mem_append_right _ (List.mem_append_right _ (List.mem_append_left _ h)))
set_option maxHeartbeats 4000000 in
set_option maxRecDepth 100000 in
theorem c_X11_undo (l : Launch) (E : py_E) (L : List Nat) (f : py_F) (sz : Nat) (h : Nat) (hF : fr_H E L f h) : Met l yX11_undo w_X11_undo ({ frames := 0, cells := 0, slots := 0, locals := 0 }) (py_Pc E [.ref h] L f sz) (py_Qi E L f sz (fun r L1 f1 => r = -1 ∧ ∀ m, fr_M E L f m → fr_M E L1 f1 m)) 0 0 (va_A (va_pl L f) sz) := by
  refine Met.ofW (cc := cX11_undo) (maxL := 3) (ret := (some .int)) (by decide) rfl ?_
  intro p e s m args below meth c s₁ B hml hv
  obtain ⟨rfl, rfl, hw⟩ := py_start hv
  have G : CallFix p m c cX11_undo 3 s _ w_X11_undo RX11 := ⟨B.exec, B.bytes, hml, findClass_of_methodNamed B.named, atoms_spec (ws := w_X11_undo) B.pre⟩
  have hr := B.returns
  have hlk := B.notSynchronized
  have hl := lv_entry ([.ref h]) (n := 3) (Nat.le_of_ble_eq_true rfl)
  rw [lg_entry_eq]
  generalize (lg_sl ([.ref h]) ++ List.replicate (3 - (lg_sl ([.ref h])).length) Slot.unset).toArray = ls at hl ⊢
  have hl : lv_has ls 3 [(0, .ref h)] := hl
  obtain ⟨tape, byt, vr, itm, dr, lr, dl, lws, nl, fo, va, tr, im, di, bu, se, mo, od, g, xd, xl, xf, xv, xi, xu, xs, hh, htape, hbyt, hvr, hdr, hxd, hlr, hdl, hxl, hfo, hxf, hf9, hf11, hva, hxv, hv8, hv9, hdi, hxi, hi2, hbu, hxu, hu3, hse, hxs⟩ := id hF
  have hMp : ∀ m, fr_M E L f m → fr_M E L f m := fun _ h => h
  refine lv_aload_n G.1 G.2.1 dX11_undo_0 rfl (lv_at hl 0 rfl) ?_
  refine py_get (C := RX11) (T := TX11) (N := 16) (k := 9) (v := .ref bu) G hw in_X11_undo_X11 rfl hh (by decide) (by decide +kernel) rfl dX11_undo_1 ?_
  refine py_get (C := RX0) (T := TX0) (N := 5) (k := 3) (v := .int 0) G hw in_X11_undo_X0 rfl hbu (by decide) (by decide +kernel) hu3 dX11_undo_4 ?_
  refine lv_iconst (v := 1) G.1 G.2.1 dX11_undo_7 (by decide) ?_
  refine lv_icmp_ge (tgt := 13) G.1 G.2.1 dX11_undo_8 (by decide) (fun c_1 => ?_) (fun c_1 => ?_)
  · skip
    exact absurd c_1 (by decide)
  · skip
    refine lv_iconst (v := (-1)) G.1 G.2.1 dX11_undo_11 (by decide) ?_
    exact py_iret G hr rfl hlk hw ⟨rfl, hMp⟩ dX11_undo_12

def w_X11_hush : List Cond := .code yX11_hush cX11_hush 3 (some .boolean) :: ([Cond.methodLink RX11 246 yX11_lives, Cond.instanceMethod yX11_lives, Cond.selects RX11 yX11_lives yX11_lives, Cond.initialized RX11] ++ (w_X11_lives ++ ([])))
theorem gg_X11_hush_X11_lives : GoodIn w_X11_hush w_X11_lives := goodIn_sub (fun _ h => List.mem_cons_of_mem _ (List.mem_append_right _ (List.mem_append_left _ h))) (by decide +kernel)
theorem g_X11_hush_X11_lives_246 : GoodIn w_X11_hush (wsV RX11 246 RX11 yX11_lives w_X11_lives) := goodIn_app (goodIn_of _ (by decide +kernel)) gg_X11_hush_X11_lives
set_option maxHeartbeats 4000000 in
set_option maxRecDepth 100000 in
theorem c_X11_hush (l : Launch) (E : py_E) (L : List Nat) (f : py_F) (sz : Nat) (h : Nat) (a : Int32) (b : Int32) (hF : fr_H E L f h) : Met l yX11_hush w_X11_hush ({ frames := 2, cells := 0, slots := 0, locals := 42 }) (py_Pc E [.ref h, .int a, .int b] L f sz) (py_Qi E L f sz (fun r L1 f1 => r = 0 ∧ ∀ m, fr_M E L f m → fr_M E L1 f1 m)) 0 0 (va_A (va_pl L f) sz) := by
  refine Met.ofW (cc := cX11_hush) (maxL := 3) (ret := (some .boolean)) (by decide) rfl ?_
  intro p e s m args below meth c s₁ B hml hv
  obtain ⟨rfl, rfl, hw⟩ := py_start hv
  have G : CallFix p m c cX11_hush 3 s _ w_X11_hush RX11 := ⟨B.exec, B.bytes, hml, findClass_of_methodNamed B.named, atoms_spec (ws := w_X11_hush) B.pre⟩
  have hr := B.returns
  have hlk := B.notSynchronized
  have hl := lv_entry ([.ref h, .int a, .int b]) (n := 3) (Nat.le_of_ble_eq_true rfl)
  rw [lg_entry_eq]
  generalize (lg_sl ([.ref h, .int a, .int b]) ++ List.replicate (3 - (lg_sl ([.ref h, .int a, .int b])).length) Slot.unset).toArray = ls at hl ⊢
  have hl : lv_has ls 3 [(0, .ref h), (1, .int a), (2, .int b)] := hl
  obtain ⟨tape, byt, vr, itm, dr, lr, dl, lws, nl, fo, va, tr, im, di, bu, se, mo, od, g, xd, xl, xf, xv, xi, xu, xs, hh, htape, hbyt, hvr, hdr, hxd, hlr, hdl, hxl, hfo, hxf, hf9, hf11, hva, hxv, hv8, hv9, hdi, hxi, hi2, hbu, hxu, hu3, hse, hxs⟩ := id hF
  have hMp : ∀ m, fr_M E L f m → fr_M E L f m := fun _ h => h
  refine lv_aload_n G.1 G.2.1 dX11_hush_0 rfl (lv_at hl 0 rfl) ?_
  refine lv_iload_n G.1 G.2.1 dX11_hush_1 rfl (lv_at hl 1 rfl) ?_
  refine py_calli hw (va_runV (As := [.int a]) (rest := []) G (c_X11_lives l E L f s.heap.size h a hF) (cwV 1 G.2.2.2.2 g_X11_hush_X11_lives_246 rfl rfl rfl (by decide +kernel) ⟨(Nat.le_of_ble_eq_true rfl), (Nat.le_of_ble_eq_true rfl)⟩) (py_preV hw (C := RX11) (T := TX11) (N := 16) rfl hh) rfl rfl hl.1 rfl (lv_room (Nat.le_of_ble_eq_true rfl)) dX11_hush_2 ⟨(Nat.le_of_ble_eq_true rfl), (Nat.le_of_ble_eq_true rfl)⟩) (fun r_5 L_1 f_2 H_3 locs hp_4 hw => ?_)
  obtain ⟨rfl, rfl, rfl⟩ := hp_4
  refine lv_if_eq (tgt := 21) G.1 G.2.1 dX11_hush_5 (by decide) (fun c_6 => ?_) (fun c_6 => ?_)
  · skip
    refine lv_iconst (v := 0) G.1 G.2.1 dX11_hush_21 (by decide) ?_
    exact py_iret G hr rfl hlk hw ⟨rfl, hMp⟩ dX11_hush_22
  · skip
    exact absurd c_6 (by decide)

def w_X11_waiting : List Cond := .code yX11_waiting cX11_waiting 1 (some .int) :: ([Cond.methodLink RX11 218 yX11_hasValley, Cond.instanceMethod yX11_hasValley, Cond.selects RX11 yX11_hasValley yX11_hasValley, Cond.initialized RX11] ++ (w_X11_hasValley ++ ([])))
theorem gg_X11_waiting_X11_hasValley : GoodIn w_X11_waiting w_X11_hasValley := goodIn_sub (fun _ h => List.mem_cons_of_mem _ (List.mem_append_right _ (List.mem_append_left _ h))) (by decide +kernel)
theorem g_X11_waiting_X11_hasValley_218 : GoodIn w_X11_waiting (wsV RX11 218 RX11 yX11_hasValley w_X11_hasValley) := goodIn_app (goodIn_of _ (by decide +kernel)) gg_X11_waiting_X11_hasValley
set_option maxHeartbeats 4000000 in
set_option maxRecDepth 100000 in
theorem c_X11_waiting (l : Launch) (E : py_E) (L : List Nat) (f : py_F) (sz : Nat) (h : Nat) (hF : fr_H E L f h) : Met l yX11_waiting w_X11_waiting ({ frames := 1, cells := 0, slots := 0, locals := 20 }) (py_Pc E [.ref h] L f sz) (py_Qi E L f sz (fun r L1 f1 => r = -1 ∧ ∀ m, fr_M E L f m → fr_M E L1 f1 m)) 0 0 (va_A (va_pl L f) sz) := by
  refine Met.ofW (cc := cX11_waiting) (maxL := 1) (ret := (some .int)) (by decide) rfl ?_
  intro p e s m args below meth c s₁ B hml hv
  obtain ⟨rfl, rfl, hw⟩ := py_start hv
  have G : CallFix p m c cX11_waiting 1 s _ w_X11_waiting RX11 := ⟨B.exec, B.bytes, hml, findClass_of_methodNamed B.named, atoms_spec (ws := w_X11_waiting) B.pre⟩
  have hr := B.returns
  have hlk := B.notSynchronized
  have hl := lv_entry ([.ref h]) (n := 1) (Nat.le_of_ble_eq_true rfl)
  rw [lg_entry_eq]
  generalize (lg_sl ([.ref h]) ++ List.replicate (1 - (lg_sl ([.ref h])).length) Slot.unset).toArray = ls at hl ⊢
  have hl : lv_has ls 1 [(0, .ref h)] := hl
  obtain ⟨tape, byt, vr, itm, dr, lr, dl, lws, nl, fo, va, tr, im, di, bu, se, mo, od, g, xd, xl, xf, xv, xi, xu, xs, hh, htape, hbyt, hvr, hdr, hxd, hlr, hdl, hxl, hfo, hxf, hf9, hf11, hva, hxv, hv8, hv9, hdi, hxi, hi2, hbu, hxu, hu3, hse, hxs⟩ := id hF
  have hMp : ∀ m, fr_M E L f m → fr_M E L f m := fun _ h => h
  refine lv_aload_n G.1 G.2.1 dX11_waiting_0 rfl (lv_at hl 0 rfl) ?_
  refine py_calli hw (va_runV (As := []) (rest := []) G (c_X11_hasValley l E L f s.heap.size h hF) (cwV 0 G.2.2.2.2 g_X11_waiting_X11_hasValley_218 rfl rfl rfl (by decide +kernel) ⟨(Nat.le_of_ble_eq_true rfl), (Nat.le_of_ble_eq_true rfl)⟩) (py_preV hw (C := RX11) (T := TX11) (N := 16) rfl hh) rfl rfl hl.1 rfl (lv_room (Nat.le_of_ble_eq_true rfl)) dX11_waiting_1 ⟨(Nat.le_of_ble_eq_true rfl), (Nat.le_of_ble_eq_true rfl)⟩) (fun r_5 L_1 f_2 H_3 locs hp_4 hw => ?_)
  obtain ⟨rfl, rfl, rfl⟩ := hp_4
  refine lv_if_eq (tgt := 17) G.1 G.2.1 dX11_waiting_4 (by decide) (fun c_6 => ?_) (fun c_6 => ?_)
  · skip
    refine lv_iconst (v := (-1)) G.1 G.2.1 dX11_waiting_17 (by decide) ?_
    exact py_iret G hr rfl hlk hw ⟨rfl, hMp⟩ dX11_waiting_18
  · skip
    exact absurd c_6 (by decide)

def w_X11_most : List Cond := .code yX11_most cX11_most 3 (some .int) :: ([Cond.methodLink RX11 218 yX11_hasValley, Cond.instanceMethod yX11_hasValley, Cond.selects RX11 yX11_hasValley yX11_hasValley, Cond.initialized RX11] ++ (w_X11_hasValley ++ ([])))
theorem gg_X11_most_X11_hasValley : GoodIn w_X11_most w_X11_hasValley := goodIn_sub (fun _ h => List.mem_cons_of_mem _ (List.mem_append_right _ (List.mem_append_left _ h))) (by decide +kernel)
theorem g_X11_most_X11_hasValley_218 : GoodIn w_X11_most (wsV RX11 218 RX11 yX11_hasValley w_X11_hasValley) := goodIn_app (goodIn_of _ (by decide +kernel)) gg_X11_most_X11_hasValley
set_option maxHeartbeats 4000000 in
set_option maxRecDepth 100000 in
theorem c_X11_most (l : Launch) (E : py_E) (L : List Nat) (f : py_F) (sz : Nat) (h : Nat) (a : Int32) (hF : fr_H E L f h) : Met l yX11_most w_X11_most ({ frames := 1, cells := 0, slots := 0, locals := 20 }) (py_Pc E [.ref h, .int a] L f sz) (py_Qi E L f sz (fun r L1 f1 => r = -1 ∧ ∀ m, fr_M E L f m → fr_M E L1 f1 m)) 0 0 (va_A (va_pl L f) sz) := by
  refine Met.ofW (cc := cX11_most) (maxL := 3) (ret := (some .int)) (by decide) rfl ?_
  intro p e s m args below meth c s₁ B hml hv
  obtain ⟨rfl, rfl, hw⟩ := py_start hv
  have G : CallFix p m c cX11_most 3 s _ w_X11_most RX11 := ⟨B.exec, B.bytes, hml, findClass_of_methodNamed B.named, atoms_spec (ws := w_X11_most) B.pre⟩
  have hr := B.returns
  have hlk := B.notSynchronized
  have hl := lv_entry ([.ref h, .int a]) (n := 3) (Nat.le_of_ble_eq_true rfl)
  rw [lg_entry_eq]
  generalize (lg_sl ([.ref h, .int a]) ++ List.replicate (3 - (lg_sl ([.ref h, .int a])).length) Slot.unset).toArray = ls at hl ⊢
  have hl : lv_has ls 3 [(0, .ref h), (1, .int a)] := hl
  obtain ⟨tape, byt, vr, itm, dr, lr, dl, lws, nl, fo, va, tr, im, di, bu, se, mo, od, g, xd, xl, xf, xv, xi, xu, xs, hh, htape, hbyt, hvr, hdr, hxd, hlr, hdl, hxl, hfo, hxf, hf9, hf11, hva, hxv, hv8, hv9, hdi, hxi, hi2, hbu, hxu, hu3, hse, hxs⟩ := id hF
  have hMp : ∀ m, fr_M E L f m → fr_M E L f m := fun _ h => h
  refine lv_aload_n G.1 G.2.1 dX11_most_0 rfl (lv_at hl 0 rfl) ?_
  refine py_calli hw (va_runV (As := []) (rest := []) G (c_X11_hasValley l E L f s.heap.size h hF) (cwV 0 G.2.2.2.2 g_X11_most_X11_hasValley_218 rfl rfl rfl (by decide +kernel) ⟨(Nat.le_of_ble_eq_true rfl), (Nat.le_of_ble_eq_true rfl)⟩) (py_preV hw (C := RX11) (T := TX11) (N := 16) rfl hh) rfl rfl hl.1 rfl (lv_room (Nat.le_of_ble_eq_true rfl)) dX11_most_1 ⟨(Nat.le_of_ble_eq_true rfl), (Nat.le_of_ble_eq_true rfl)⟩) (fun r_5 L_1 f_2 H_3 locs hp_4 hw => ?_)
  obtain ⟨rfl, rfl, rfl⟩ := hp_4
  refine lv_if_eq (tgt := 14) G.1 G.2.1 dX11_most_4 (by decide) (fun c_6 => ?_) (fun c_6 => ?_)
  · skip
    refine lv_iconst (v := (-1)) G.1 G.2.1 dX11_most_14 (by decide) ?_
    exact py_iret G hr rfl hlk hw ⟨rfl, hMp⟩ dX11_most_15
  · skip
    exact absurd c_6 (by decide)

def w_X11_needs : List Cond := .code yX11_needs cX11_needs 2 (some .int) :: ([Cond.methodLink RX11 163 yX11_isFamily, Cond.instanceMethod yX11_isFamily, Cond.selects RX11 yX11_isFamily yX11_isFamily, Cond.initialized RX11] ++ (w_X11_isFamily ++ ([])))
theorem gg_X11_needs_X11_isFamily : GoodIn w_X11_needs w_X11_isFamily := goodIn_sub (fun _ h => List.mem_cons_of_mem _ (List.mem_append_right _ (List.mem_append_left _ h))) (by decide +kernel)
theorem g_X11_needs_X11_isFamily_163 : GoodIn w_X11_needs (wsV RX11 163 RX11 yX11_isFamily w_X11_isFamily) := goodIn_app (goodIn_of _ (by decide +kernel)) gg_X11_needs_X11_isFamily
set_option maxHeartbeats 4000000 in
set_option maxRecDepth 100000 in
theorem c_X11_needs (l : Launch) (E : py_E) (L : List Nat) (f : py_F) (sz : Nat) (h : Nat) (a : Int32) (hF : fr_H E L f h) : Met l yX11_needs w_X11_needs ({ frames := 1, cells := 0, slots := 0, locals := 21 }) (py_Pc E [.ref h, .int a] L f sz) (py_Qi E L f sz (fun r L1 f1 => r = -1 ∧ ∀ m, fr_M E L f m → fr_M E L1 f1 m)) 0 0 (va_A (va_pl L f) sz) := by
  refine Met.ofW (cc := cX11_needs) (maxL := 2) (ret := (some .int)) (by decide) rfl ?_
  intro p e s m args below meth c s₁ B hml hv
  obtain ⟨rfl, rfl, hw⟩ := py_start hv
  have G : CallFix p m c cX11_needs 2 s _ w_X11_needs RX11 := ⟨B.exec, B.bytes, hml, findClass_of_methodNamed B.named, atoms_spec (ws := w_X11_needs) B.pre⟩
  have hr := B.returns
  have hlk := B.notSynchronized
  have hl := lv_entry ([.ref h, .int a]) (n := 2) (Nat.le_of_ble_eq_true rfl)
  rw [lg_entry_eq]
  generalize (lg_sl ([.ref h, .int a]) ++ List.replicate (2 - (lg_sl ([.ref h, .int a])).length) Slot.unset).toArray = ls at hl ⊢
  have hl : lv_has ls 2 [(0, .ref h), (1, .int a)] := hl
  obtain ⟨tape, byt, vr, itm, dr, lr, dl, lws, nl, fo, va, tr, im, di, bu, se, mo, od, g, xd, xl, xf, xv, xi, xu, xs, hh, htape, hbyt, hvr, hdr, hxd, hlr, hdl, hxl, hfo, hxf, hf9, hf11, hva, hxv, hv8, hv9, hdi, hxi, hi2, hbu, hxu, hu3, hse, hxs⟩ := id hF
  have hMp : ∀ m, fr_M E L f m → fr_M E L f m := fun _ h => h
  refine lv_aload_n G.1 G.2.1 dX11_needs_0 rfl (lv_at hl 0 rfl) ?_
  refine lv_iload_n G.1 G.2.1 dX11_needs_1 rfl (lv_at hl 1 rfl) ?_
  refine py_calli hw (va_runV (As := [.int a]) (rest := []) G (c_X11_isFamily l E L f s.heap.size h a hF) (cwV 1 G.2.2.2.2 g_X11_needs_X11_isFamily_163 rfl rfl rfl (by decide +kernel) ⟨(Nat.le_of_ble_eq_true rfl), (Nat.le_of_ble_eq_true rfl)⟩) (py_preV hw (C := RX11) (T := TX11) (N := 16) rfl hh) rfl rfl hl.1 rfl (lv_room (Nat.le_of_ble_eq_true rfl)) dX11_needs_2 ⟨(Nat.le_of_ble_eq_true rfl), (Nat.le_of_ble_eq_true rfl)⟩) (fun r_5 L_1 f_2 H_3 locs hp_4 hw => ?_)
  obtain ⟨rfl, rfl, rfl⟩ := hp_4
  refine lv_if_eq (tgt := 19) G.1 G.2.1 dX11_needs_5 (by decide) (fun c_6 => ?_) (fun c_6 => ?_)
  · skip
    refine lv_iconst (v := (-1)) G.1 G.2.1 dX11_needs_19 (by decide) ?_
    exact py_iret G hr rfl hlk hw ⟨rfl, hMp⟩ dX11_needs_20
  · skip
    exact absurd c_6 (by decide)

def w_X11_odds : List Cond := .code yX11_odds cX11_odds 4 (some .int) :: ([Cond.methodLink RX11 246 yX11_lives, Cond.instanceMethod yX11_lives, Cond.selects RX11 yX11_lives yX11_lives, Cond.initialized RX11, Cond.constant RX11 166 (-1000000)] ++ (w_X11_lives ++ ([])))
theorem gg_X11_odds_X11_lives : GoodIn w_X11_odds w_X11_lives := goodIn_sub (fun _ h => List.mem_cons_of_mem _ (List.mem_append_right _ (List.mem_append_left _ h))) (by decide +kernel)
theorem g_X11_odds_X11_lives_246 : GoodIn w_X11_odds (wsV RX11 246 RX11 yX11_lives w_X11_lives) := goodIn_app (goodIn_of _ (by decide +kernel)) gg_X11_odds_X11_lives
set_option maxHeartbeats 4000000 in
set_option maxRecDepth 100000 in
theorem c_X11_odds (l : Launch) (E : py_E) (L : List Nat) (f : py_F) (sz : Nat) (h : Nat) (a : Int32) (b : Int32) (q : Int32) (hF : fr_H E L f h) : Met l yX11_odds w_X11_odds ({ frames := 2, cells := 0, slots := 0, locals := 42 }) (py_Pc E [.ref h, .int a, .int b, .int q] L f sz) (py_Qi E L f sz (fun r L1 f1 => r = -1000000 ∧ ∀ m, fr_M E L f m → fr_M E L1 f1 m)) 0 0 (va_A (va_pl L f) sz) := by
  refine Met.ofW (cc := cX11_odds) (maxL := 4) (ret := (some .int)) (by decide) rfl ?_
  intro p e s m args below meth c s₁ B hml hv
  obtain ⟨rfl, rfl, hw⟩ := py_start hv
  have G : CallFix p m c cX11_odds 4 s _ w_X11_odds RX11 := ⟨B.exec, B.bytes, hml, findClass_of_methodNamed B.named, atoms_spec (ws := w_X11_odds) B.pre⟩
  have hr := B.returns
  have hlk := B.notSynchronized
  have hl := lv_entry ([.ref h, .int a, .int b, .int q]) (n := 4) (Nat.le_of_ble_eq_true rfl)
  rw [lg_entry_eq]
  generalize (lg_sl ([.ref h, .int a, .int b, .int q]) ++ List.replicate (4 - (lg_sl ([.ref h, .int a, .int b, .int q])).length) Slot.unset).toArray = ls at hl ⊢
  have hl : lv_has ls 4 [(0, .ref h), (1, .int a), (2, .int b), (3, .int q)] := hl
  obtain ⟨tape, byt, vr, itm, dr, lr, dl, lws, nl, fo, va, tr, im, di, bu, se, mo, od, g, xd, xl, xf, xv, xi, xu, xs, hh, htape, hbyt, hvr, hdr, hxd, hlr, hdl, hxl, hfo, hxf, hf9, hf11, hva, hxv, hv8, hv9, hdi, hxi, hi2, hbu, hxu, hu3, hse, hxs⟩ := id hF
  have hMp : ∀ m, fr_M E L f m → fr_M E L f m := fun _ h => h
  refine lv_aload_n G.1 G.2.1 dX11_odds_0 rfl (lv_at hl 0 rfl) ?_
  refine lv_iload_n G.1 G.2.1 dX11_odds_1 rfl (lv_at hl 1 rfl) ?_
  refine py_calli hw (va_runV (As := [.int a]) (rest := []) G (c_X11_lives l E L f s.heap.size h a hF) (cwV 1 G.2.2.2.2 g_X11_odds_X11_lives_246 rfl rfl rfl (by decide +kernel) ⟨(Nat.le_of_ble_eq_true rfl), (Nat.le_of_ble_eq_true rfl)⟩) (py_preV hw (C := RX11) (T := TX11) (N := 16) rfl hh) rfl rfl hl.1 rfl (lv_room (Nat.le_of_ble_eq_true rfl)) dX11_odds_2 ⟨(Nat.le_of_ble_eq_true rfl), (Nat.le_of_ble_eq_true rfl)⟩) (fun r_5 L_1 f_2 H_3 locs hp_4 hw => ?_)
  obtain ⟨rfl, rfl, rfl⟩ := hp_4
  refine lv_if_eq (tgt := 32) G.1 G.2.1 dX11_odds_5 (by decide) (fun c_6 => ?_) (fun c_6 => ?_)
  · skip
    refine lv_ldc (v := (-1000000)) G.1 G.2.1 G.2.2.2.1 (G.2.2.2.2 (Cond.constant RX11 166 (-1000000)) (by decide +kernel)) dX11_odds_32 ?_
    exact py_iret G hr rfl hlk hw ⟨rfl, hMp⟩ dX11_odds_34
  · skip
    exact absurd c_6 (by decide)

def w_X11_tried : List Cond := .code yX11_tried cX11_tried 5 (some .int) :: ([Cond.methodLink RX11 218 yX11_hasValley, Cond.instanceMethod yX11_hasValley, Cond.selects RX11 yX11_hasValley yX11_hasValley, Cond.initialized RX11, Cond.constant RX11 166 (-1000000)] ++ (w_X11_hasValley ++ ([])))
theorem gg_X11_tried_X11_hasValley : GoodIn w_X11_tried w_X11_hasValley := goodIn_sub (fun _ h => List.mem_cons_of_mem _ (List.mem_append_right _ (List.mem_append_left _ h))) (by decide +kernel)
theorem g_X11_tried_X11_hasValley_218 : GoodIn w_X11_tried (wsV RX11 218 RX11 yX11_hasValley w_X11_hasValley) := goodIn_app (goodIn_of _ (by decide +kernel)) gg_X11_tried_X11_hasValley
set_option maxHeartbeats 4000000 in
set_option maxRecDepth 100000 in
theorem c_X11_tried (l : Launch) (E : py_E) (L : List Nat) (f : py_F) (sz : Nat) (h : Nat) (a : Int32) (b : Int32) (q : Int32) (d : Int32) (hF : fr_H E L f h) : Met l yX11_tried w_X11_tried ({ frames := 1, cells := 0, slots := 0, locals := 20 }) (py_Pc E [.ref h, .int a, .int b, .int q, .int d] L f sz) (py_Qi E L f sz (fun r L1 f1 => r = -1000000 ∧ ∀ m, fr_M E L f m → fr_M E L1 f1 m)) 0 0 (va_A (va_pl L f) sz) := by
  refine Met.ofW (cc := cX11_tried) (maxL := 5) (ret := (some .int)) (by decide) rfl ?_
  intro p e s m args below meth c s₁ B hml hv
  obtain ⟨rfl, rfl, hw⟩ := py_start hv
  have G : CallFix p m c cX11_tried 5 s _ w_X11_tried RX11 := ⟨B.exec, B.bytes, hml, findClass_of_methodNamed B.named, atoms_spec (ws := w_X11_tried) B.pre⟩
  have hr := B.returns
  have hlk := B.notSynchronized
  have hl := lv_entry ([.ref h, .int a, .int b, .int q, .int d]) (n := 5) (Nat.le_of_ble_eq_true rfl)
  rw [lg_entry_eq]
  generalize (lg_sl ([.ref h, .int a, .int b, .int q, .int d]) ++ List.replicate (5 - (lg_sl ([.ref h, .int a, .int b, .int q, .int d])).length) Slot.unset).toArray = ls at hl ⊢
  have hl : lv_has ls 5 [(0, .ref h), (1, .int a), (2, .int b), (3, .int q), (4, .int d)] := hl
  obtain ⟨tape, byt, vr, itm, dr, lr, dl, lws, nl, fo, va, tr, im, di, bu, se, mo, od, g, xd, xl, xf, xv, xi, xu, xs, hh, htape, hbyt, hvr, hdr, hxd, hlr, hdl, hxl, hfo, hxf, hf9, hf11, hva, hxv, hv8, hv9, hdi, hxi, hi2, hbu, hxu, hu3, hse, hxs⟩ := id hF
  have hMp : ∀ m, fr_M E L f m → fr_M E L f m := fun _ h => h
  refine lv_aload_n G.1 G.2.1 dX11_tried_0 rfl (lv_at hl 0 rfl) ?_
  refine py_calli hw (va_runV (As := []) (rest := []) G (c_X11_hasValley l E L f s.heap.size h hF) (cwV 0 G.2.2.2.2 g_X11_tried_X11_hasValley_218 rfl rfl rfl (by decide +kernel) ⟨(Nat.le_of_ble_eq_true rfl), (Nat.le_of_ble_eq_true rfl)⟩) (py_preV hw (C := RX11) (T := TX11) (N := 16) rfl hh) rfl rfl hl.1 rfl (lv_room (Nat.le_of_ble_eq_true rfl)) dX11_tried_1 ⟨(Nat.le_of_ble_eq_true rfl), (Nat.le_of_ble_eq_true rfl)⟩) (fun r_5 L_1 f_2 H_3 locs hp_4 hw => ?_)
  obtain ⟨rfl, rfl, rfl⟩ := hp_4
  refine lv_if_eq (tgt := 39) G.1 G.2.1 dX11_tried_4 (by decide) (fun c_6 => ?_) (fun c_6 => ?_)
  · skip
    refine lv_ldc (v := (-1000000)) G.1 G.2.1 G.2.2.2.1 (G.2.2.2.2 (Cond.constant RX11 166 (-1000000)) (by decide +kernel)) dX11_tried_39 ?_
    exact py_iret G hr rfl hlk hw ⟨rfl, hMp⟩ dX11_tried_41
  · skip
    exact absurd c_6 (by decide)

def w_X11_reform : List Cond := .code yX11_reform cX11_reform 7 (some .int) :: ([Cond.methodLink RX11 218 yX11_hasValley, Cond.instanceMethod yX11_hasValley, Cond.selects RX11 yX11_hasValley yX11_hasValley, Cond.initialized RX11, Cond.constant RX11 166 (-1000000)] ++ (w_X11_hasValley ++ ([])))
theorem gg_X11_reform_X11_hasValley : GoodIn w_X11_reform w_X11_hasValley := goodIn_sub (fun _ h => List.mem_cons_of_mem _ (List.mem_append_right _ (List.mem_append_left _ h))) (by decide +kernel)
theorem g_X11_reform_X11_hasValley_218 : GoodIn w_X11_reform (wsV RX11 218 RX11 yX11_hasValley w_X11_hasValley) := goodIn_app (goodIn_of _ (by decide +kernel)) gg_X11_reform_X11_hasValley
set_option maxHeartbeats 4000000 in
set_option maxRecDepth 100000 in
theorem c_X11_reform (l : Launch) (E : py_E) (L : List Nat) (f : py_F) (sz : Nat) (h : Nat) (a : Int32) (b : Int32) (hF : fr_H E L f h) : Met l yX11_reform w_X11_reform ({ frames := 1, cells := 0, slots := 0, locals := 20 }) (py_Pc E [.ref h, .int a, .int b] L f sz) (py_Qi E L f sz (fun r L1 f1 => r = -1000000 ∧ ∀ m, fr_M E L f m → fr_M E L1 f1 m)) 0 0 (va_A (va_pl L f) sz) := by
  refine Met.ofW (cc := cX11_reform) (maxL := 7) (ret := (some .int)) (by decide) rfl ?_
  intro p e s m args below meth c s₁ B hml hv
  obtain ⟨rfl, rfl, hw⟩ := py_start hv
  have G : CallFix p m c cX11_reform 7 s _ w_X11_reform RX11 := ⟨B.exec, B.bytes, hml, findClass_of_methodNamed B.named, atoms_spec (ws := w_X11_reform) B.pre⟩
  have hr := B.returns
  have hlk := B.notSynchronized
  have hl := lv_entry ([.ref h, .int a, .int b]) (n := 7) (Nat.le_of_ble_eq_true rfl)
  rw [lg_entry_eq]
  generalize (lg_sl ([.ref h, .int a, .int b]) ++ List.replicate (7 - (lg_sl ([.ref h, .int a, .int b])).length) Slot.unset).toArray = ls at hl ⊢
  have hl : lv_has ls 7 [(0, .ref h), (1, .int a), (2, .int b)] := hl
  obtain ⟨tape, byt, vr, itm, dr, lr, dl, lws, nl, fo, va, tr, im, di, bu, se, mo, od, g, xd, xl, xf, xv, xi, xu, xs, hh, htape, hbyt, hvr, hdr, hxd, hlr, hdl, hxl, hfo, hxf, hf9, hf11, hva, hxv, hv8, hv9, hdi, hxi, hi2, hbu, hxu, hu3, hse, hxs⟩ := id hF
  have hMp : ∀ m, fr_M E L f m → fr_M E L f m := fun _ h => h
  refine lv_aload_n G.1 G.2.1 dX11_reform_0 rfl (lv_at hl 0 rfl) ?_
  refine py_calli hw (va_runV (As := []) (rest := []) G (c_X11_hasValley l E L f s.heap.size h hF) (cwV 0 G.2.2.2.2 g_X11_reform_X11_hasValley_218 rfl rfl rfl (by decide +kernel) ⟨(Nat.le_of_ble_eq_true rfl), (Nat.le_of_ble_eq_true rfl)⟩) (py_preV hw (C := RX11) (T := TX11) (N := 16) rfl hh) rfl rfl hl.1 rfl (lv_room (Nat.le_of_ble_eq_true rfl)) dX11_reform_1 ⟨(Nat.le_of_ble_eq_true rfl), (Nat.le_of_ble_eq_true rfl)⟩) (fun r_5 L_1 f_2 H_3 locs hp_4 hw => ?_)
  obtain ⟨rfl, rfl, rfl⟩ := hp_4
  refine lv_if_eq (tgt := 15) G.1 G.2.1 dX11_reform_4 (by decide) (fun c_6 => ?_) (fun c_6 => ?_)
  · skip
    refine lv_ldc (v := (-1000000)) G.1 G.2.1 G.2.2.2.1 (G.2.2.2.2 (Cond.constant RX11 166 (-1000000)) (by decide +kernel)) dX11_reform_15 ?_
    exact py_iret G hr rfl hlk hw ⟨rfl, hMp⟩ dX11_reform_17
  · skip
    exact absurd c_6 (by decide)

def w_X11_diary : List Cond := .code yX11_diary cX11_diary 4 (some .int) :: ([Cond.methodLink RX11 163 yX11_isFamily, Cond.instanceMethod yX11_isFamily, Cond.selects RX11 yX11_isFamily yX11_isFamily, Cond.initialized RX11, Cond.constant RX11 166 (-1000000)] ++ (w_X11_isFamily ++ ([])))
theorem gg_X11_diary_X11_isFamily : GoodIn w_X11_diary w_X11_isFamily := goodIn_sub (fun _ h => List.mem_cons_of_mem _ (List.mem_append_right _ (List.mem_append_left _ h))) (by decide +kernel)
theorem g_X11_diary_X11_isFamily_163 : GoodIn w_X11_diary (wsV RX11 163 RX11 yX11_isFamily w_X11_isFamily) := goodIn_app (goodIn_of _ (by decide +kernel)) gg_X11_diary_X11_isFamily
set_option maxHeartbeats 4000000 in
set_option maxRecDepth 100000 in
theorem c_X11_diary (l : Launch) (E : py_E) (L : List Nat) (f : py_F) (sz : Nat) (h : Nat) (a : Int32) (b : Int32) (q : Int32) (hF : fr_H E L f h) : Met l yX11_diary w_X11_diary ({ frames := 1, cells := 0, slots := 0, locals := 21 }) (py_Pc E [.ref h, .int a, .int b, .int q] L f sz) (py_Qi E L f sz (fun r L1 f1 => r = -1000000 ∧ ∀ m, fr_M E L f m → fr_M E L1 f1 m)) 0 0 (va_A (va_pl L f) sz) := by
  refine Met.ofW (cc := cX11_diary) (maxL := 4) (ret := (some .int)) (by decide) rfl ?_
  intro p e s m args below meth c s₁ B hml hv
  obtain ⟨rfl, rfl, hw⟩ := py_start hv
  have G : CallFix p m c cX11_diary 4 s _ w_X11_diary RX11 := ⟨B.exec, B.bytes, hml, findClass_of_methodNamed B.named, atoms_spec (ws := w_X11_diary) B.pre⟩
  have hr := B.returns
  have hlk := B.notSynchronized
  have hl := lv_entry ([.ref h, .int a, .int b, .int q]) (n := 4) (Nat.le_of_ble_eq_true rfl)
  rw [lg_entry_eq]
  generalize (lg_sl ([.ref h, .int a, .int b, .int q]) ++ List.replicate (4 - (lg_sl ([.ref h, .int a, .int b, .int q])).length) Slot.unset).toArray = ls at hl ⊢
  have hl : lv_has ls 4 [(0, .ref h), (1, .int a), (2, .int b), (3, .int q)] := hl
  obtain ⟨tape, byt, vr, itm, dr, lr, dl, lws, nl, fo, va, tr, im, di, bu, se, mo, od, g, xd, xl, xf, xv, xi, xu, xs, hh, htape, hbyt, hvr, hdr, hxd, hlr, hdl, hxl, hfo, hxf, hf9, hf11, hva, hxv, hv8, hv9, hdi, hxi, hi2, hbu, hxu, hu3, hse, hxs⟩ := id hF
  have hMp : ∀ m, fr_M E L f m → fr_M E L f m := fun _ h => h
  refine lv_aload_n G.1 G.2.1 dX11_diary_0 rfl (lv_at hl 0 rfl) ?_
  refine lv_iload_n G.1 G.2.1 dX11_diary_1 rfl (lv_at hl 1 rfl) ?_
  refine py_calli hw (va_runV (As := [.int a]) (rest := []) G (c_X11_isFamily l E L f s.heap.size h a hF) (cwV 1 G.2.2.2.2 g_X11_diary_X11_isFamily_163 rfl rfl rfl (by decide +kernel) ⟨(Nat.le_of_ble_eq_true rfl), (Nat.le_of_ble_eq_true rfl)⟩) (py_preV hw (C := RX11) (T := TX11) (N := 16) rfl hh) rfl rfl hl.1 rfl (lv_room (Nat.le_of_ble_eq_true rfl)) dX11_diary_2 ⟨(Nat.le_of_ble_eq_true rfl), (Nat.le_of_ble_eq_true rfl)⟩) (fun r_5 L_1 f_2 H_3 locs hp_4 hw => ?_)
  obtain ⟨rfl, rfl, rfl⟩ := hp_4
  refine lv_if_eq (tgt := 30) G.1 G.2.1 dX11_diary_5 (by decide) (fun c_6 => ?_) (fun c_6 => ?_)
  · skip
    refine lv_ldc (v := (-1000000)) G.1 G.2.1 G.2.2.2.1 (G.2.2.2.2 (Cond.constant RX11 166 (-1000000)) (by decide +kernel)) dX11_diary_30 ?_
    exact py_iret G hr rfl hlk hw ⟨rfl, hMp⟩ dX11_diary_32
  · skip
    exact absurd c_6 (by decide)

def w_X11_climb : List Cond := .code yX11_climb cX11_climb 7 (some .int) :: ([Cond.methodLink RX11 163 yX11_isFamily, Cond.instanceMethod yX11_isFamily, Cond.selects RX11 yX11_isFamily yX11_isFamily, Cond.initialized RX11, Cond.constant RX11 166 (-1000000)] ++ (w_X11_isFamily ++ ([])))
theorem gg_X11_climb_X11_isFamily : GoodIn w_X11_climb w_X11_isFamily := goodIn_sub (fun _ h => List.mem_cons_of_mem _ (List.mem_append_right _ (List.mem_append_left _ h))) (by decide +kernel)
theorem g_X11_climb_X11_isFamily_163 : GoodIn w_X11_climb (wsV RX11 163 RX11 yX11_isFamily w_X11_isFamily) := goodIn_app (goodIn_of _ (by decide +kernel)) gg_X11_climb_X11_isFamily
set_option maxHeartbeats 4000000 in
set_option maxRecDepth 100000 in
theorem c_X11_climb (l : Launch) (E : py_E) (L : List Nat) (f : py_F) (sz : Nat) (h : Nat) (a : Int32) (b : Int32) (hF : fr_H E L f h) : Met l yX11_climb w_X11_climb ({ frames := 1, cells := 0, slots := 0, locals := 21 }) (py_Pc E [.ref h, .int a, .int b] L f sz) (py_Qi E L f sz (fun r L1 f1 => r = -1000000 ∧ ∀ m, fr_M E L f m → fr_M E L1 f1 m)) 0 0 (va_A (va_pl L f) sz) := by
  refine Met.ofW (cc := cX11_climb) (maxL := 7) (ret := (some .int)) (by decide) rfl ?_
  intro p e s m args below meth c s₁ B hml hv
  obtain ⟨rfl, rfl, hw⟩ := py_start hv
  have G : CallFix p m c cX11_climb 7 s _ w_X11_climb RX11 := ⟨B.exec, B.bytes, hml, findClass_of_methodNamed B.named, atoms_spec (ws := w_X11_climb) B.pre⟩
  have hr := B.returns
  have hlk := B.notSynchronized
  have hl := lv_entry ([.ref h, .int a, .int b]) (n := 7) (Nat.le_of_ble_eq_true rfl)
  rw [lg_entry_eq]
  generalize (lg_sl ([.ref h, .int a, .int b]) ++ List.replicate (7 - (lg_sl ([.ref h, .int a, .int b])).length) Slot.unset).toArray = ls at hl ⊢
  have hl : lv_has ls 7 [(0, .ref h), (1, .int a), (2, .int b)] := hl
  obtain ⟨tape, byt, vr, itm, dr, lr, dl, lws, nl, fo, va, tr, im, di, bu, se, mo, od, g, xd, xl, xf, xv, xi, xu, xs, hh, htape, hbyt, hvr, hdr, hxd, hlr, hdl, hxl, hfo, hxf, hf9, hf11, hva, hxv, hv8, hv9, hdi, hxi, hi2, hbu, hxu, hu3, hse, hxs⟩ := id hF
  have hMp : ∀ m, fr_M E L f m → fr_M E L f m := fun _ h => h
  refine lv_aload_n G.1 G.2.1 dX11_climb_0 rfl (lv_at hl 0 rfl) ?_
  refine lv_iload_n G.1 G.2.1 dX11_climb_1 rfl (lv_at hl 1 rfl) ?_
  refine py_calli hw (va_runV (As := [.int a]) (rest := []) G (c_X11_isFamily l E L f s.heap.size h a hF) (cwV 1 G.2.2.2.2 g_X11_climb_X11_isFamily_163 rfl rfl rfl (by decide +kernel) ⟨(Nat.le_of_ble_eq_true rfl), (Nat.le_of_ble_eq_true rfl)⟩) (py_preV hw (C := RX11) (T := TX11) (N := 16) rfl hh) rfl rfl hl.1 rfl (lv_room (Nat.le_of_ble_eq_true rfl)) dX11_climb_2 ⟨(Nat.le_of_ble_eq_true rfl), (Nat.le_of_ble_eq_true rfl)⟩) (fun r_5 L_1 f_2 H_3 locs hp_4 hw => ?_)
  obtain ⟨rfl, rfl, rfl⟩ := hp_4
  refine lv_if_eq (tgt := 15) G.1 G.2.1 dX11_climb_5 (by decide) (fun c_6 => ?_) (fun c_6 => ?_)
  · skip
    refine lv_ldc (v := (-1000000)) G.1 G.2.1 G.2.2.2.1 (G.2.2.2.2 (Cond.constant RX11 166 (-1000000)) (by decide +kernel)) dX11_climb_15 ?_
    exact py_iret G hr rfl hlk hw ⟨rfl, hMp⟩ dX11_climb_17
  · skip
    exact absurd c_6 (by decide)

def w_X11_full : List Cond := .code yX11_full cX11_full 1 (some .int) :: ([Cond.methodLink RX11 218 yX11_hasValley, Cond.instanceMethod yX11_hasValley, Cond.selects RX11 yX11_hasValley yX11_hasValley, Cond.initialized RX11] ++ (w_X11_hasValley ++ ([])))
theorem gg_X11_full_X11_hasValley : GoodIn w_X11_full w_X11_hasValley := goodIn_sub (fun _ h => List.mem_cons_of_mem _ (List.mem_append_right _ (List.mem_append_left _ h))) (by decide +kernel)
theorem g_X11_full_X11_hasValley_218 : GoodIn w_X11_full (wsV RX11 218 RX11 yX11_hasValley w_X11_hasValley) := goodIn_app (goodIn_of _ (by decide +kernel)) gg_X11_full_X11_hasValley
set_option maxHeartbeats 4000000 in
set_option maxRecDepth 100000 in
theorem c_X11_full (l : Launch) (E : py_E) (L : List Nat) (f : py_F) (sz : Nat) (h : Nat) (hF : fr_H E L f h) : Met l yX11_full w_X11_full ({ frames := 1, cells := 0, slots := 0, locals := 20 }) (py_Pc E [.ref h] L f sz) (py_Qi E L f sz (fun r L1 f1 => r = -1 ∧ ∀ m, fr_M E L f m → fr_M E L1 f1 m)) 0 0 (va_A (va_pl L f) sz) := by
  refine Met.ofW (cc := cX11_full) (maxL := 1) (ret := (some .int)) (by decide) rfl ?_
  intro p e s m args below meth c s₁ B hml hv
  obtain ⟨rfl, rfl, hw⟩ := py_start hv
  have G : CallFix p m c cX11_full 1 s _ w_X11_full RX11 := ⟨B.exec, B.bytes, hml, findClass_of_methodNamed B.named, atoms_spec (ws := w_X11_full) B.pre⟩
  have hr := B.returns
  have hlk := B.notSynchronized
  have hl := lv_entry ([.ref h]) (n := 1) (Nat.le_of_ble_eq_true rfl)
  rw [lg_entry_eq]
  generalize (lg_sl ([.ref h]) ++ List.replicate (1 - (lg_sl ([.ref h])).length) Slot.unset).toArray = ls at hl ⊢
  have hl : lv_has ls 1 [(0, .ref h)] := hl
  obtain ⟨tape, byt, vr, itm, dr, lr, dl, lws, nl, fo, va, tr, im, di, bu, se, mo, od, g, xd, xl, xf, xv, xi, xu, xs, hh, htape, hbyt, hvr, hdr, hxd, hlr, hdl, hxl, hfo, hxf, hf9, hf11, hva, hxv, hv8, hv9, hdi, hxi, hi2, hbu, hxu, hu3, hse, hxs⟩ := id hF
  have hMp : ∀ m, fr_M E L f m → fr_M E L f m := fun _ h => h
  refine lv_aload_n G.1 G.2.1 dX11_full_0 rfl (lv_at hl 0 rfl) ?_
  refine py_calli hw (va_runV (As := []) (rest := []) G (c_X11_hasValley l E L f s.heap.size h hF) (cwV 0 G.2.2.2.2 g_X11_full_X11_hasValley_218 rfl rfl rfl (by decide +kernel) ⟨(Nat.le_of_ble_eq_true rfl), (Nat.le_of_ble_eq_true rfl)⟩) (py_preV hw (C := RX11) (T := TX11) (N := 16) rfl hh) rfl rfl hl.1 rfl (lv_room (Nat.le_of_ble_eq_true rfl)) dX11_full_1 ⟨(Nat.le_of_ble_eq_true rfl), (Nat.le_of_ble_eq_true rfl)⟩) (fun r_5 L_1 f_2 H_3 locs hp_4 hw => ?_)
  obtain ⟨rfl, rfl, rfl⟩ := hp_4
  refine lv_if_eq (tgt := 17) G.1 G.2.1 dX11_full_4 (by decide) (fun c_6 => ?_) (fun c_6 => ?_)
  · skip
    refine lv_iconst (v := (-1)) G.1 G.2.1 dX11_full_17 (by decide) ?_
    exact py_iret G hr rfl hlk hw ⟨rfl, hMp⟩ dX11_full_18
  · skip
    exact absurd c_6 (by decide)

def w_X11_hungry : List Cond := .code yX11_hungry cX11_hungry 6 (some .int) :: ([Cond.methodLink RX11 218 yX11_hasValley, Cond.instanceMethod yX11_hasValley, Cond.selects RX11 yX11_hasValley yX11_hasValley, Cond.initialized RX11] ++ (w_X11_hasValley ++ ([])))
theorem gg_X11_hungry_X11_hasValley : GoodIn w_X11_hungry w_X11_hasValley := goodIn_sub (fun _ h => List.mem_cons_of_mem _ (List.mem_append_right _ (List.mem_append_left _ h))) (by decide +kernel)
theorem g_X11_hungry_X11_hasValley_218 : GoodIn w_X11_hungry (wsV RX11 218 RX11 yX11_hasValley w_X11_hasValley) := goodIn_app (goodIn_of _ (by decide +kernel)) gg_X11_hungry_X11_hasValley
set_option maxHeartbeats 4000000 in
set_option maxRecDepth 100000 in
theorem c_X11_hungry (l : Launch) (E : py_E) (L : List Nat) (f : py_F) (sz : Nat) (h : Nat) (a : Int32) (hF : fr_H E L f h) : Met l yX11_hungry w_X11_hungry ({ frames := 1, cells := 0, slots := 0, locals := 20 }) (py_Pc E [.ref h, .int a] L f sz) (py_Qi E L f sz (fun r L1 f1 => r = -1 ∧ ∀ m, fr_M E L f m → fr_M E L1 f1 m)) 0 0 (va_A (va_pl L f) sz) := by
  refine Met.ofW (cc := cX11_hungry) (maxL := 6) (ret := (some .int)) (by decide) rfl ?_
  intro p e s m args below meth c s₁ B hml hv
  obtain ⟨rfl, rfl, hw⟩ := py_start hv
  have G : CallFix p m c cX11_hungry 6 s _ w_X11_hungry RX11 := ⟨B.exec, B.bytes, hml, findClass_of_methodNamed B.named, atoms_spec (ws := w_X11_hungry) B.pre⟩
  have hr := B.returns
  have hlk := B.notSynchronized
  have hl := lv_entry ([.ref h, .int a]) (n := 6) (Nat.le_of_ble_eq_true rfl)
  rw [lg_entry_eq]
  generalize (lg_sl ([.ref h, .int a]) ++ List.replicate (6 - (lg_sl ([.ref h, .int a])).length) Slot.unset).toArray = ls at hl ⊢
  have hl : lv_has ls 6 [(0, .ref h), (1, .int a)] := hl
  obtain ⟨tape, byt, vr, itm, dr, lr, dl, lws, nl, fo, va, tr, im, di, bu, se, mo, od, g, xd, xl, xf, xv, xi, xu, xs, hh, htape, hbyt, hvr, hdr, hxd, hlr, hdl, hxl, hfo, hxf, hf9, hf11, hva, hxv, hv8, hv9, hdi, hxi, hi2, hbu, hxu, hu3, hse, hxs⟩ := id hF
  have hMp : ∀ m, fr_M E L f m → fr_M E L f m := fun _ h => h
  refine lv_aload_n G.1 G.2.1 dX11_hungry_0 rfl (lv_at hl 0 rfl) ?_
  refine py_calli hw (va_runV (As := []) (rest := []) G (c_X11_hasValley l E L f s.heap.size h hF) (cwV 0 G.2.2.2.2 g_X11_hungry_X11_hasValley_218 rfl rfl rfl (by decide +kernel) ⟨(Nat.le_of_ble_eq_true rfl), (Nat.le_of_ble_eq_true rfl)⟩) (py_preV hw (C := RX11) (T := TX11) (N := 16) rfl hh) rfl rfl hl.1 rfl (lv_room (Nat.le_of_ble_eq_true rfl)) dX11_hungry_1 ⟨(Nat.le_of_ble_eq_true rfl), (Nat.le_of_ble_eq_true rfl)⟩) (fun r_5 L_1 f_2 H_3 locs hp_4 hw => ?_)
  obtain ⟨rfl, rfl, rfl⟩ := hp_4
  refine lv_if_eq (tgt := 14) G.1 G.2.1 dX11_hungry_4 (by decide) (fun c_6 => ?_) (fun c_6 => ?_)
  · skip
    refine lv_iconst (v := (-1)) G.1 G.2.1 dX11_hungry_14 (by decide) ?_
    exact py_iret G hr rfl hlk hw ⟨rfl, hMp⟩ dX11_hungry_15
  · skip
    exact absurd c_6 (by decide)

def w_X11_rank : List Cond := .code yX11_rank cX11_rank 3 (some .int) :: ([Cond.methodLink RX11 163 yX11_isFamily, Cond.instanceMethod yX11_isFamily, Cond.selects RX11 yX11_isFamily yX11_isFamily, Cond.initialized RX11] ++ (w_X11_isFamily ++ ([])))
theorem gg_X11_rank_X11_isFamily : GoodIn w_X11_rank w_X11_isFamily := goodIn_sub (fun _ h => List.mem_cons_of_mem _ (List.mem_append_right _ (List.mem_append_left _ h))) (by decide +kernel)
theorem g_X11_rank_X11_isFamily_163 : GoodIn w_X11_rank (wsV RX11 163 RX11 yX11_isFamily w_X11_isFamily) := goodIn_app (goodIn_of _ (by decide +kernel)) gg_X11_rank_X11_isFamily
set_option maxHeartbeats 4000000 in
set_option maxRecDepth 100000 in
theorem c_X11_rank (l : Launch) (E : py_E) (L : List Nat) (f : py_F) (sz : Nat) (h : Nat) (a : Int32) (hF : fr_H E L f h) : Met l yX11_rank w_X11_rank ({ frames := 1, cells := 0, slots := 0, locals := 21 }) (py_Pc E [.ref h, .int a] L f sz) (py_Qi E L f sz (fun r L1 f1 => r = -1 ∧ ∀ m, fr_M E L f m → fr_M E L1 f1 m)) 0 0 (va_A (va_pl L f) sz) := by
  refine Met.ofW (cc := cX11_rank) (maxL := 3) (ret := (some .int)) (by decide) rfl ?_
  intro p e s m args below meth c s₁ B hml hv
  obtain ⟨rfl, rfl, hw⟩ := py_start hv
  have G : CallFix p m c cX11_rank 3 s _ w_X11_rank RX11 := ⟨B.exec, B.bytes, hml, findClass_of_methodNamed B.named, atoms_spec (ws := w_X11_rank) B.pre⟩
  have hr := B.returns
  have hlk := B.notSynchronized
  have hl := lv_entry ([.ref h, .int a]) (n := 3) (Nat.le_of_ble_eq_true rfl)
  rw [lg_entry_eq]
  generalize (lg_sl ([.ref h, .int a]) ++ List.replicate (3 - (lg_sl ([.ref h, .int a])).length) Slot.unset).toArray = ls at hl ⊢
  have hl : lv_has ls 3 [(0, .ref h), (1, .int a)] := hl
  obtain ⟨tape, byt, vr, itm, dr, lr, dl, lws, nl, fo, va, tr, im, di, bu, se, mo, od, g, xd, xl, xf, xv, xi, xu, xs, hh, htape, hbyt, hvr, hdr, hxd, hlr, hdl, hxl, hfo, hxf, hf9, hf11, hva, hxv, hv8, hv9, hdi, hxi, hi2, hbu, hxu, hu3, hse, hxs⟩ := id hF
  have hMp : ∀ m, fr_M E L f m → fr_M E L f m := fun _ h => h
  refine lv_aload_n G.1 G.2.1 dX11_rank_0 rfl (lv_at hl 0 rfl) ?_
  refine lv_iload_n G.1 G.2.1 dX11_rank_1 rfl (lv_at hl 1 rfl) ?_
  refine py_calli hw (va_runV (As := [.int a]) (rest := []) G (c_X11_isFamily l E L f s.heap.size h a hF) (cwV 1 G.2.2.2.2 g_X11_rank_X11_isFamily_163 rfl rfl rfl (by decide +kernel) ⟨(Nat.le_of_ble_eq_true rfl), (Nat.le_of_ble_eq_true rfl)⟩) (py_preV hw (C := RX11) (T := TX11) (N := 16) rfl hh) rfl rfl hl.1 rfl (lv_room (Nat.le_of_ble_eq_true rfl)) dX11_rank_2 ⟨(Nat.le_of_ble_eq_true rfl), (Nat.le_of_ble_eq_true rfl)⟩) (fun r_5 L_1 f_2 H_3 locs hp_4 hw => ?_)
  obtain ⟨rfl, rfl, rfl⟩ := hp_4
  refine lv_if_ne (tgt := 10) G.1 G.2.1 dX11_rank_5 (by decide) (fun c_6 => ?_) (fun c_6 => ?_)
  · skip
    exact absurd c_6 (by decide)
  · skip
    refine lv_iconst (v := (-1)) G.1 G.2.1 dX11_rank_8 (by decide) ?_
    exact py_iret G hr rfl hlk hw ⟨rfl, hMp⟩ dX11_rank_9

def w_X11_met : List Cond := .code yX11_met cX11_met 8 (some .int) :: ([Cond.methodLink RX11 163 yX11_isFamily, Cond.instanceMethod yX11_isFamily, Cond.selects RX11 yX11_isFamily yX11_isFamily, Cond.initialized RX11, Cond.constant RX11 166 (-1000000)] ++ (w_X11_isFamily ++ ([])))
theorem gg_X11_met_X11_isFamily : GoodIn w_X11_met w_X11_isFamily := goodIn_sub (fun _ h => List.mem_cons_of_mem _ (List.mem_append_right _ (List.mem_append_left _ h))) (by decide +kernel)
theorem g_X11_met_X11_isFamily_163 : GoodIn w_X11_met (wsV RX11 163 RX11 yX11_isFamily w_X11_isFamily) := goodIn_app (goodIn_of _ (by decide +kernel)) gg_X11_met_X11_isFamily
set_option maxHeartbeats 4000000 in
set_option maxRecDepth 100000 in
theorem c_X11_met (l : Launch) (E : py_E) (L : List Nat) (f : py_F) (sz : Nat) (h : Nat) (a : Int32) (b : Int32) (q : Int32) (hF : fr_H E L f h) : Met l yX11_met w_X11_met ({ frames := 1, cells := 0, slots := 0, locals := 21 }) (py_Pc E [.ref h, .int a, .int b, .int q] L f sz) (py_Qi E L f sz (fun r L1 f1 => r = -1000000 ∧ ∀ m, fr_M E L f m → fr_M E L1 f1 m)) 0 0 (va_A (va_pl L f) sz) := by
  refine Met.ofW (cc := cX11_met) (maxL := 8) (ret := (some .int)) (by decide) rfl ?_
  intro p e s m args below meth c s₁ B hml hv
  obtain ⟨rfl, rfl, hw⟩ := py_start hv
  have G : CallFix p m c cX11_met 8 s _ w_X11_met RX11 := ⟨B.exec, B.bytes, hml, findClass_of_methodNamed B.named, atoms_spec (ws := w_X11_met) B.pre⟩
  have hr := B.returns
  have hlk := B.notSynchronized
  have hl := lv_entry ([.ref h, .int a, .int b, .int q]) (n := 8) (Nat.le_of_ble_eq_true rfl)
  rw [lg_entry_eq]
  generalize (lg_sl ([.ref h, .int a, .int b, .int q]) ++ List.replicate (8 - (lg_sl ([.ref h, .int a, .int b, .int q])).length) Slot.unset).toArray = ls at hl ⊢
  have hl : lv_has ls 8 [(0, .ref h), (1, .int a), (2, .int b), (3, .int q)] := hl
  obtain ⟨tape, byt, vr, itm, dr, lr, dl, lws, nl, fo, va, tr, im, di, bu, se, mo, od, g, xd, xl, xf, xv, xi, xu, xs, hh, htape, hbyt, hvr, hdr, hxd, hlr, hdl, hxl, hfo, hxf, hf9, hf11, hva, hxv, hv8, hv9, hdi, hxi, hi2, hbu, hxu, hu3, hse, hxs⟩ := id hF
  have hMp : ∀ m, fr_M E L f m → fr_M E L f m := fun _ h => h
  refine lv_aload_n G.1 G.2.1 dX11_met_0 rfl (lv_at hl 0 rfl) ?_
  refine lv_iload_n G.1 G.2.1 dX11_met_1 rfl (lv_at hl 1 rfl) ?_
  refine py_calli hw (va_runV (As := [.int a]) (rest := []) G (c_X11_isFamily l E L f s.heap.size h a hF) (cwV 1 G.2.2.2.2 g_X11_met_X11_isFamily_163 rfl rfl rfl (by decide +kernel) ⟨(Nat.le_of_ble_eq_true rfl), (Nat.le_of_ble_eq_true rfl)⟩) (py_preV hw (C := RX11) (T := TX11) (N := 16) rfl hh) rfl rfl hl.1 rfl (lv_room (Nat.le_of_ble_eq_true rfl)) dX11_met_2 ⟨(Nat.le_of_ble_eq_true rfl), (Nat.le_of_ble_eq_true rfl)⟩) (fun r_5 L_1 f_2 H_3 locs hp_4 hw => ?_)
  obtain ⟨rfl, rfl, rfl⟩ := hp_4
  refine lv_if_eq (tgt := 28) G.1 G.2.1 dX11_met_5 (by decide) (fun c_6 => ?_) (fun c_6 => ?_)
  · skip
    refine lv_ldc (v := (-1000000)) G.1 G.2.1 G.2.2.2.1 (G.2.2.2.2 (Cond.constant RX11 166 (-1000000)) (by decide +kernel)) dX11_met_28 ?_
    exact py_iret G hr rfl hlk hw ⟨rfl, hMp⟩ dX11_met_30
  · skip
    exact absurd c_6 (by decide)

def w_X11_leap : List Cond := .code yX11_leap cX11_leap 6 (some .int) :: ([Cond.methodLink RX11 163 yX11_isFamily, Cond.instanceMethod yX11_isFamily, Cond.selects RX11 yX11_isFamily yX11_isFamily, Cond.initialized RX11, Cond.constant RX11 166 (-1000000)] ++ (w_X11_isFamily ++ ([])))
theorem gg_X11_leap_X11_isFamily : GoodIn w_X11_leap w_X11_isFamily := goodIn_sub (fun _ h => List.mem_cons_of_mem _ (List.mem_append_right _ (List.mem_append_left _ h))) (by decide +kernel)
theorem g_X11_leap_X11_isFamily_163 : GoodIn w_X11_leap (wsV RX11 163 RX11 yX11_isFamily w_X11_isFamily) := goodIn_app (goodIn_of _ (by decide +kernel)) gg_X11_leap_X11_isFamily
set_option maxHeartbeats 4000000 in
set_option maxRecDepth 100000 in
theorem c_X11_leap (l : Launch) (E : py_E) (L : List Nat) (f : py_F) (sz : Nat) (h : Nat) (a : Int32) (hF : fr_H E L f h) : Met l yX11_leap w_X11_leap ({ frames := 1, cells := 0, slots := 0, locals := 21 }) (py_Pc E [.ref h, .int a] L f sz) (py_Qi E L f sz (fun r L1 f1 => r = -1000000 ∧ ∀ m, fr_M E L f m → fr_M E L1 f1 m)) 0 0 (va_A (va_pl L f) sz) := by
  refine Met.ofW (cc := cX11_leap) (maxL := 6) (ret := (some .int)) (by decide) rfl ?_
  intro p e s m args below meth c s₁ B hml hv
  obtain ⟨rfl, rfl, hw⟩ := py_start hv
  have G : CallFix p m c cX11_leap 6 s _ w_X11_leap RX11 := ⟨B.exec, B.bytes, hml, findClass_of_methodNamed B.named, atoms_spec (ws := w_X11_leap) B.pre⟩
  have hr := B.returns
  have hlk := B.notSynchronized
  have hl := lv_entry ([.ref h, .int a]) (n := 6) (Nat.le_of_ble_eq_true rfl)
  rw [lg_entry_eq]
  generalize (lg_sl ([.ref h, .int a]) ++ List.replicate (6 - (lg_sl ([.ref h, .int a])).length) Slot.unset).toArray = ls at hl ⊢
  have hl : lv_has ls 6 [(0, .ref h), (1, .int a)] := hl
  obtain ⟨tape, byt, vr, itm, dr, lr, dl, lws, nl, fo, va, tr, im, di, bu, se, mo, od, g, xd, xl, xf, xv, xi, xu, xs, hh, htape, hbyt, hvr, hdr, hxd, hlr, hdl, hxl, hfo, hxf, hf9, hf11, hva, hxv, hv8, hv9, hdi, hxi, hi2, hbu, hxu, hu3, hse, hxs⟩ := id hF
  have hMp : ∀ m, fr_M E L f m → fr_M E L f m := fun _ h => h
  refine lv_aload_n G.1 G.2.1 dX11_leap_0 rfl (lv_at hl 0 rfl) ?_
  refine lv_iload_n G.1 G.2.1 dX11_leap_1 rfl (lv_at hl 1 rfl) ?_
  refine py_calli hw (va_runV (As := [.int a]) (rest := []) G (c_X11_isFamily l E L f s.heap.size h a hF) (cwV 1 G.2.2.2.2 g_X11_leap_X11_isFamily_163 rfl rfl rfl (by decide +kernel) ⟨(Nat.le_of_ble_eq_true rfl), (Nat.le_of_ble_eq_true rfl)⟩) (py_preV hw (C := RX11) (T := TX11) (N := 16) rfl hh) rfl rfl hl.1 rfl (lv_room (Nat.le_of_ble_eq_true rfl)) dX11_leap_2 ⟨(Nat.le_of_ble_eq_true rfl), (Nat.le_of_ble_eq_true rfl)⟩) (fun r_5 L_1 f_2 H_3 locs hp_4 hw => ?_)
  obtain ⟨rfl, rfl, rfl⟩ := hp_4
  refine lv_if_ne (tgt := 11) G.1 G.2.1 dX11_leap_5 (by decide) (fun c_6 => ?_) (fun c_6 => ?_)
  · skip
    exact absurd c_6 (by decide)
  · skip
    refine lv_ldc (v := (-1000000)) G.1 G.2.1 G.2.2.2.1 (G.2.2.2.2 (Cond.constant RX11 166 (-1000000)) (by decide +kernel)) dX11_leap_8 ?_
    exact py_iret G hr rfl hlk hw ⟨rfl, hMp⟩ dX11_leap_10

def w_X11_leanest : List Cond := .code yX11_leanest cX11_leanest 6 (some .int) :: ([Cond.fieldLink RX11 60 "HeadYear" "diary" "LHeadYear$Diary;", Cond.fieldLink RX11 304 "HeadYear$Diary" "years" "I"] ++ (u_ws RX11 TX11 16 ++ (u_ws RX1 TX1 3 ++ ([]))))
theorem in_X11_leanest_X11 : ∀ w ∈ u_ws RX11 TX11 16, w ∈ w_X11_leanest := fun _ h => List.mem_cons_of_mem _ (List.mem_append_right _ (List.mem_append_left _ h))
theorem in_X11_leanest_X1 : ∀ w ∈ u_ws RX1 TX1 3, w ∈ w_X11_leanest := fun _ h => List.mem_cons_of_mem _ (List.mem_append_right _ (List.mem_append_right _ (List.mem_append_left _ h)))
set_option maxHeartbeats 4000000 in
set_option maxRecDepth 100000 in
theorem c_X11_leanest (l : Launch) (E : py_E) (L : List Nat) (f : py_F) (sz : Nat) (h : Nat) (a : Int32) (hF : fr_H E L f h) : Met l yX11_leanest w_X11_leanest ({ frames := 0, cells := 0, slots := 0, locals := 0 }) (py_Pc E [.ref h, .int a] L f sz) (py_Qi E L f sz (fun r L1 f1 => r = -1 ∧ ∀ m, fr_M E L f m → fr_M E L1 f1 m)) 0 0 (va_A (va_pl L f) sz) := by
  refine Met.ofW (cc := cX11_leanest) (maxL := 6) (ret := (some .int)) (by decide) rfl ?_
  intro p e s m args below meth c s₁ B hml hv
  obtain ⟨rfl, rfl, hw⟩ := py_start hv
  have G : CallFix p m c cX11_leanest 6 s _ w_X11_leanest RX11 := ⟨B.exec, B.bytes, hml, findClass_of_methodNamed B.named, atoms_spec (ws := w_X11_leanest) B.pre⟩
  have hr := B.returns
  have hlk := B.notSynchronized
  have hl := lv_entry ([.ref h, .int a]) (n := 6) (Nat.le_of_ble_eq_true rfl)
  rw [lg_entry_eq]
  generalize (lg_sl ([.ref h, .int a]) ++ List.replicate (6 - (lg_sl ([.ref h, .int a])).length) Slot.unset).toArray = ls at hl ⊢
  have hl : lv_has ls 6 [(0, .ref h), (1, .int a)] := hl
  obtain ⟨tape, byt, vr, itm, dr, lr, dl, lws, nl, fo, va, tr, im, di, bu, se, mo, od, g, xd, xl, xf, xv, xi, xu, xs, hh, htape, hbyt, hvr, hdr, hxd, hlr, hdl, hxl, hfo, hxf, hf9, hf11, hva, hxv, hv8, hv9, hdi, hxi, hi2, hbu, hxu, hu3, hse, hxs⟩ := id hF
  have hMp : ∀ m, fr_M E L f m → fr_M E L f m := fun _ h => h
  refine lv_aload_n G.1 G.2.1 dX11_leanest_0 rfl (lv_at hl 0 rfl) ?_
  refine py_get (C := RX11) (T := TX11) (N := 16) (k := 8) (v := .ref di) G hw in_X11_leanest_X11 rfl hh (by decide) (by decide +kernel) rfl dX11_leanest_1 ?_
  refine py_get (C := RX1) (T := TX1) (N := 3) (k := 2) (v := .int 0) G hw in_X11_leanest_X1 rfl hdi (by decide) (by decide +kernel) hi2 dX11_leanest_4 ?_
  refine lv_if_eq (tgt := 17) G.1 G.2.1 dX11_leanest_7 (by decide) (fun c_1 => ?_) (fun c_1 => ?_)
  · skip
    refine lv_iconst (v := (-1)) G.1 G.2.1 dX11_leanest_17 (by decide) ?_
    exact py_iret G hr rfl hlk hw ⟨rfl, hMp⟩ dX11_leanest_18
  · skip
    exact absurd c_1 (by decide)

def w_X11_advice : List Cond := .code yX11_advice cX11_advice 10 (some .int) :: ([Cond.methodLink RX11 246 yX11_lives, Cond.instanceMethod yX11_lives, Cond.selects RX11 yX11_lives yX11_lives, Cond.initialized RX11, Cond.constant RX11 166 (-1000000)] ++ (w_X11_lives ++ ([])))
theorem gg_X11_advice_X11_lives : GoodIn w_X11_advice w_X11_lives := goodIn_sub (fun _ h => List.mem_cons_of_mem _ (List.mem_append_right _ (List.mem_append_left _ h))) (by decide +kernel)
theorem g_X11_advice_X11_lives_246 : GoodIn w_X11_advice (wsV RX11 246 RX11 yX11_lives w_X11_lives) := goodIn_app (goodIn_of _ (by decide +kernel)) gg_X11_advice_X11_lives
set_option maxHeartbeats 4000000 in
set_option maxRecDepth 100000 in
theorem c_X11_advice (l : Launch) (E : py_E) (L : List Nat) (f : py_F) (sz : Nat) (h : Nat) (a : Int32) (b : Int32) (q : Int32) (d : Int32) (hF : fr_H E L f h) : Met l yX11_advice w_X11_advice ({ frames := 2, cells := 0, slots := 0, locals := 42 }) (py_Pc E [.ref h, .int a, .int b, .int q, .int d] L f sz) (py_Qi E L f sz (fun r L1 f1 => r = -1000000 ∧ ∀ m, fr_M E L f m → fr_M E L1 f1 m)) 0 0 (va_A (va_pl L f) sz) := by
  refine Met.ofW (cc := cX11_advice) (maxL := 10) (ret := (some .int)) (by decide) rfl ?_
  intro p e s m args below meth c s₁ B hml hv
  obtain ⟨rfl, rfl, hw⟩ := py_start hv
  have G : CallFix p m c cX11_advice 10 s _ w_X11_advice RX11 := ⟨B.exec, B.bytes, hml, findClass_of_methodNamed B.named, atoms_spec (ws := w_X11_advice) B.pre⟩
  have hr := B.returns
  have hlk := B.notSynchronized
  have hl := lv_entry ([.ref h, .int a, .int b, .int q, .int d]) (n := 10) (Nat.le_of_ble_eq_true rfl)
  rw [lg_entry_eq]
  generalize (lg_sl ([.ref h, .int a, .int b, .int q, .int d]) ++ List.replicate (10 - (lg_sl ([.ref h, .int a, .int b, .int q, .int d])).length) Slot.unset).toArray = ls at hl ⊢
  have hl : lv_has ls 10 [(0, .ref h), (1, .int a), (2, .int b), (3, .int q), (4, .int d)] := hl
  obtain ⟨tape, byt, vr, itm, dr, lr, dl, lws, nl, fo, va, tr, im, di, bu, se, mo, od, g, xd, xl, xf, xv, xi, xu, xs, hh, htape, hbyt, hvr, hdr, hxd, hlr, hdl, hxl, hfo, hxf, hf9, hf11, hva, hxv, hv8, hv9, hdi, hxi, hi2, hbu, hxu, hu3, hse, hxs⟩ := id hF
  have hMp : ∀ m, fr_M E L f m → fr_M E L f m := fun _ h => h
  refine lv_aload_n G.1 G.2.1 dX11_advice_0 rfl (lv_at hl 0 rfl) ?_
  refine lv_iload_n G.1 G.2.1 dX11_advice_1 rfl (lv_at hl 1 rfl) ?_
  refine py_calli hw (va_runV (As := [.int a]) (rest := []) G (c_X11_lives l E L f s.heap.size h a hF) (cwV 1 G.2.2.2.2 g_X11_advice_X11_lives_246 rfl rfl rfl (by decide +kernel) ⟨(Nat.le_of_ble_eq_true rfl), (Nat.le_of_ble_eq_true rfl)⟩) (py_preV hw (C := RX11) (T := TX11) (N := 16) rfl hh) rfl rfl hl.1 rfl (lv_room (Nat.le_of_ble_eq_true rfl)) dX11_advice_2 ⟨(Nat.le_of_ble_eq_true rfl), (Nat.le_of_ble_eq_true rfl)⟩) (fun r_5 L_1 f_2 H_3 locs hp_4 hw => ?_)
  obtain ⟨rfl, rfl, rfl⟩ := hp_4
  refine lv_if_eq (tgt := 24) G.1 G.2.1 dX11_advice_5 (by decide) (fun c_6 => ?_) (fun c_6 => ?_)
  · skip
    refine lv_ldc (v := (-1000000)) G.1 G.2.1 G.2.2.2.1 (G.2.2.2.2 (Cond.constant RX11 166 (-1000000)) (by decide +kernel)) dX11_advice_24 ?_
    exact py_iret G hr rfl hlk hw ⟨rfl, hMp⟩ dX11_advice_26
  · skip
    exact absurd c_6 (by decide)

def w_X11_image : List Cond := .code yX11_image cX11_image 1 (some .int) :: ([Cond.methodLink RX11 218 yX11_hasValley, Cond.instanceMethod yX11_hasValley, Cond.selects RX11 yX11_hasValley yX11_hasValley, Cond.initialized RX11] ++ (w_X11_hasValley ++ ([])))
theorem gg_X11_image_X11_hasValley : GoodIn w_X11_image w_X11_hasValley := goodIn_sub (fun _ h => List.mem_cons_of_mem _ (List.mem_append_right _ (List.mem_append_left _ h))) (by decide +kernel)
theorem g_X11_image_X11_hasValley_218 : GoodIn w_X11_image (wsV RX11 218 RX11 yX11_hasValley w_X11_hasValley) := goodIn_app (goodIn_of _ (by decide +kernel)) gg_X11_image_X11_hasValley
set_option maxHeartbeats 4000000 in
set_option maxRecDepth 100000 in
theorem c_X11_image (l : Launch) (E : py_E) (L : List Nat) (f : py_F) (sz : Nat) (h : Nat) (hF : fr_H E L f h) : Met l yX11_image w_X11_image ({ frames := 1, cells := 0, slots := 0, locals := 20 }) (py_Pc E [.ref h] L f sz) (py_Qi E L f sz (fun r L1 f1 => r = -1 ∧ ∀ m, fr_M E L f m → fr_M E L1 f1 m)) 0 0 (va_A (va_pl L f) sz) := by
  refine Met.ofW (cc := cX11_image) (maxL := 1) (ret := (some .int)) (by decide) rfl ?_
  intro p e s m args below meth c s₁ B hml hv
  obtain ⟨rfl, rfl, hw⟩ := py_start hv
  have G : CallFix p m c cX11_image 1 s _ w_X11_image RX11 := ⟨B.exec, B.bytes, hml, findClass_of_methodNamed B.named, atoms_spec (ws := w_X11_image) B.pre⟩
  have hr := B.returns
  have hlk := B.notSynchronized
  have hl := lv_entry ([.ref h]) (n := 1) (Nat.le_of_ble_eq_true rfl)
  rw [lg_entry_eq]
  generalize (lg_sl ([.ref h]) ++ List.replicate (1 - (lg_sl ([.ref h])).length) Slot.unset).toArray = ls at hl ⊢
  have hl : lv_has ls 1 [(0, .ref h)] := hl
  obtain ⟨tape, byt, vr, itm, dr, lr, dl, lws, nl, fo, va, tr, im, di, bu, se, mo, od, g, xd, xl, xf, xv, xi, xu, xs, hh, htape, hbyt, hvr, hdr, hxd, hlr, hdl, hxl, hfo, hxf, hf9, hf11, hva, hxv, hv8, hv9, hdi, hxi, hi2, hbu, hxu, hu3, hse, hxs⟩ := id hF
  have hMp : ∀ m, fr_M E L f m → fr_M E L f m := fun _ h => h
  refine lv_aload_n G.1 G.2.1 dX11_image_0 rfl (lv_at hl 0 rfl) ?_
  refine py_calli hw (va_runV (As := []) (rest := []) G (c_X11_hasValley l E L f s.heap.size h hF) (cwV 0 G.2.2.2.2 g_X11_image_X11_hasValley_218 rfl rfl rfl (by decide +kernel) ⟨(Nat.le_of_ble_eq_true rfl), (Nat.le_of_ble_eq_true rfl)⟩) (py_preV hw (C := RX11) (T := TX11) (N := 16) rfl hh) rfl rfl hl.1 rfl (lv_room (Nat.le_of_ble_eq_true rfl)) dX11_image_1 ⟨(Nat.le_of_ble_eq_true rfl), (Nat.le_of_ble_eq_true rfl)⟩) (fun r_5 L_1 f_2 H_3 locs hp_4 hw => ?_)
  obtain ⟨rfl, rfl, rfl⟩ := hp_4
  refine lv_if_ne (tgt := 9) G.1 G.2.1 dX11_image_4 (by decide) (fun c_6 => ?_) (fun c_6 => ?_)
  · skip
    exact absurd c_6 (by decide)
  · skip
    refine lv_iconst (v := (-1)) G.1 G.2.1 dX11_image_7 (by decide) ?_
    exact py_iret G hr rfl hlk hw ⟨rfl, hMp⟩ dX11_image_8

def w_X11_back : List Cond := .code yX11_back cX11_back 1 (some .int) :: ([Cond.fieldLink RX11 101 "HeadYear" "imaged" "Z"] ++ (u_ws RX11 TX11 16 ++ ([])))
theorem in_X11_back_X11 : ∀ w ∈ u_ws RX11 TX11 16, w ∈ w_X11_back := fun _ h => List.mem_cons_of_mem _ (List.mem_append_right _ (List.mem_append_left _ h))
set_option maxHeartbeats 4000000 in
set_option maxRecDepth 100000 in
theorem c_X11_back (l : Launch) (E : py_E) (L : List Nat) (f : py_F) (sz : Nat) (h : Nat) (hF : fr_H E L f h) : Met l yX11_back w_X11_back ({ frames := 0, cells := 0, slots := 0, locals := 0 }) (py_Pc E [.ref h] L f sz) (py_Qi E L f sz (fun r L1 f1 => r = -1 ∧ ∀ m, fr_M E L f m → fr_M E L1 f1 m)) 0 0 (va_A (va_pl L f) sz) := by
  refine Met.ofW (cc := cX11_back) (maxL := 1) (ret := (some .int)) (by decide) rfl ?_
  intro p e s m args below meth c s₁ B hml hv
  obtain ⟨rfl, rfl, hw⟩ := py_start hv
  have G : CallFix p m c cX11_back 1 s _ w_X11_back RX11 := ⟨B.exec, B.bytes, hml, findClass_of_methodNamed B.named, atoms_spec (ws := w_X11_back) B.pre⟩
  have hr := B.returns
  have hlk := B.notSynchronized
  have hl := lv_entry ([.ref h]) (n := 1) (Nat.le_of_ble_eq_true rfl)
  rw [lg_entry_eq]
  generalize (lg_sl ([.ref h]) ++ List.replicate (1 - (lg_sl ([.ref h])).length) Slot.unset).toArray = ls at hl ⊢
  have hl : lv_has ls 1 [(0, .ref h)] := hl
  obtain ⟨tape, byt, vr, itm, dr, lr, dl, lws, nl, fo, va, tr, im, di, bu, se, mo, od, g, xd, xl, xf, xv, xi, xu, xs, hh, htape, hbyt, hvr, hdr, hxd, hlr, hdl, hxl, hfo, hxf, hf9, hf11, hva, hxv, hv8, hv9, hdi, hxi, hi2, hbu, hxu, hu3, hse, hxs⟩ := id hF
  have hMp : ∀ m, fr_M E L f m → fr_M E L f m := fun _ h => h
  refine lv_aload_n G.1 G.2.1 dX11_back_0 rfl (lv_at hl 0 rfl) ?_
  refine py_get (C := RX11) (T := TX11) (N := 16) (k := 15) (v := .int 0) G hw in_X11_back_X11 rfl hh (by decide) (by decide +kernel) rfl dX11_back_1 ?_
  refine lv_if_ne (tgt := 9) G.1 G.2.1 dX11_back_4 (by decide) (fun c_1 => ?_) (fun c_1 => ?_)
  · skip
    exact absurd c_1 (by decide)
  · skip
    refine lv_iconst (v := (-1)) G.1 G.2.1 dX11_back_7 (by decide) ?_
    exact py_iret G hr rfl hlk hw ⟨rfl, hMp⟩ dX11_back_8

def w_X11_mean : List Cond := .code yX11_mean cX11_mean 3 (some .long) :: ([Cond.methodLink RX11 246 yX11_lives, Cond.instanceMethod yX11_lives, Cond.selects RX11 yX11_lives yX11_lives, Cond.initialized RX11, Cond.constantLong RX11 336 (-1000000)] ++ (w_X11_lives ++ ([])))
theorem gg_X11_mean_X11_lives : GoodIn w_X11_mean w_X11_lives := goodIn_sub (fun _ h => List.mem_cons_of_mem _ (List.mem_append_right _ (List.mem_append_left _ h))) (by decide +kernel)
theorem g_X11_mean_X11_lives_246 : GoodIn w_X11_mean (wsV RX11 246 RX11 yX11_lives w_X11_lives) := goodIn_app (goodIn_of _ (by decide +kernel)) gg_X11_mean_X11_lives
set_option maxHeartbeats 4000000 in
set_option maxRecDepth 100000 in
theorem c_X11_mean (l : Launch) (E : py_E) (L : List Nat) (f : py_F) (sz : Nat) (h : Nat) (a : Int32) (b : Int32) (hF : fr_H E L f h) : Met l yX11_mean w_X11_mean ({ frames := 2, cells := 0, slots := 0, locals := 42 }) (py_Pc E [.ref h, .int a, .int b] L f sz) (py_Ql E L f sz (fun r L1 f1 => r = -1000000 ∧ ∀ m, fr_M E L f m → fr_M E L1 f1 m)) 0 0 (va_A (va_pl L f) sz) := by
  refine Met.ofW (cc := cX11_mean) (maxL := 3) (ret := (some .long)) (by decide) rfl ?_
  intro p e s m args below meth c s₁ B hml hv
  obtain ⟨rfl, rfl, hw⟩ := py_start hv
  have G : CallFix p m c cX11_mean 3 s _ w_X11_mean RX11 := ⟨B.exec, B.bytes, hml, findClass_of_methodNamed B.named, atoms_spec (ws := w_X11_mean) B.pre⟩
  have hr := B.returns
  have hlk := B.notSynchronized
  have hl := lv_entry ([.ref h, .int a, .int b]) (n := 3) (Nat.le_of_ble_eq_true rfl)
  rw [lg_entry_eq]
  generalize (lg_sl ([.ref h, .int a, .int b]) ++ List.replicate (3 - (lg_sl ([.ref h, .int a, .int b])).length) Slot.unset).toArray = ls at hl ⊢
  have hl : lv_has ls 3 [(0, .ref h), (1, .int a), (2, .int b)] := hl
  obtain ⟨tape, byt, vr, itm, dr, lr, dl, lws, nl, fo, va, tr, im, di, bu, se, mo, od, g, xd, xl, xf, xv, xi, xu, xs, hh, htape, hbyt, hvr, hdr, hxd, hlr, hdl, hxl, hfo, hxf, hf9, hf11, hva, hxv, hv8, hv9, hdi, hxi, hi2, hbu, hxu, hu3, hse, hxs⟩ := id hF
  have hMp : ∀ m, fr_M E L f m → fr_M E L f m := fun _ h => h
  refine lv_aload_n G.1 G.2.1 dX11_mean_0 rfl (lv_at hl 0 rfl) ?_
  refine lv_iload_n G.1 G.2.1 dX11_mean_1 rfl (lv_at hl 1 rfl) ?_
  refine py_calli hw (va_runV (As := [.int a]) (rest := []) G (c_X11_lives l E L f s.heap.size h a hF) (cwV 1 G.2.2.2.2 g_X11_mean_X11_lives_246 rfl rfl rfl (by decide +kernel) ⟨(Nat.le_of_ble_eq_true rfl), (Nat.le_of_ble_eq_true rfl)⟩) (py_preV hw (C := RX11) (T := TX11) (N := 16) rfl hh) rfl rfl hl.1 rfl (lv_room (Nat.le_of_ble_eq_true rfl)) dX11_mean_2 ⟨(Nat.le_of_ble_eq_true rfl), (Nat.le_of_ble_eq_true rfl)⟩) (fun r_5 L_1 f_2 H_3 locs hp_4 hw => ?_)
  obtain ⟨rfl, rfl, rfl⟩ := hp_4
  refine lv_if_eq (tgt := 19) G.1 G.2.1 dX11_mean_5 (by decide) (fun c_6 => ?_) (fun c_6 => ?_)
  · skip
    refine lv_ldc2 (v := (-1000000)) G.1 G.2.1 G.2.2.2.1 (G.2.2.2.2 (Cond.constantLong RX11 336 (-1000000)) (by decide +kernel)) dX11_mean_19 ?_
    exact py_lret G hr hlk hw ⟨rfl, hMp⟩ dX11_mean_22
  · skip
    exact absurd c_6 (by decide)

def w_X11_seed : List Cond := .code yX11_seed cX11_seed 3 (some .boolean) :: ([Cond.fieldLink RX11 47 "HeadYear" "folk" "LHeadYear$Folk;", Cond.fieldLink RX11 214 "HeadYear$Folk" "x" "J"] ++ (u_ws RX11 TX11 16 ++ (u_ws RX2 TX2 12 ++ ([]))))
theorem in_X11_seed_X11 : ∀ w ∈ u_ws RX11 TX11 16, w ∈ w_X11_seed := fun _ h => List.mem_cons_of_mem _ (List.mem_append_right _ (List.mem_append_left _ h))
theorem in_X11_seed_X2 : ∀ w ∈ u_ws RX2 TX2 12, w ∈ w_X11_seed := fun _ h => List.mem_cons_of_mem _ (List.mem_append_right _ (List.mem_append_right _ (List.mem_append_left _ h)))
set_option maxHeartbeats 4000000 in
set_option maxRecDepth 100000 in
theorem c_X11_seed (l : Launch) (E : py_E) (L : List Nat) (f : py_F) (sz : Nat) (h : Nat) (v : Int64) (hF : fr_H E L f h) : Met l yX11_seed w_X11_seed ({ frames := 0, cells := 0, slots := 0, locals := 0 }) (py_Pc E [.ref h, .long v] L f sz) (py_Qi E L f sz (fun r L1 f1 => r = 1 ∧ ∀ m, fr_M E L f m → fr_M E L1 f1 m)) 0 0 (va_A (va_pl L f) sz) := by
  refine Met.ofW (cc := cX11_seed) (maxL := 3) (ret := (some .boolean)) (by decide) rfl ?_
  intro p e s m args below meth c s₁ B hml hv
  obtain ⟨rfl, rfl, hw⟩ := py_start hv
  have G : CallFix p m c cX11_seed 3 s _ w_X11_seed RX11 := ⟨B.exec, B.bytes, hml, findClass_of_methodNamed B.named, atoms_spec (ws := w_X11_seed) B.pre⟩
  have hr := B.returns
  have hlk := B.notSynchronized
  have hl := lv_entry ([.ref h, .long v]) (n := 3) (Nat.le_of_ble_eq_true rfl)
  rw [lg_entry_eq]
  generalize (lg_sl ([.ref h, .long v]) ++ List.replicate (3 - (lg_sl ([.ref h, .long v])).length) Slot.unset).toArray = ls at hl ⊢
  have hl : lv_has ls 3 [(0, .ref h), (1, .long v)] := hl
  obtain ⟨tape, byt, vr, itm, dr, lr, dl, lws, nl, fo, va, tr, im, di, bu, se, mo, od, g, xd, xl, xf, xv, xi, xu, xs, hh, htape, hbyt, hvr, hdr, hxd, hlr, hdl, hxl, hfo, hxf, hf9, hf11, hva, hxv, hv8, hv9, hdi, hxi, hi2, hbu, hxu, hu3, hse, hxs⟩ := id hF
  have hMp : ∀ m, fr_M E L f m → fr_M E L f m := fun _ h => h
  refine lv_aload_n G.1 G.2.1 dX11_seed_0 rfl (lv_at hl 0 rfl) ?_
  refine py_get (C := RX11) (T := TX11) (N := 16) (k := 5) (v := .ref fo) G hw in_X11_seed_X11 rfl hh (by decide) (by decide +kernel) rfl dX11_seed_1 ?_
  refine lv_lload_n G.1 G.2.1 dX11_seed_4 rfl (lv_at hl 1 rfl) ?_
  refine py_put (C := RX2) (T := TX2) (N := 12) (k := 10) (v := .long v) (fs' := xf.set 10 (.long v)) (ty0 := tyX2) G hw tyX2_ok nmX2 in_X11_seed_X2 rfl hfo (by decide) (by decide +kernel) rfl rfl rfl rfl (py_len hxf (by decide)) rfl dX11_seed_5 (fun f_1 H_2 locs h_3 x_4 hw => ?_)
  obtain ⟨xs_5, exs_5⟩ : ∃ y, y = xf.set 10 (.long v) := ⟨_, rfl⟩
  rw [← exs_5] at h_3
  have hl_6 : xs_5.length = 12 := by rw [exs_5, List.length_set]; exact hxf
  have hp_7 : xs_5[9]? = some (.ref va) := by rw [exs_5, List.getElem?_set_ne (by decide)]; exact hf9
  have hp_8 : xs_5[11]? = some (.int 0) := by rw [exs_5, List.getElem?_set_ne (by decide)]; exact hf11
  have hp_9 : xs_5[10]? = some (.long v) := by rw [exs_5, List.getElem?_set_self (by rw [hxf]; decide)]
  have hMp : ∀ m, fr_M E L f m → fr_M E L f_1 m := fun m h => fr_M_obj (hMp m h) hfo (by decide) x_4
  have hh := hh.ext x_4 (py_ne_kind hh hfo (by decide))
  have htape := htape.ext x_4 (py_ne_kind htape hfo (by decide))
  have hbyt := hbyt.ext x_4 (Ne.symm (py_ne_arr hfo hbyt))
  have hvr := hvr.ext x_4 (py_ne_kind hvr hfo (by decide))
  have hdr := hdr.ext x_4 (py_ne_kind hdr hfo (by decide))
  have hlr := hlr.ext x_4 (py_ne_kind hlr hfo (by decide))
  have hdl := hdl.ext x_4 (py_ne_kind hdl hfo (by decide))
  have hva := hva.ext x_4 (py_ne_kind hva hfo (by decide))
  have hdi := hdi.ext x_4 (py_ne_kind hdi hfo (by decide))
  have hbu := hbu.ext x_4 (py_ne_kind hbu hfo (by decide))
  have hse := hse.ext x_4 (py_ne_kind hse hfo (by decide))
  refine lv_iconst (v := 1) G.1 G.2.1 dX11_seed_8 (by decide) ?_
  exact py_iret G hr rfl hlk hw ⟨rfl, hMp⟩ dX11_seed_9

def w_X11_end : List Cond := .code yX11_end cX11_end 2 (some .boolean) :: ([Cond.fieldLink RX11 10 "HeadYear" "tape" "LHeadYear$Tape;", Cond.fieldLink RX11 109 "HeadYear$Tape" "length" "I"] ++ (u_ws RX11 TX11 16 ++ (u_ws RX8 TX8 4 ++ ([]))))
theorem in_X11_end_X11 : ∀ w ∈ u_ws RX11 TX11 16, w ∈ w_X11_end := fun _ h => List.mem_cons_of_mem _ (List.mem_append_right _ (List.mem_append_left _ h))
theorem in_X11_end_X8 : ∀ w ∈ u_ws RX8 TX8 4, w ∈ w_X11_end := fun _ h => List.mem_cons_of_mem _ (List.mem_append_right _ (List.mem_append_right _ (List.mem_append_left _ h)))
set_option maxHeartbeats 4000000 in
set_option maxRecDepth 100000 in
theorem c_X11_end (l : Launch) (E : py_E) (L : List Nat) (f : py_F) (sz : Nat) (h : Nat) (a : Int32) (hF : fr_H E L f h) : Met l yX11_end w_X11_end ({ frames := 0, cells := 0, slots := 0, locals := 0 }) (py_Pc E [.ref h, .int a] L f sz) (py_Qi E L f sz (fun r L1 f1 => r = (if a < 0 ∨ 0 < a then 0 else 1) ∧ ∀ m, fr_M E L f m → fr_M E L1 f1 m)) 0 0 (va_A (va_pl L f) sz) := by
  refine Met.ofW (cc := cX11_end) (maxL := 2) (ret := (some .boolean)) (by decide) rfl ?_
  intro p e s m args below meth c s₁ B hml hv
  obtain ⟨rfl, rfl, hw⟩ := py_start hv
  have G : CallFix p m c cX11_end 2 s _ w_X11_end RX11 := ⟨B.exec, B.bytes, hml, findClass_of_methodNamed B.named, atoms_spec (ws := w_X11_end) B.pre⟩
  have hr := B.returns
  have hlk := B.notSynchronized
  have hl := lv_entry ([.ref h, .int a]) (n := 2) (Nat.le_of_ble_eq_true rfl)
  rw [lg_entry_eq]
  generalize (lg_sl ([.ref h, .int a]) ++ List.replicate (2 - (lg_sl ([.ref h, .int a])).length) Slot.unset).toArray = ls at hl ⊢
  have hl : lv_has ls 2 [(0, .ref h), (1, .int a)] := hl
  obtain ⟨tape, byt, vr, itm, dr, lr, dl, lws, nl, fo, va, tr, im, di, bu, se, mo, od, g, xd, xl, xf, xv, xi, xu, xs, hh, htape, hbyt, hvr, hdr, hxd, hlr, hdl, hxl, hfo, hxf, hf9, hf11, hva, hxv, hv8, hv9, hdi, hxi, hi2, hbu, hxu, hu3, hse, hxs⟩ := id hF
  have hMp : ∀ m, fr_M E L f m → fr_M E L f m := fun _ h => h
  refine lv_iload_n G.1 G.2.1 dX11_end_0 rfl (lv_at hl 1 rfl) ?_
  refine lv_if_lt (tgt := 15) G.1 G.2.1 dX11_end_1 (by decide) (fun c_1 => ?_) (fun c_1 => ?_)
  · skip
    refine lv_iconst (v := 0) G.1 G.2.1 dX11_end_15 (by decide) ?_
    exact py_iret G hr rfl hlk hw ⟨by simp [c_1], hMp⟩ dX11_end_16
  · skip
    refine lv_iload_n G.1 G.2.1 dX11_end_4 rfl (lv_at hl 1 rfl) ?_
    refine lv_aload_n G.1 G.2.1 dX11_end_5 rfl (lv_at hl 0 rfl) ?_
    refine py_get (C := RX11) (T := TX11) (N := 16) (k := 0) (v := .ref tape) G hw in_X11_end_X11 rfl hh (by decide) (by decide +kernel) rfl dX11_end_6 ?_
    refine py_get (C := RX8) (T := TX8) (N := 4) (k := 1) (v := .int 0) G hw in_X11_end_X8 rfl htape (by decide) (by decide +kernel) rfl dX11_end_9 ?_
    refine lv_icmp_le (tgt := 17) G.1 G.2.1 dX11_end_12 (by decide) (fun c_2 => ?_) (fun c_2 => ?_)
    · skip
      refine lv_aload_n G.1 G.2.1 dX11_end_17 rfl (lv_at hl 0 rfl) ?_
      refine py_get (C := RX11) (T := TX11) (N := 16) (k := 0) (v := .ref tape) G hw in_X11_end_X11 rfl hh (by decide) (by decide +kernel) rfl dX11_end_18 ?_
      refine lv_iload_n G.1 G.2.1 dX11_end_21 rfl (lv_at hl 1 rfl) ?_
      refine py_put (C := RX8) (T := TX8) (N := 4) (k := 1) (v := .int a) (fs' := [.ref byt, .int a, .int 0, .int 0]) (ty0 := tyX8) G hw tyX8_ok nmX8 in_X11_end_X8 rfl htape (by decide) (by decide +kernel) rfl rfl rfl rfl (Nat.le_of_ble_eq_true rfl) rfl dX11_end_22 (fun f_3 H_4 locs h_5 x_6 hw => ?_)
      have hMp : ∀ m, fr_M E L f m → fr_M E L f_3 m := fun m h => fr_M_obj (hMp m h) htape (by decide) x_6
      have hh := hh.ext x_6 (py_ne_kind hh htape (by decide))
      have hbyt := hbyt.ext x_6 (Ne.symm (py_ne_arr htape hbyt))
      have hvr := hvr.ext x_6 (py_ne_kind hvr htape (by decide))
      have hdr := hdr.ext x_6 (py_ne_kind hdr htape (by decide))
      have hlr := hlr.ext x_6 (py_ne_kind hlr htape (by decide))
      have hdl := hdl.ext x_6 (py_ne_kind hdl htape (by decide))
      have hfo := hfo.ext x_6 (py_ne_kind hfo htape (by decide))
      have hva := hva.ext x_6 (py_ne_kind hva htape (by decide))
      have hdi := hdi.ext x_6 (py_ne_kind hdi htape (by decide))
      have hbu := hbu.ext x_6 (py_ne_kind hbu htape (by decide))
      have hse := hse.ext x_6 (py_ne_kind hse htape (by decide))
      refine lv_iconst (v := 1) G.1 G.2.1 dX11_end_25 (by decide) ?_
      exact py_iret G hr rfl hlk hw ⟨by simp [c_1, c_2], hMp⟩ dX11_end_26
    · skip
      refine lv_iconst (v := 0) G.1 G.2.1 dX11_end_15 (by decide) ?_
      exact py_iret G hr rfl hlk hw ⟨by simp [c_1, c_2], hMp⟩ dX11_end_16

def w_X11_law : List Cond := .code yX11_law cX11_law 2 (some .boolean) :: ([Cond.fieldLink RX11 98 "HeadYear" "heldLaw" "I", Cond.methodLink RX11 202 yX11_isLaw, Cond.instanceMethod yX11_isLaw, Cond.selects RX11 yX11_isLaw yX11_isLaw, Cond.initialized RX11] ++ (u_ws RX11 TX11 16 ++ (w_X11_isLaw ++ ([]))))
theorem in_X11_law_X11 : ∀ w ∈ u_ws RX11 TX11 16, w ∈ w_X11_law := fun _ h => List.mem_cons_of_mem _ (List.mem_append_right _ (List.mem_append_left _ h))
theorem gg_X11_law_X11_isLaw : GoodIn w_X11_law w_X11_isLaw := goodIn_sub (fun _ h => List.mem_cons_of_mem _ (List.mem_append_right _ (List.mem_append_right _ (List.mem_append_left _ h)))) (by decide +kernel)
theorem g_X11_law_X11_isLaw_202 : GoodIn w_X11_law (wsV RX11 202 RX11 yX11_isLaw w_X11_isLaw) := goodIn_app (goodIn_of _ (by decide +kernel)) gg_X11_law_X11_isLaw
set_option maxHeartbeats 4000000 in
set_option maxRecDepth 100000 in
theorem c_X11_law (l : Launch) (E : py_E) (L : List Nat) (f : py_F) (sz : Nat) (h : Nat) (a : Int32) (hF : fr_H E L f h) : Met l yX11_law w_X11_law ({ frames := 1, cells := 0, slots := 0, locals := 21 }) (py_Pc E [.ref h, .int a] L f sz) (py_Qi E L f sz (fun r L1 f1 => r = (if a = -1 then 1 else 0) ∧ ∀ m, fr_M E L f m → fr_M E L1 f1 m)) 0 0 (va_A (va_pl L f) sz) := by
  refine Met.ofW (cc := cX11_law) (maxL := 2) (ret := (some .boolean)) (by decide) rfl ?_
  intro p e s m args below meth c s₁ B hml hv
  obtain ⟨rfl, rfl, hw⟩ := py_start hv
  have G : CallFix p m c cX11_law 2 s _ w_X11_law RX11 := ⟨B.exec, B.bytes, hml, findClass_of_methodNamed B.named, atoms_spec (ws := w_X11_law) B.pre⟩
  have hr := B.returns
  have hlk := B.notSynchronized
  have hl := lv_entry ([.ref h, .int a]) (n := 2) (Nat.le_of_ble_eq_true rfl)
  rw [lg_entry_eq]
  generalize (lg_sl ([.ref h, .int a]) ++ List.replicate (2 - (lg_sl ([.ref h, .int a])).length) Slot.unset).toArray = ls at hl ⊢
  have hl : lv_has ls 2 [(0, .ref h), (1, .int a)] := hl
  obtain ⟨tape, byt, vr, itm, dr, lr, dl, lws, nl, fo, va, tr, im, di, bu, se, mo, od, g, xd, xl, xf, xv, xi, xu, xs, hh, htape, hbyt, hvr, hdr, hxd, hlr, hdl, hxl, hfo, hxf, hf9, hf11, hva, hxv, hv8, hv9, hdi, hxi, hi2, hbu, hxu, hu3, hse, hxs⟩ := id hF
  have hMp : ∀ m, fr_M E L f m → fr_M E L f m := fun _ h => h
  refine lv_iload_n G.1 G.2.1 dX11_law_0 rfl (lv_at hl 1 rfl) ?_
  refine lv_iconst (v := (-1)) G.1 G.2.1 dX11_law_1 (by decide) ?_
  refine lv_icmp_eq (tgt := 15) G.1 G.2.1 dX11_law_2 (by decide) (fun c_1 => ?_) (fun c_1 => ?_)
  · skip
    subst c_1
    refine lv_aload_n G.1 G.2.1 dX11_law_15 rfl (lv_at hl 0 rfl) ?_
    refine lv_iload_n G.1 G.2.1 dX11_law_16 rfl (lv_at hl 1 rfl) ?_
    refine py_put (C := RX11) (T := TX11) (N := 16) (k := 14) (v := .int (-1)) (fs' := [.ref tape, .ref vr, .ref lr, .ref lws, .ref nl, .ref fo, .ref tr, .ref im, .ref di, .ref bu, .ref se, .ref mo, .ref od, .int 0, .int (-1), .int 0]) (ty0 := tyX11) G hw tyX11_ok nmX11 in_X11_law_X11 rfl hh (by decide) (by decide +kernel) rfl rfl rfl rfl (Nat.le_of_ble_eq_true rfl) rfl dX11_law_17 (fun f_2 H_3 locs h_4 x_5 hw => ?_)
    have hMp : ∀ m, fr_M E L f m → fr_M E L f_2 m := fun m h => fr_M_obj (hMp m h) hh (by decide) x_5
    have htape := htape.ext x_5 (py_ne_kind htape hh (by decide))
    have hbyt := hbyt.ext x_5 (Ne.symm (py_ne_arr hh hbyt))
    have hvr := hvr.ext x_5 (py_ne_kind hvr hh (by decide))
    have hdr := hdr.ext x_5 (py_ne_kind hdr hh (by decide))
    have hlr := hlr.ext x_5 (py_ne_kind hlr hh (by decide))
    have hdl := hdl.ext x_5 (py_ne_kind hdl hh (by decide))
    have hfo := hfo.ext x_5 (py_ne_kind hfo hh (by decide))
    have hva := hva.ext x_5 (py_ne_kind hva hh (by decide))
    have hdi := hdi.ext x_5 (py_ne_kind hdi hh (by decide))
    have hbu := hbu.ext x_5 (py_ne_kind hbu hh (by decide))
    have hse := hse.ext x_5 (py_ne_kind hse hh (by decide))
    refine lv_iconst (v := 1) G.1 G.2.1 dX11_law_20 (by decide) ?_
    exact py_iret G hr rfl hlk hw ⟨by simp [], hMp⟩ dX11_law_21
  · skip
    refine lv_aload_n G.1 G.2.1 dX11_law_5 rfl (lv_at hl 0 rfl) ?_
    refine lv_iload_n G.1 G.2.1 dX11_law_6 rfl (lv_at hl 1 rfl) ?_
    refine py_calli hw (va_runV (As := [.int a]) (rest := []) G (c_X11_isLaw l E L f s.heap.size h a hF) (cwV 1 G.2.2.2.2 g_X11_law_X11_isLaw_202 rfl rfl rfl (by decide +kernel) ⟨(Nat.le_of_ble_eq_true rfl), (Nat.le_of_ble_eq_true rfl)⟩) (py_preV hw (C := RX11) (T := TX11) (N := 16) rfl hh) rfl rfl hl.1 rfl (lv_room (Nat.le_of_ble_eq_true rfl)) dX11_law_7 ⟨(Nat.le_of_ble_eq_true rfl), (Nat.le_of_ble_eq_true rfl)⟩) (fun r_10 L_6 f_7 H_8 locs hp_9 hw => ?_)
    obtain ⟨rfl, rfl, rfl⟩ := hp_9
    refine lv_if_ne (tgt := 15) G.1 G.2.1 dX11_law_10 (by decide) (fun c_11 => ?_) (fun c_11 => ?_)
    · skip
      exact absurd c_11 (by decide)
    · skip
      refine lv_iconst (v := 0) G.1 G.2.1 dX11_law_13 (by decide) ?_
      exact py_iret G hr rfl hlk hw ⟨by simp [c_1, c_11], hMp⟩ dX11_law_14

def w_X11_set : List Cond := .code yX11_set cX11_set 3 (some .boolean) :: ([Cond.fieldLink RX11 67 "HeadYear" "buyings" "LHeadYear$Buyings;", Cond.fieldLink RX11 211 "HeadYear$Buyings" "price" "I", Cond.fieldLink RX11 74 "HeadYear" "seasons" "LHeadYear$Seasons;", Cond.fieldLink RX11 208 "HeadYear$Seasons" "luck" "Z", Cond.fieldLink RX11 205 "HeadYear$Seasons" "find" "I"] ++ (u_ws RX11 TX11 16 ++ (u_ws RX0 TX0 5 ++ (u_ws RX7 TX7 5 ++ ([])))))
theorem in_X11_set_X11 : ∀ w ∈ u_ws RX11 TX11 16, w ∈ w_X11_set := fun _ h => List.mem_cons_of_mem _ (List.mem_append_right _ (List.mem_append_left _ h))
theorem in_X11_set_X0 : ∀ w ∈ u_ws RX0 TX0 5, w ∈ w_X11_set := fun _ h => List.mem_cons_of_mem _ (List.mem_append_right _ (List.mem_append_right _ (List.mem_append_left _ h)))
theorem in_X11_set_X7 : ∀ w ∈ u_ws RX7 TX7 5, w ∈ w_X11_set := fun _ h => List.mem_cons_of_mem _ (List.mem_append_right _ (List.mem_append_right _ (List.mem_append_right _ (List.mem_append_left _ h))))
set_option maxHeartbeats 4000000 in
set_option maxRecDepth 100000 in
theorem c_X11_set (l : Launch) (E : py_E) (L : List Nat) (f : py_F) (sz : Nat) (h : Nat) (a : Int32) (b : Int32) (hF : fr_H E L f h) : Met l yX11_set w_X11_set ({ frames := 0, cells := 0, slots := 0, locals := 0 }) (py_Pc E [.ref h, .int a, .int b] L f sz) (py_Qi E L f sz (fun r L1 f1 => r = sp_set a b ∧ ∀ m, fr_M E L f m → fr_M E L1 f1 m)) 0 0 (va_A (va_pl L f) sz) := by
  refine Met.ofW (cc := cX11_set) (maxL := 3) (ret := (some .boolean)) (by decide) rfl ?_
  intro p e s m args below meth c s₁ B hml hv
  obtain ⟨rfl, rfl, hw⟩ := py_start hv
  have G : CallFix p m c cX11_set 3 s _ w_X11_set RX11 := ⟨B.exec, B.bytes, hml, findClass_of_methodNamed B.named, atoms_spec (ws := w_X11_set) B.pre⟩
  have hr := B.returns
  have hlk := B.notSynchronized
  have hl := lv_entry ([.ref h, .int a, .int b]) (n := 3) (Nat.le_of_ble_eq_true rfl)
  rw [lg_entry_eq]
  generalize (lg_sl ([.ref h, .int a, .int b]) ++ List.replicate (3 - (lg_sl ([.ref h, .int a, .int b])).length) Slot.unset).toArray = ls at hl ⊢
  have hl : lv_has ls 3 [(0, .ref h), (1, .int a), (2, .int b)] := hl
  obtain ⟨tape, byt, vr, itm, dr, lr, dl, lws, nl, fo, va, tr, im, di, bu, se, mo, od, g, xd, xl, xf, xv, xi, xu, xs, hh, htape, hbyt, hvr, hdr, hxd, hlr, hdl, hxl, hfo, hxf, hf9, hf11, hva, hxv, hv8, hv9, hdi, hxi, hi2, hbu, hxu, hu3, hse, hxs⟩ := id hF
  have hMp : ∀ m, fr_M E L f m → fr_M E L f m := fun _ h => h
  refine lv_iload_n G.1 G.2.1 dX11_set_0 rfl (lv_at hl 2 rfl) ?_
  refine lv_if_ge (tgt := 6) G.1 G.2.1 dX11_set_1 (by decide) (fun c_1 => ?_) (fun c_1 => ?_)
  · skip
    refine lv_iload_n G.1 G.2.1 dX11_set_6 rfl (lv_at hl 1 rfl) ?_
    refine lv_if_ne (tgt := 26) G.1 G.2.1 dX11_set_7 (by decide) (fun c_2 => ?_) (fun c_2 => ?_)
    · skip
      refine lv_iload_n G.1 G.2.1 dX11_set_26 rfl (lv_at hl 1 rfl) ?_
      refine lv_iconst (v := 1) G.1 G.2.1 dX11_set_27 (by decide) ?_
      refine lv_icmp_ne (tgt := 55) G.1 G.2.1 dX11_set_28 (by decide) (fun c_3 => ?_) (fun c_3 => ?_)
      · skip
        refine lv_iload_n G.1 G.2.1 dX11_set_55 rfl (lv_at hl 1 rfl) ?_
        refine lv_iconst (v := 2) G.1 G.2.1 dX11_set_56 (by decide) ?_
        refine lv_icmp_ne (tgt := 76) G.1 G.2.1 dX11_set_57 (by decide) (fun c_4 => ?_) (fun c_4 => ?_)
        · skip
          refine lv_iconst (v := 0) G.1 G.2.1 dX11_set_76 (by decide) ?_
          exact py_iret G hr rfl hlk hw ⟨by first | decide | exact absurd rfl c_1 | exact absurd rfl c_2 | exact absurd rfl c_3 | exact absurd rfl c_4 | (have h9 := Int32.not_lt.mp c_1; simp [sp_set, h9, c_1, c_2, c_3, c_4]; done) | (have h9 := Int32.not_lt.mp c_2; simp [sp_set, h9, c_1, c_2, c_3, c_4]; done) | (have h9 := Int32.not_lt.mp c_3; simp [sp_set, h9, c_1, c_2, c_3, c_4]; done) | (have h9 := Int32.not_lt.mp c_4; simp [sp_set, h9, c_1, c_2, c_3, c_4]; done) | (have z0 : (0 : Int32).toInt = 0 := rfl; have z1 : (1 : Int32).toInt = 1 := rfl; have z2 : (2 : Int32).toInt = 2 := rfl; have z3 : (99 : Int32).toInt = 99 := rfl; have z4 : (100 : Int32).toInt = 100 := rfl; simp only [sp_set, Int32.lt_iff_toInt_lt, Int32.le_iff_toInt_le, ← Int32.toInt_inj] at c_1 c_2 c_3 c_4 ⊢; split <;> first | rfl | omega), hMp⟩ dX11_set_77
        · skip
          subst c_4
          refine lv_iload_n G.1 G.2.1 dX11_set_60 rfl (lv_at hl 2 rfl) ?_
          refine lv_bipush (v := 99) G.1 G.2.1 dX11_set_61 (by decide) ?_
          refine lv_icmp_gt (tgt := 76) G.1 G.2.1 dX11_set_63 (by decide) (fun c_5 => ?_) (fun c_5 => ?_)
          · skip
            refine lv_iconst (v := 0) G.1 G.2.1 dX11_set_76 (by decide) ?_
            exact py_iret G hr rfl hlk hw ⟨by first | decide | exact absurd rfl c_1 | exact absurd rfl c_2 | exact absurd rfl c_3 | exact absurd rfl c_5 | (have h9 := Int32.not_lt.mp c_1; simp [sp_set, h9, c_1, c_2, c_3, c_5]; done) | (have h9 := Int32.not_lt.mp c_2; simp [sp_set, h9, c_1, c_2, c_3, c_5]; done) | (have h9 := Int32.not_lt.mp c_3; simp [sp_set, h9, c_1, c_2, c_3, c_5]; done) | (have h9 := Int32.not_lt.mp c_5; simp [sp_set, h9, c_1, c_2, c_3, c_5]; done) | (have z0 : (0 : Int32).toInt = 0 := rfl; have z1 : (1 : Int32).toInt = 1 := rfl; have z2 : (2 : Int32).toInt = 2 := rfl; have z3 : (99 : Int32).toInt = 99 := rfl; have z4 : (100 : Int32).toInt = 100 := rfl; simp only [sp_set, Int32.lt_iff_toInt_lt, Int32.le_iff_toInt_le, ← Int32.toInt_inj] at c_1 c_2 c_3 c_5 ⊢; split <;> first | rfl | omega), hMp⟩ dX11_set_77
          · skip
            refine lv_aload_n G.1 G.2.1 dX11_set_66 rfl (lv_at hl 0 rfl) ?_
            refine py_get (C := RX11) (T := TX11) (N := 16) (k := 9) (v := .ref bu) G hw in_X11_set_X11 rfl hh (by decide) (by decide +kernel) rfl dX11_set_67 ?_
            refine lv_iload_n G.1 G.2.1 dX11_set_70 rfl (lv_at hl 2 rfl) ?_
            refine py_put (C := RX0) (T := TX0) (N := 5) (k := 4) (v := .int b) (fs' := xu.set 4 (.int b)) (ty0 := tyX0) G hw tyX0_ok nmX0 in_X11_set_X0 rfl hbu (by decide) (by decide +kernel) rfl rfl rfl rfl (py_len hxu (by decide)) rfl dX11_set_71 (fun f_6 H_7 locs h_8 x_9 hw => ?_)
            obtain ⟨xs_10, exs_10⟩ : ∃ y, y = xu.set 4 (.int b) := ⟨_, rfl⟩
            rw [← exs_10] at h_8
            have hl_11 : xs_10.length = 5 := by rw [exs_10, List.length_set]; exact hxu
            have hp_12 : xs_10[3]? = some (.int 0) := by rw [exs_10, List.getElem?_set_ne (by decide)]; exact hu3
            have hp_13 : xs_10[4]? = some (.int b) := by rw [exs_10, List.getElem?_set_self (by rw [hxu]; decide)]
            have hMp : ∀ m, fr_M E L f m → fr_M E L f_6 m := fun m h => fr_M_obj (hMp m h) hbu (by decide) x_9
            have hh := hh.ext x_9 (py_ne_kind hh hbu (by decide))
            have htape := htape.ext x_9 (py_ne_kind htape hbu (by decide))
            have hbyt := hbyt.ext x_9 (Ne.symm (py_ne_arr hbu hbyt))
            have hvr := hvr.ext x_9 (py_ne_kind hvr hbu (by decide))
            have hdr := hdr.ext x_9 (py_ne_kind hdr hbu (by decide))
            have hlr := hlr.ext x_9 (py_ne_kind hlr hbu (by decide))
            have hdl := hdl.ext x_9 (py_ne_kind hdl hbu (by decide))
            have hfo := hfo.ext x_9 (py_ne_kind hfo hbu (by decide))
            have hva := hva.ext x_9 (py_ne_kind hva hbu (by decide))
            have hdi := hdi.ext x_9 (py_ne_kind hdi hbu (by decide))
            have hse := hse.ext x_9 (py_ne_kind hse hbu (by decide))
            refine lv_iconst (v := 1) G.1 G.2.1 dX11_set_74 (by decide) ?_
            exact py_iret G hr rfl hlk hw ⟨by first | decide | exact absurd rfl c_1 | exact absurd rfl c_2 | exact absurd rfl c_3 | exact absurd rfl c_5 | (have h9 := Int32.not_lt.mp c_1; simp [sp_set, h9, c_1, c_2, c_3, c_5]; done) | (have h9 := Int32.not_lt.mp c_2; simp [sp_set, h9, c_1, c_2, c_3, c_5]; done) | (have h9 := Int32.not_lt.mp c_3; simp [sp_set, h9, c_1, c_2, c_3, c_5]; done) | (have h9 := Int32.not_lt.mp c_5; simp [sp_set, h9, c_1, c_2, c_3, c_5]; done) | (have z0 : (0 : Int32).toInt = 0 := rfl; have z1 : (1 : Int32).toInt = 1 := rfl; have z2 : (2 : Int32).toInt = 2 := rfl; have z3 : (99 : Int32).toInt = 99 := rfl; have z4 : (100 : Int32).toInt = 100 := rfl; simp only [sp_set, Int32.lt_iff_toInt_lt, Int32.le_iff_toInt_le, ← Int32.toInt_inj] at c_1 c_2 c_3 c_5 ⊢; split <;> first | rfl | omega), hMp⟩ dX11_set_75
      · skip
        subst c_3
        refine lv_iload_n G.1 G.2.1 dX11_set_31 rfl (lv_at hl 2 rfl) ?_
        refine lv_iconst (v := 1) G.1 G.2.1 dX11_set_32 (by decide) ?_
        refine lv_icmp_gt (tgt := 55) G.1 G.2.1 dX11_set_33 (by decide) (fun c_14 => ?_) (fun c_14 => ?_)
        · skip
          refine lv_iload_n G.1 G.2.1 dX11_set_55 rfl (lv_at hl 1 rfl) ?_
          refine lv_iconst (v := 2) G.1 G.2.1 dX11_set_56 (by decide) ?_
          refine lv_icmp_ne (tgt := 76) G.1 G.2.1 dX11_set_57 (by decide) (fun c_15 => ?_) (fun c_15 => ?_)
          · skip
            refine lv_iconst (v := 0) G.1 G.2.1 dX11_set_76 (by decide) ?_
            exact py_iret G hr rfl hlk hw ⟨by first | decide | exact absurd rfl c_1 | exact absurd rfl c_2 | exact absurd rfl c_14 | exact absurd rfl c_15 | (have h9 := Int32.not_lt.mp c_1; simp [sp_set, h9, c_1, c_2, c_14, c_15]; done) | (have h9 := Int32.not_lt.mp c_2; simp [sp_set, h9, c_1, c_2, c_14, c_15]; done) | (have h9 := Int32.not_lt.mp c_14; simp [sp_set, h9, c_1, c_2, c_14, c_15]; done) | (have h9 := Int32.not_lt.mp c_15; simp [sp_set, h9, c_1, c_2, c_14, c_15]; done) | (have z0 : (0 : Int32).toInt = 0 := rfl; have z1 : (1 : Int32).toInt = 1 := rfl; have z2 : (2 : Int32).toInt = 2 := rfl; have z3 : (99 : Int32).toInt = 99 := rfl; have z4 : (100 : Int32).toInt = 100 := rfl; simp only [sp_set, Int32.lt_iff_toInt_lt, Int32.le_iff_toInt_le, ← Int32.toInt_inj] at c_1 c_2 c_14 c_15 ⊢; split <;> first | rfl | omega), hMp⟩ dX11_set_77
          · skip
            exact absurd c_15 (by decide)
        · skip
          refine lv_aload_n G.1 G.2.1 dX11_set_36 rfl (lv_at hl 0 rfl) ?_
          refine py_get (C := RX11) (T := TX11) (N := 16) (k := 10) (v := .ref se) G hw in_X11_set_X11 rfl hh (by decide) (by decide +kernel) rfl dX11_set_37 ?_
          refine lv_iload_n G.1 G.2.1 dX11_set_40 rfl (lv_at hl 2 rfl) ?_
          refine lv_iconst (v := 1) G.1 G.2.1 dX11_set_41 (by decide) ?_
          refine lv_icmp_ne (tgt := 49) G.1 G.2.1 dX11_set_42 (by decide) (fun c_16 => ?_) (fun c_16 => ?_)
          · skip
            refine lv_iconst (v := 0) G.1 G.2.1 dX11_set_49 (by decide) ?_
            refine py_put (C := RX7) (T := TX7) (N := 5) (k := 4) (v := .int 0) (fs' := xs.set 4 (.int 0)) (ty0 := tyX7) G hw tyX7_ok nmX7 in_X11_set_X7 rfl hse (by decide) (by decide +kernel) rfl rfl rfl rfl (py_len hxs (by decide)) rfl dX11_set_50 (fun f_17 H_18 locs h_19 x_20 hw => ?_)
            obtain ⟨xs_21, exs_21⟩ : ∃ y, y = xs.set 4 (.int 0) := ⟨_, rfl⟩
            rw [← exs_21] at h_19
            have hl_22 : xs_21.length = 5 := by rw [exs_21, List.length_set]; exact hxs
            have hp_23 : xs_21[4]? = some (.int 0) := by rw [exs_21, List.getElem?_set_self (by rw [hxs]; decide)]
            have hMp : ∀ m, fr_M E L f m → fr_M E L f_17 m := fun m h => fr_M_obj (hMp m h) hse (by decide) x_20
            have hh := hh.ext x_20 (py_ne_kind hh hse (by decide))
            have htape := htape.ext x_20 (py_ne_kind htape hse (by decide))
            have hbyt := hbyt.ext x_20 (Ne.symm (py_ne_arr hse hbyt))
            have hvr := hvr.ext x_20 (py_ne_kind hvr hse (by decide))
            have hdr := hdr.ext x_20 (py_ne_kind hdr hse (by decide))
            have hlr := hlr.ext x_20 (py_ne_kind hlr hse (by decide))
            have hdl := hdl.ext x_20 (py_ne_kind hdl hse (by decide))
            have hfo := hfo.ext x_20 (py_ne_kind hfo hse (by decide))
            have hva := hva.ext x_20 (py_ne_kind hva hse (by decide))
            have hdi := hdi.ext x_20 (py_ne_kind hdi hse (by decide))
            have hbu := hbu.ext x_20 (py_ne_kind hbu hse (by decide))
            refine lv_iconst (v := 1) G.1 G.2.1 dX11_set_53 (by decide) ?_
            exact py_iret G hr rfl hlk hw ⟨by first | decide | exact absurd rfl c_1 | exact absurd rfl c_2 | exact absurd rfl c_14 | exact absurd rfl c_16 | (have h9 := Int32.not_lt.mp c_1; simp [sp_set, h9, c_1, c_2, c_14, c_16]; done) | (have h9 := Int32.not_lt.mp c_2; simp [sp_set, h9, c_1, c_2, c_14, c_16]; done) | (have h9 := Int32.not_lt.mp c_14; simp [sp_set, h9, c_1, c_2, c_14, c_16]; done) | (have h9 := Int32.not_lt.mp c_16; simp [sp_set, h9, c_1, c_2, c_14, c_16]; done) | (have z0 : (0 : Int32).toInt = 0 := rfl; have z1 : (1 : Int32).toInt = 1 := rfl; have z2 : (2 : Int32).toInt = 2 := rfl; have z3 : (99 : Int32).toInt = 99 := rfl; have z4 : (100 : Int32).toInt = 100 := rfl; simp only [sp_set, Int32.lt_iff_toInt_lt, Int32.le_iff_toInt_le, ← Int32.toInt_inj] at c_1 c_2 c_14 c_16 ⊢; split <;> first | rfl | omega), hMp⟩ dX11_set_54
          · skip
            subst c_16
            refine lv_iconst (v := 1) G.1 G.2.1 dX11_set_45 (by decide) ?_
            refine lv_goto (tgt := 50) G.1 G.2.1 dX11_set_46 (by decide) ?_
            refine py_put (C := RX7) (T := TX7) (N := 5) (k := 4) (v := .int 1) (fs' := xs.set 4 (.int 1)) (ty0 := tyX7) G hw tyX7_ok nmX7 in_X11_set_X7 rfl hse (by decide) (by decide +kernel) rfl rfl rfl rfl (py_len hxs (by decide)) rfl dX11_set_50 (fun f_24 H_25 locs h_26 x_27 hw => ?_)
            obtain ⟨xs_28, exs_28⟩ : ∃ y, y = xs.set 4 (.int 1) := ⟨_, rfl⟩
            rw [← exs_28] at h_26
            have hl_29 : xs_28.length = 5 := by rw [exs_28, List.length_set]; exact hxs
            have hp_30 : xs_28[4]? = some (.int 1) := by rw [exs_28, List.getElem?_set_self (by rw [hxs]; decide)]
            have hMp : ∀ m, fr_M E L f m → fr_M E L f_24 m := fun m h => fr_M_obj (hMp m h) hse (by decide) x_27
            have hh := hh.ext x_27 (py_ne_kind hh hse (by decide))
            have htape := htape.ext x_27 (py_ne_kind htape hse (by decide))
            have hbyt := hbyt.ext x_27 (Ne.symm (py_ne_arr hse hbyt))
            have hvr := hvr.ext x_27 (py_ne_kind hvr hse (by decide))
            have hdr := hdr.ext x_27 (py_ne_kind hdr hse (by decide))
            have hlr := hlr.ext x_27 (py_ne_kind hlr hse (by decide))
            have hdl := hdl.ext x_27 (py_ne_kind hdl hse (by decide))
            have hfo := hfo.ext x_27 (py_ne_kind hfo hse (by decide))
            have hva := hva.ext x_27 (py_ne_kind hva hse (by decide))
            have hdi := hdi.ext x_27 (py_ne_kind hdi hse (by decide))
            have hbu := hbu.ext x_27 (py_ne_kind hbu hse (by decide))
            refine lv_iconst (v := 1) G.1 G.2.1 dX11_set_53 (by decide) ?_
            exact py_iret G hr rfl hlk hw ⟨by first | decide | exact absurd rfl c_1 | exact absurd rfl c_2 | exact absurd rfl c_14 | (have h9 := Int32.not_lt.mp c_1; simp [sp_set, h9, c_1, c_2, c_14]; done) | (have h9 := Int32.not_lt.mp c_2; simp [sp_set, h9, c_1, c_2, c_14]; done) | (have h9 := Int32.not_lt.mp c_14; simp [sp_set, h9, c_1, c_2, c_14]; done) | (have z0 : (0 : Int32).toInt = 0 := rfl; have z1 : (1 : Int32).toInt = 1 := rfl; have z2 : (2 : Int32).toInt = 2 := rfl; have z3 : (99 : Int32).toInt = 99 := rfl; have z4 : (100 : Int32).toInt = 100 := rfl; simp only [sp_set, Int32.lt_iff_toInt_lt, Int32.le_iff_toInt_le, ← Int32.toInt_inj] at c_1 c_2 c_14 ⊢; split <;> first | rfl | omega), hMp⟩ dX11_set_54
    · skip
      subst c_2
      refine lv_iload_n G.1 G.2.1 dX11_set_10 rfl (lv_at hl 2 rfl) ?_
      refine lv_bipush (v := 100) G.1 G.2.1 dX11_set_11 (by decide) ?_
      refine lv_icmp_gt (tgt := 26) G.1 G.2.1 dX11_set_13 (by decide) (fun c_31 => ?_) (fun c_31 => ?_)
      · skip
        refine lv_iload_n G.1 G.2.1 dX11_set_26 rfl (lv_at hl 1 rfl) ?_
        refine lv_iconst (v := 1) G.1 G.2.1 dX11_set_27 (by decide) ?_
        refine lv_icmp_ne (tgt := 55) G.1 G.2.1 dX11_set_28 (by decide) (fun c_32 => ?_) (fun c_32 => ?_)
        · skip
          refine lv_iload_n G.1 G.2.1 dX11_set_55 rfl (lv_at hl 1 rfl) ?_
          refine lv_iconst (v := 2) G.1 G.2.1 dX11_set_56 (by decide) ?_
          refine lv_icmp_ne (tgt := 76) G.1 G.2.1 dX11_set_57 (by decide) (fun c_33 => ?_) (fun c_33 => ?_)
          · skip
            refine lv_iconst (v := 0) G.1 G.2.1 dX11_set_76 (by decide) ?_
            exact py_iret G hr rfl hlk hw ⟨by first | decide | exact absurd rfl c_1 | exact absurd rfl c_31 | exact absurd rfl c_32 | exact absurd rfl c_33 | (have h9 := Int32.not_lt.mp c_1; simp [sp_set, h9, c_1, c_31, c_32, c_33]; done) | (have h9 := Int32.not_lt.mp c_31; simp [sp_set, h9, c_1, c_31, c_32, c_33]; done) | (have h9 := Int32.not_lt.mp c_32; simp [sp_set, h9, c_1, c_31, c_32, c_33]; done) | (have h9 := Int32.not_lt.mp c_33; simp [sp_set, h9, c_1, c_31, c_32, c_33]; done) | (have z0 : (0 : Int32).toInt = 0 := rfl; have z1 : (1 : Int32).toInt = 1 := rfl; have z2 : (2 : Int32).toInt = 2 := rfl; have z3 : (99 : Int32).toInt = 99 := rfl; have z4 : (100 : Int32).toInt = 100 := rfl; simp only [sp_set, Int32.lt_iff_toInt_lt, Int32.le_iff_toInt_le, ← Int32.toInt_inj] at c_1 c_31 c_32 c_33 ⊢; split <;> first | rfl | omega), hMp⟩ dX11_set_77
          · skip
            exact absurd c_33 (by decide)
        · skip
          exact absurd c_32 (by decide)
      · skip
        refine lv_aload_n G.1 G.2.1 dX11_set_16 rfl (lv_at hl 0 rfl) ?_
        refine py_get (C := RX11) (T := TX11) (N := 16) (k := 10) (v := .ref se) G hw in_X11_set_X11 rfl hh (by decide) (by decide +kernel) rfl dX11_set_17 ?_
        refine lv_iload_n G.1 G.2.1 dX11_set_20 rfl (lv_at hl 2 rfl) ?_
        refine py_put (C := RX7) (T := TX7) (N := 5) (k := 3) (v := .int b) (fs' := xs.set 3 (.int b)) (ty0 := tyX7) G hw tyX7_ok nmX7 in_X11_set_X7 rfl hse (by decide) (by decide +kernel) rfl rfl rfl rfl (py_len hxs (by decide)) rfl dX11_set_21 (fun f_34 H_35 locs h_36 x_37 hw => ?_)
        obtain ⟨xs_38, exs_38⟩ : ∃ y, y = xs.set 3 (.int b) := ⟨_, rfl⟩
        rw [← exs_38] at h_36
        have hl_39 : xs_38.length = 5 := by rw [exs_38, List.length_set]; exact hxs
        have hp_40 : xs_38[3]? = some (.int b) := by rw [exs_38, List.getElem?_set_self (by rw [hxs]; decide)]
        have hMp : ∀ m, fr_M E L f m → fr_M E L f_34 m := fun m h => fr_M_obj (hMp m h) hse (by decide) x_37
        have hh := hh.ext x_37 (py_ne_kind hh hse (by decide))
        have htape := htape.ext x_37 (py_ne_kind htape hse (by decide))
        have hbyt := hbyt.ext x_37 (Ne.symm (py_ne_arr hse hbyt))
        have hvr := hvr.ext x_37 (py_ne_kind hvr hse (by decide))
        have hdr := hdr.ext x_37 (py_ne_kind hdr hse (by decide))
        have hlr := hlr.ext x_37 (py_ne_kind hlr hse (by decide))
        have hdl := hdl.ext x_37 (py_ne_kind hdl hse (by decide))
        have hfo := hfo.ext x_37 (py_ne_kind hfo hse (by decide))
        have hva := hva.ext x_37 (py_ne_kind hva hse (by decide))
        have hdi := hdi.ext x_37 (py_ne_kind hdi hse (by decide))
        have hbu := hbu.ext x_37 (py_ne_kind hbu hse (by decide))
        refine lv_iconst (v := 1) G.1 G.2.1 dX11_set_24 (by decide) ?_
        exact py_iret G hr rfl hlk hw ⟨by first | decide | exact absurd rfl c_1 | exact absurd rfl c_31 | (have h9 := Int32.not_lt.mp c_1; simp [sp_set, h9, c_1, c_31]; done) | (have h9 := Int32.not_lt.mp c_31; simp [sp_set, h9, c_1, c_31]; done) | (have z0 : (0 : Int32).toInt = 0 := rfl; have z1 : (1 : Int32).toInt = 1 := rfl; have z2 : (2 : Int32).toInt = 2 := rfl; have z3 : (99 : Int32).toInt = 99 := rfl; have z4 : (100 : Int32).toInt = 100 := rfl; simp only [sp_set, Int32.lt_iff_toInt_lt, Int32.le_iff_toInt_le, ← Int32.toInt_inj] at c_1 c_31 ⊢; split <;> first | rfl | omega), hMp⟩ dX11_set_25
  · skip
    refine lv_iconst (v := 0) G.1 G.2.1 dX11_set_4 (by decide) ?_
    exact py_iret G hr rfl hlk hw ⟨by first | decide | exact absurd rfl c_1 | (have h9 := Int32.not_lt.mp c_1; simp [sp_set, h9, c_1]; done) | (have z0 : (0 : Int32).toInt = 0 := rfl; have z1 : (1 : Int32).toInt = 1 := rfl; have z2 : (2 : Int32).toInt = 2 := rfl; have z3 : (99 : Int32).toInt = 99 := rfl; have z4 : (100 : Int32).toInt = 100 := rfl; simp only [sp_set, Int32.lt_iff_toInt_lt, Int32.le_iff_toInt_le, ← Int32.toInt_inj] at c_1 ⊢; split <;> first | rfl | omega), hMp⟩ dX11_set_5
end
section
theorem dX10_faultOf_0 : decode cX10_faultOf 0 = .ok (.aload_n 1, 1) := by decide +kernel
theorem dX10_faultOf_1 : decode cX10_faultOf 1 = .ok (.iconst 0, 1) := by decide +kernel
theorem dX10_faultOf_2 : decode cX10_faultOf 2 = .ok (.putfield 22, 3) := by decide +kernel
theorem dX10_faultOf_5 : decode cX10_faultOf 5 = .ok (.aload_n 0, 1) := by decide +kernel
theorem dX10_faultOf_6 : decode cX10_faultOf 6 = .ok (.getfield 18, 3) := by decide +kernel
theorem dX10_faultOf_9 : decode cX10_faultOf 9 = .ok (.invokevirtual 28, 3) := by decide +kernel
theorem dX10_faultOf_12 : decode cX10_faultOf 12 = .ok (.aload_n 0, 1) := by decide +kernel
theorem dX10_faultOf_13 : decode cX10_faultOf 13 = .ok (.aload_n 1, 1) := by decide +kernel
theorem dX10_faultOf_14 : decode cX10_faultOf 14 = .ok (.invokevirtual 31, 3) := by decide +kernel
theorem dX10_faultOf_17 : decode cX10_faultOf 17 = .ok (.istore_n 2, 1) := by decide +kernel
theorem dX10_faultOf_18 : decode cX10_faultOf 18 = .ok (.iconst 0, 1) := by decide +kernel
theorem dX10_faultOf_19 : decode cX10_faultOf 19 = .ok (.istore_n 3, 1) := by decide +kernel
theorem dX10_faultOf_20 : decode cX10_faultOf 20 = .ok (.iload_n 3, 1) := by decide +kernel
theorem dX10_faultOf_21 : decode cX10_faultOf 21 = .ok (.sipush 160, 3) := by decide +kernel
theorem dX10_faultOf_24 : decode cX10_faultOf 24 = .ok (.if_icmp .ge 28, 3) := by decide +kernel
theorem dX10_faultOf_27 : decode cX10_faultOf 27 = .ok (.iload_n 2, 1) := by decide +kernel
theorem dX10_faultOf_28 : decode cX10_faultOf 28 = .ok (.ifCond .eq 24, 3) := by decide +kernel
theorem dX10_faultOf_52 : decode cX10_faultOf 52 = .ok (.iload_n 2, 1) := by decide +kernel
theorem dX10_faultOf_53 : decode cX10_faultOf 53 = .ok (.ifCond .eq 10, 3) := by decide +kernel
theorem dX10_faultOf_63 : decode cX10_faultOf 63 = .ok (.aload_n 1, 1) := by decide +kernel
theorem dX10_faultOf_64 : decode cX10_faultOf 64 = .ok (.getfield 22, 3) := by decide +kernel
theorem dX10_faultOf_67 : decode cX10_faultOf 67 = .ok (.ireturn, 1) := by decide +kernel
theorem dX10_readClause_0 : decode cX10_readClause 0 = .ok (.aload_n 1, 1) := by decide +kernel
theorem dX10_readClause_1 : decode cX10_readClause 1 = .ok (.invokevirtual 39, 3) := by decide +kernel
theorem dX10_readClause_4 : decode cX10_readClause 4 = .ok (.istore_n 2, 1) := by decide +kernel
theorem dX10_readClause_5 : decode cX10_readClause 5 = .ok (.iload_n 2, 1) := by decide +kernel
theorem dX10_readClause_6 : decode cX10_readClause 6 = .ok (.bipush 108, 2) := by decide +kernel
theorem dX10_readClause_8 : decode cX10_readClause 8 = .ok (.if_icmp .ne 45, 3) := by decide +kernel
theorem dX10_readClause_53 : decode cX10_readClause 53 = .ok (.iload_n 2, 1) := by decide +kernel
theorem dX10_readClause_54 : decode cX10_readClause 54 = .ok (.bipush 107, 2) := by decide +kernel
theorem dX10_readClause_56 : decode cX10_readClause 56 = .ok (.if_icmp .ne 45, 3) := by decide +kernel
theorem dX10_readClause_101 : decode cX10_readClause 101 = .ok (.iconst 0, 1) := by decide +kernel
theorem dX10_readClause_102 : decode cX10_readClause 102 = .ok (.ireturn, 1) := by decide +kernel
theorem dX11_count_0 : decode cX11_count 0 = .ok (.iload_n 1, 1) := by decide +kernel
theorem dX11_count_1 : decode cX11_count 1 = .ok (.tableswitch 111 0 7 #[47, 58, 69, 74, 82, 90, 95, 103], 47) := by decide +kernel
theorem dX11_count_48 : decode cX11_count 48 = .ok (.aload_n 0, 1) := by decide +kernel
theorem dX11_count_49 : decode cX11_count 49 = .ok (.getfield 47, 3) := by decide +kernel
theorem dX11_count_52 : decode cX11_count 52 = .ok (.getfield 128, 3) := by decide +kernel
theorem dX11_count_55 : decode cX11_count 55 = .ok (.getfield 317, 3) := by decide +kernel
theorem dX11_count_58 : decode cX11_count 58 = .ok (.ireturn, 1) := by decide +kernel
theorem dX11_count_59 : decode cX11_count 59 = .ok (.aload_n 0, 1) := by decide +kernel
theorem dX11_count_60 : decode cX11_count 60 = .ok (.getfield 47, 3) := by decide +kernel
theorem dX11_count_63 : decode cX11_count 63 = .ok (.getfield 128, 3) := by decide +kernel
theorem dX11_count_66 : decode cX11_count 66 = .ok (.getfield 319, 3) := by decide +kernel
theorem dX11_count_69 : decode cX11_count 69 = .ok (.ireturn, 1) := by decide +kernel
theorem dX11_count_70 : decode cX11_count 70 = .ok (.aload_n 0, 1) := by decide +kernel
theorem dX11_count_71 : decode cX11_count 71 = .ok (.getfield 94, 3) := by decide +kernel
theorem dX11_count_74 : decode cX11_count 74 = .ok (.ireturn, 1) := by decide +kernel
theorem dX11_count_75 : decode cX11_count 75 = .ok (.aload_n 0, 1) := by decide +kernel
theorem dX11_count_76 : decode cX11_count 76 = .ok (.getfield 10, 3) := by decide +kernel
theorem dX11_count_79 : decode cX11_count 79 = .ok (.getfield 109, 3) := by decide +kernel
theorem dX11_count_82 : decode cX11_count 82 = .ok (.ireturn, 1) := by decide +kernel
theorem dX11_count_83 : decode cX11_count 83 = .ok (.aload_n 0, 1) := by decide +kernel
theorem dX11_count_84 : decode cX11_count 84 = .ok (.getfield 47, 3) := by decide +kernel
theorem dX11_count_87 : decode cX11_count 87 = .ok (.getfield 222, 3) := by decide +kernel
theorem dX11_count_90 : decode cX11_count 90 = .ok (.ireturn, 1) := by decide +kernel
theorem dX11_count_91 : decode cX11_count 91 = .ok (.aload_n 0, 1) := by decide +kernel
theorem dX11_count_92 : decode cX11_count 92 = .ok (.getfield 98, 3) := by decide +kernel
theorem dX11_count_95 : decode cX11_count 95 = .ok (.ireturn, 1) := by decide +kernel
theorem dX11_count_96 : decode cX11_count 96 = .ok (.aload_n 0, 1) := by decide +kernel
theorem dX11_count_97 : decode cX11_count 97 = .ok (.getfield 67, 3) := by decide +kernel
theorem dX11_count_100 : decode cX11_count 100 = .ok (.getfield 240, 3) := by decide +kernel
theorem dX11_count_103 : decode cX11_count 103 = .ok (.ireturn, 1) := by decide +kernel
theorem dX11_count_104 : decode cX11_count 104 = .ok (.aload_n 0, 1) := by decide +kernel
theorem dX11_count_105 : decode cX11_count 105 = .ok (.getfield 47, 3) := by decide +kernel
theorem dX11_count_108 : decode cX11_count 108 = .ok (.invokevirtual 350, 3) := by decide +kernel
theorem dX11_count_111 : decode cX11_count 111 = .ok (.ireturn, 1) := by decide +kernel
theorem dX11_count_112 : decode cX11_count 112 = .ok (.ldc 166, 2) := by decide +kernel
theorem dX11_count_114 : decode cX11_count 114 = .ok (.ireturn, 1) := by decide +kernel
theorem dX11_fault_0 : decode cX11_fault 0 = .ok (.iload_n 1, 1) := by decide +kernel
theorem dX11_fault_1 : decode cX11_fault 1 = .ok (.ifCond .ne 15, 3) := by decide +kernel
theorem dX11_fault_4 : decode cX11_fault 4 = .ok (.aload_n 0, 1) := by decide +kernel
theorem dX11_fault_5 : decode cX11_fault 5 = .ok (.getfield 19, 3) := by decide +kernel
theorem dX11_fault_8 : decode cX11_fault 8 = .ok (.aload_n 0, 1) := by decide +kernel
theorem dX11_fault_9 : decode cX11_fault 9 = .ok (.getfield 10, 3) := by decide +kernel
theorem dX11_fault_12 : decode cX11_fault 12 = .ok (.invokevirtual 116, 3) := by decide +kernel
theorem dX11_fault_15 : decode cX11_fault 15 = .ok (.ireturn, 1) := by decide +kernel
theorem dX11_fault_16 : decode cX11_fault 16 = .ok (.iload_n 1, 1) := by decide +kernel
theorem dX11_fault_17 : decode cX11_fault 17 = .ok (.iconst 1, 1) := by decide +kernel
theorem dX11_fault_18 : decode cX11_fault 18 = .ok (.if_icmp .ne 17, 3) := by decide +kernel
theorem dX11_fault_21 : decode cX11_fault 21 = .ok (.aload_n 0, 1) := by decide +kernel
theorem dX11_fault_22 : decode cX11_fault 22 = .ok (.getfield 26, 3) := by decide +kernel
theorem dX11_fault_25 : decode cX11_fault 25 = .ok (.aload_n 0, 1) := by decide +kernel
theorem dX11_fault_26 : decode cX11_fault 26 = .ok (.getfield 10, 3) := by decide +kernel
theorem dX11_fault_29 : decode cX11_fault 29 = .ok (.invokevirtual 120, 3) := by decide +kernel
theorem dX11_fault_32 : decode cX11_fault 32 = .ok (.goto 5, 3) := by decide +kernel
theorem dX11_fault_35 : decode cX11_fault 35 = .ok (.bipush (-2), 2) := by decide +kernel
theorem dX11_fault_37 : decode cX11_fault 37 = .ok (.ireturn, 1) := by decide +kernel
theorem dX11_text_0 : decode cX11_text 0 = .ok (.iload_n 1, 1) := by decide +kernel
theorem dX11_text_1 : decode cX11_text 1 = .ok (.ifCond .ne 23, 3) := by decide +kernel
theorem dX11_text_4 : decode cX11_text 4 = .ok (.aload_n 0, 1) := by decide +kernel
theorem dX11_text_5 : decode cX11_text 5 = .ok (.getfield 19, 3) := by decide +kernel
theorem dX11_text_8 : decode cX11_text 8 = .ok (.aload_n 0, 1) := by decide +kernel
theorem dX11_text_9 : decode cX11_text 9 = .ok (.getfield 10, 3) := by decide +kernel
theorem dX11_text_12 : decode cX11_text 12 = .ok (.invokevirtual 116, 3) := by decide +kernel
theorem dX11_text_15 : decode cX11_text 15 = .ok (.iconst (-1), 1) := by decide +kernel
theorem dX11_text_16 : decode cX11_text 16 = .ok (.if_icmp .ne 8, 3) := by decide +kernel
theorem dX11_text_24 : decode cX11_text 24 = .ok (.iload_n 1, 1) := by decide +kernel
theorem dX11_text_25 : decode cX11_text 25 = .ok (.iconst 1, 1) := by decide +kernel
theorem dX11_text_26 : decode cX11_text 26 = .ok (.if_icmp .ne 31, 3) := by decide +kernel
theorem dX11_text_29 : decode cX11_text 29 = .ok (.aload_n 0, 1) := by decide +kernel
theorem dX11_text_30 : decode cX11_text 30 = .ok (.getfield 94, 3) := by decide +kernel
theorem dX11_text_33 : decode cX11_text 33 = .ok (.iconst 4, 1) := by decide +kernel
theorem dX11_text_34 : decode cX11_text 34 = .ok (.if_icmp .ge 23, 3) := by decide +kernel
theorem dX11_text_37 : decode cX11_text 37 = .ok (.aload_n 0, 1) := by decide +kernel
theorem dX11_text_38 : decode cX11_text 38 = .ok (.getfield 26, 3) := by decide +kernel
theorem dX11_text_41 : decode cX11_text 41 = .ok (.aload_n 0, 1) := by decide +kernel
theorem dX11_text_42 : decode cX11_text 42 = .ok (.getfield 10, 3) := by decide +kernel
theorem dX11_text_45 : decode cX11_text 45 = .ok (.invokevirtual 120, 3) := by decide +kernel
theorem dX11_text_48 : decode cX11_text 48 = .ok (.iconst (-1), 1) := by decide +kernel
theorem dX11_text_49 : decode cX11_text 49 = .ok (.if_icmp .ne 8, 3) := by decide +kernel
theorem dX11_text_57 : decode cX11_text 57 = .ok (.iconst (-1), 1) := by decide +kernel
theorem dX11_text_58 : decode cX11_text 58 = .ok (.ireturn, 1) := by decide +kernel
theorem dX2_familiesAt_0 : decode cX2_familiesAt 0 = .ok (.iconst 0, 1) := by decide +kernel
theorem dX2_familiesAt_1 : decode cX2_familiesAt 1 = .ok (.istore_n 2, 1) := by decide +kernel
theorem dX2_familiesAt_2 : decode cX2_familiesAt 2 = .ok (.iconst 0, 1) := by decide +kernel
theorem dX2_familiesAt_3 : decode cX2_familiesAt 3 = .ok (.istore_n 3, 1) := by decide +kernel
theorem dX2_familiesAt_4 : decode cX2_familiesAt 4 = .ok (.iload_n 3, 1) := by decide +kernel
theorem dX2_familiesAt_5 : decode cX2_familiesAt 5 = .ok (.aload_n 0, 1) := by decide +kernel
theorem dX2_familiesAt_6 : decode cX2_familiesAt 6 = .ok (.getfield 43, 3) := by decide +kernel
theorem dX2_familiesAt_9 : decode cX2_familiesAt 9 = .ok (.getfield 55, 3) := by decide +kernel
theorem dX2_familiesAt_12 : decode cX2_familiesAt 12 = .ok (.if_icmp .ge 27, 3) := by decide +kernel
theorem dX2_familiesAt_39 : decode cX2_familiesAt 39 = .ok (.iload_n 2, 1) := by decide +kernel
theorem dX2_familiesAt_40 : decode cX2_familiesAt 40 = .ok (.ireturn, 1) := by decide +kernel
theorem dX2_goneFamilies_0 : decode cX2_goneFamilies 0 = .ok (.aload_n 0, 1) := by decide +kernel
theorem dX2_goneFamilies_1 : decode cX2_goneFamilies 1 = .ok (.iconst (-1), 1) := by decide +kernel
theorem dX2_goneFamilies_2 : decode cX2_goneFamilies 2 = .ok (.invokevirtual 88, 3) := by decide +kernel
theorem dX2_goneFamilies_5 : decode cX2_goneFamilies 5 = .ok (.ireturn, 1) := by decide +kernel
theorem dX4_faultOf_0 : decode cX4_faultOf 0 = .ok (.aload_n 1, 1) := by decide +kernel
theorem dX4_faultOf_1 : decode cX4_faultOf 1 = .ok (.iconst 0, 1) := by decide +kernel
theorem dX4_faultOf_2 : decode cX4_faultOf 2 = .ok (.putfield 18, 3) := by decide +kernel
theorem dX4_faultOf_5 : decode cX4_faultOf 5 = .ok (.aload_n 0, 1) := by decide +kernel
theorem dX4_faultOf_6 : decode cX4_faultOf 6 = .ok (.getfield 12, 3) := by decide +kernel
theorem dX4_faultOf_9 : decode cX4_faultOf 9 = .ok (.iconst 0, 1) := by decide +kernel
theorem dX4_faultOf_10 : decode cX4_faultOf 10 = .ok (.putfield 24, 3) := by decide +kernel
theorem dX4_faultOf_13 : decode cX4_faultOf 13 = .ok (.aload_n 0, 1) := by decide +kernel
theorem dX4_faultOf_14 : decode cX4_faultOf 14 = .ok (.aload_n 1, 1) := by decide +kernel
theorem dX4_faultOf_15 : decode cX4_faultOf 15 = .ok (.invokevirtual 27, 3) := by decide +kernel
theorem dX4_faultOf_18 : decode cX4_faultOf 18 = .ok (.istore_n 2, 1) := by decide +kernel
theorem dX4_faultOf_19 : decode cX4_faultOf 19 = .ok (.iconst 0, 1) := by decide +kernel
theorem dX4_faultOf_20 : decode cX4_faultOf 20 = .ok (.istore_n 3, 1) := by decide +kernel
theorem dX4_faultOf_21 : decode cX4_faultOf 21 = .ok (.iload_n 3, 1) := by decide +kernel
theorem dX4_faultOf_22 : decode cX4_faultOf 22 = .ok (.sipush 160, 3) := by decide +kernel
theorem dX4_faultOf_25 : decode cX4_faultOf 25 = .ok (.if_icmp .ge 28, 3) := by decide +kernel
theorem dX4_faultOf_28 : decode cX4_faultOf 28 = .ok (.iload_n 2, 1) := by decide +kernel
theorem dX4_faultOf_29 : decode cX4_faultOf 29 = .ok (.ifCond .eq 24, 3) := by decide +kernel
theorem dX4_faultOf_53 : decode cX4_faultOf 53 = .ok (.iload_n 2, 1) := by decide +kernel
theorem dX4_faultOf_54 : decode cX4_faultOf 54 = .ok (.ifCond .eq 14, 3) := by decide +kernel
theorem dX4_faultOf_68 : decode cX4_faultOf 68 = .ok (.aload_n 1, 1) := by decide +kernel
theorem dX4_faultOf_69 : decode cX4_faultOf 69 = .ok (.getfield 18, 3) := by decide +kernel
theorem dX4_faultOf_72 : decode cX4_faultOf 72 = .ok (.ireturn, 1) := by decide +kernel
theorem dX4_readClause_0 : decode cX4_readClause 0 = .ok (.aload_n 1, 1) := by decide +kernel
theorem dX4_readClause_1 : decode cX4_readClause 1 = .ok (.bipush 121, 2) := by decide +kernel
theorem dX4_readClause_3 : decode cX4_readClause 3 = .ok (.invokevirtual 31, 3) := by decide +kernel
theorem dX4_readClause_6 : decode cX4_readClause 6 = .ok (.ifCond .eq 12, 3) := by decide +kernel
theorem dX4_readClause_18 : decode cX4_readClause 18 = .ok (.iconst 0, 1) := by decide +kernel
theorem dX4_readClause_19 : decode cX4_readClause 19 = .ok (.ireturn, 1) := by decide +kernel
theorem dX8_next_0 : decode cX8_next 0 = .ok (.aload_n 0, 1) := by decide +kernel
theorem dX8_next_1 : decode cX8_next 1 = .ok (.getfield 17, 3) := by decide +kernel
theorem dX8_next_4 : decode cX8_next 4 = .ok (.aload_n 0, 1) := by decide +kernel
theorem dX8_next_5 : decode cX8_next 5 = .ok (.getfield 13, 3) := by decide +kernel
theorem dX8_next_8 : decode cX8_next 8 = .ok (.if_icmp .ge 30, 3) := by decide +kernel
theorem dX8_next_38 : decode cX8_next 38 = .ok (.aload_n 0, 1) := by decide +kernel
theorem dX8_next_39 : decode cX8_next 39 = .ok (.getfield 17, 3) := by decide +kernel
theorem dX8_next_42 : decode cX8_next 42 = .ok (.aload_n 0, 1) := by decide +kernel
theorem dX8_next_43 : decode cX8_next 43 = .ok (.getfield 13, 3) := by decide +kernel
theorem dX8_next_46 : decode cX8_next 46 = .ok (.if_icmp .ge 15, 3) := by decide +kernel
theorem dX8_next_61 : decode cX8_next 61 = .ok (.iconst 0, 1) := by decide +kernel
theorem dX8_next_62 : decode cX8_next 62 = .ok (.ireturn, 1) := by decide +kernel
theorem dX8_take_0 : decode cX8_take 0 = .ok (.aload_n 0, 1) := by decide +kernel
theorem dX8_take_1 : decode cX8_take 1 = .ok (.invokevirtual 23, 3) := by decide +kernel
theorem dX8_take_4 : decode cX8_take 4 = .ok (.iload_n 1, 1) := by decide +kernel
theorem dX8_take_5 : decode cX8_take 5 = .ok (.if_icmp .eq 5, 3) := by decide +kernel
theorem dX8_take_8 : decode cX8_take 8 = .ok (.iconst 0, 1) := by decide +kernel
theorem dX8_take_9 : decode cX8_take 9 = .ok (.ireturn, 1) := by decide +kernel
theorem dX9_clear_0 : decode cX9_clear 0 = .ok (.aload_n 0, 1) := by decide +kernel
theorem dX9_clear_1 : decode cX9_clear 1 = .ok (.iconst 0, 1) := by decide +kernel
theorem dX9_clear_2 : decode cX9_clear 2 = .ok (.putfield 34, 3) := by decide +kernel
theorem dX9_clear_5 : decode cX9_clear 5 = .ok (.aload_n 0, 1) := by decide +kernel
theorem dX9_clear_6 : decode cX9_clear 6 = .ok (.iconst 0, 1) := by decide +kernel
theorem dX9_clear_7 : decode cX9_clear 7 = .ok (.putfield 38, 3) := by decide +kernel
theorem dX9_clear_10 : decode cX9_clear 10 = .ok (.return_, 1) := by decide +kernel
def w_X2_familiesAt : List Cond := .code yX2_familiesAt cX2_familiesAt 4 (some .int) :: ([Cond.fieldLink RX2 43 "HeadYear$Folk" "valley" "LHeadYear$Valley;", Cond.fieldLink RX2 55 "HeadYear$Valley" "families" "I"] ++ (u_ws RX2 TX2 12 ++ (u_ws RX9 TX9 10 ++ ([]))))
theorem in_X2_familiesAt_X2 : ∀ w ∈ u_ws RX2 TX2 12, w ∈ w_X2_familiesAt := fun _ h => List.mem_cons_of_mem _ (List.mem_append_right _ (List.mem_append_left _ h))
theorem in_X2_familiesAt_X9 : ∀ w ∈ u_ws RX9 TX9 10, w ∈ w_X2_familiesAt := fun _ h => List.mem_cons_of_mem _ (List.mem_append_right _ (List.mem_append_right _ (List.mem_append_left _ h)))
set_option maxHeartbeats 4000000 in
set_option maxRecDepth 100000 in
theorem c_X2_familiesAt (l : Launch) (E : py_E) (L : List Nat) (f : py_F) (sz : Nat) (h : Nat) (a : Int32) (va : Nat) (xf xv : List Value) (hh : py_at L f h (.inr (2, xf))) (hxf : xf.length = 12) (hf9 : xf[9]? = some (.ref va)) (hva : py_at L f va (.inr (9, xv))) (hxv : xv.length = 10) (hv9 : xv[9]? = some (.int 0)) : Met l yX2_familiesAt w_X2_familiesAt ({ frames := 0, cells := 0, slots := 0, locals := 0 }) (py_Pc E [.ref h, .int a] L f sz) (py_Qi E L f sz (fun r L1 f1 => r = 0 ∧ L = L1 ∧ f = f1)) 0 0 (va_A (va_pl L f) sz) := by
  refine Met.ofW (cc := cX2_familiesAt) (maxL := 4) (ret := (some .int)) (by decide) rfl ?_
  intro p e s m args below meth c s₁ B hml hv
  obtain ⟨rfl, rfl, hw⟩ := py_start hv
  have G : CallFix p m c cX2_familiesAt 4 s _ w_X2_familiesAt RX2 := ⟨B.exec, B.bytes, hml, findClass_of_methodNamed B.named, atoms_spec (ws := w_X2_familiesAt) B.pre⟩
  have hr := B.returns
  have hlk := B.notSynchronized
  have hl := lv_entry ([.ref h, .int a]) (n := 4) (Nat.le_of_ble_eq_true rfl)
  rw [lg_entry_eq]
  generalize (lg_sl ([.ref h, .int a]) ++ List.replicate (4 - (lg_sl ([.ref h, .int a])).length) Slot.unset).toArray = ls at hl ⊢
  have hl : lv_has ls 4 [(0, .ref h), (1, .int a)] := hl
  refine lv_iconst (v := 0) G.1 G.2.1 dX2_familiesAt_0 (by decide) ?_
  refine lv_istore_n (lv' := [(2, .int 0), (0, .ref h), (1, .int a)]) G.1 G.2.1 dX2_familiesAt_1 rfl hl (by decide) rfl (fun ls hl => ?_)
  refine lv_iconst (v := 0) G.1 G.2.1 dX2_familiesAt_2 (by decide) ?_
  refine lv_istore_n (lv' := [(3, .int 0), (2, .int 0), (0, .ref h), (1, .int a)]) G.1 G.2.1 dX2_familiesAt_3 rfl hl (by decide) rfl (fun ls hl => ?_)
  refine lv_iload_n G.1 G.2.1 dX2_familiesAt_4 rfl (lv_at hl 0 rfl) ?_
  refine lv_aload_n G.1 G.2.1 dX2_familiesAt_5 rfl (lv_at hl 2 rfl) ?_
  refine py_get (C := RX2) (T := TX2) (N := 12) (k := 9) (v := .ref va) G hw in_X2_familiesAt_X2 rfl hh (by decide) (by decide +kernel) hf9 dX2_familiesAt_6 ?_
  refine py_get (C := RX9) (T := TX9) (N := 10) (k := 9) (v := .int 0) G hw in_X2_familiesAt_X9 rfl hva (by decide) (by decide +kernel) hv9 dX2_familiesAt_9 ?_
  refine lv_icmp_ge (tgt := 39) G.1 G.2.1 dX2_familiesAt_12 (by decide) (fun c_1 => ?_) (fun c_1 => ?_)
  · skip
    refine lv_iload_n G.1 G.2.1 dX2_familiesAt_39 rfl (lv_at hl 1 rfl) ?_
    exact py_iret G hr rfl hlk hw ⟨rfl, rfl, rfl⟩ dX2_familiesAt_40
  · skip
    exact absurd c_1 (by decide)

def w_X2_goneFamilies : List Cond := .code yX2_goneFamilies cX2_goneFamilies 1 (some .int) :: ([Cond.methodLink RX2 88 yX2_familiesAt, Cond.instanceMethod yX2_familiesAt, Cond.selects RX2 yX2_familiesAt yX2_familiesAt, Cond.initialized RX2] ++ (w_X2_familiesAt ++ ([])))
theorem gg_X2_goneFamilies_X2_familiesAt : GoodIn w_X2_goneFamilies w_X2_familiesAt := goodIn_sub (fun _ h => List.mem_cons_of_mem _ (List.mem_append_right _ (List.mem_append_left _ h))) (by decide +kernel)
theorem g_X2_goneFamilies_X2_familiesAt_88 : GoodIn w_X2_goneFamilies (wsV RX2 88 RX2 yX2_familiesAt w_X2_familiesAt) := goodIn_app (goodIn_of _ (by decide +kernel)) gg_X2_goneFamilies_X2_familiesAt
set_option maxHeartbeats 4000000 in
set_option maxRecDepth 100000 in
theorem c_X2_goneFamilies (l : Launch) (E : py_E) (L : List Nat) (f : py_F) (sz : Nat) (h : Nat) (va : Nat) (xf xv : List Value) (hh : py_at L f h (.inr (2, xf))) (hxf : xf.length = 12) (hf9 : xf[9]? = some (.ref va)) (hva : py_at L f va (.inr (9, xv))) (hxv : xv.length = 10) (hv9 : xv[9]? = some (.int 0)) : Met l yX2_goneFamilies w_X2_goneFamilies ({ frames := 1, cells := 0, slots := 0, locals := 23 }) (py_Pc E [.ref h] L f sz) (py_Qi E L f sz (fun r L1 f1 => r = 0 ∧ L = L1 ∧ f = f1)) 0 0 (va_A (va_pl L f) sz) := by
  refine Met.ofW (cc := cX2_goneFamilies) (maxL := 1) (ret := (some .int)) (by decide) rfl ?_
  intro p e s m args below meth c s₁ B hml hv
  obtain ⟨rfl, rfl, hw⟩ := py_start hv
  have G : CallFix p m c cX2_goneFamilies 1 s _ w_X2_goneFamilies RX2 := ⟨B.exec, B.bytes, hml, findClass_of_methodNamed B.named, atoms_spec (ws := w_X2_goneFamilies) B.pre⟩
  have hr := B.returns
  have hlk := B.notSynchronized
  have hl := lv_entry ([.ref h]) (n := 1) (Nat.le_of_ble_eq_true rfl)
  rw [lg_entry_eq]
  generalize (lg_sl ([.ref h]) ++ List.replicate (1 - (lg_sl ([.ref h])).length) Slot.unset).toArray = ls at hl ⊢
  have hl : lv_has ls 1 [(0, .ref h)] := hl
  refine lv_aload_n G.1 G.2.1 dX2_goneFamilies_0 rfl (lv_at hl 0 rfl) ?_
  refine lv_iconst (v := (-1)) G.1 G.2.1 dX2_goneFamilies_1 (by decide) ?_
  refine py_calli hw (va_runV (As := [.int (-1)]) (rest := []) G (c_X2_familiesAt l E L f s.heap.size h (-1) va xf xv hh hxf hf9 hva hxv hv9) (cwV 1 G.2.2.2.2 g_X2_goneFamilies_X2_familiesAt_88 rfl rfl rfl (by decide +kernel) ⟨(Nat.le_of_ble_eq_true rfl), (Nat.le_of_ble_eq_true rfl)⟩) (py_preV hw (C := RX2) (T := TX2) (N := 12) rfl hh) rfl rfl hl.1 rfl (lv_room (Nat.le_of_ble_eq_true rfl)) dX2_goneFamilies_2 ⟨(Nat.le_of_ble_eq_true rfl), (Nat.le_of_ble_eq_true rfl)⟩) (fun r_5 L_1 f_2 H_3 locs hp_4 hw => ?_)
  obtain ⟨rfl, rfl, rfl⟩ := hp_4
  exact py_iret G hr rfl hlk hw ⟨rfl, rfl, rfl⟩ dX2_goneFamilies_5

def w_X11_count : List Cond := .code yX11_count cX11_count 2 (some .int) :: ([Cond.fieldLink RX11 47 "HeadYear" "folk" "LHeadYear$Folk;", Cond.fieldLink RX11 128 "HeadYear$Folk" "valley" "LHeadYear$Valley;", Cond.fieldLink RX11 317 "HeadYear$Valley" "levels" "I", Cond.fieldLink RX11 319 "HeadYear$Valley" "families" "I", Cond.fieldLink RX11 94 "HeadYear" "lawCount" "I", Cond.fieldLink RX11 10 "HeadYear" "tape" "LHeadYear$Tape;", Cond.fieldLink RX11 109 "HeadYear$Tape" "length" "I", Cond.fieldLink RX11 222 "HeadYear$Folk" "years" "I", Cond.fieldLink RX11 98 "HeadYear" "heldLaw" "I", Cond.fieldLink RX11 67 "HeadYear" "buyings" "LHeadYear$Buyings;", Cond.fieldLink RX11 240 "HeadYear$Buyings" "count" "I", Cond.methodLink RX11 350 yX2_goneFamilies, Cond.instanceMethod yX2_goneFamilies, Cond.selects RX2 yX2_goneFamilies yX2_goneFamilies, Cond.initialized RX2, Cond.constant RX11 166 (-1000000)] ++ (u_ws RX11 TX11 16 ++ (u_ws RX2 TX2 12 ++ (u_ws RX9 TX9 10 ++ (u_ws RX8 TX8 4 ++ (u_ws RX0 TX0 5 ++ (w_X2_goneFamilies ++ ([]))))))))
theorem in_X11_count_X11 : ∀ w ∈ u_ws RX11 TX11 16, w ∈ w_X11_count := fun _ h => List.mem_cons_of_mem _ (List.mem_append_right _ (List.mem_append_left _ h))
theorem in_X11_count_X2 : ∀ w ∈ u_ws RX2 TX2 12, w ∈ w_X11_count := fun _ h => List.mem_cons_of_mem _ (List.mem_append_right _ (List.mem_append_right _ (List.mem_append_left _ h)))
theorem in_X11_count_X9 : ∀ w ∈ u_ws RX9 TX9 10, w ∈ w_X11_count := fun _ h => List.mem_cons_of_mem _ (List.mem_append_right _ (List.mem_append_right _ (List.mem_append_right _ (List.mem_append_left _ h))))
theorem in_X11_count_X8 : ∀ w ∈ u_ws RX8 TX8 4, w ∈ w_X11_count := fun _ h => List.mem_cons_of_mem _ (List.mem_append_right _ (List.mem_append_right _ (List.mem_append_right _ (List.mem_append_right _ (List.mem_append_left _ h)))))
theorem in_X11_count_X0 : ∀ w ∈ u_ws RX0 TX0 5, w ∈ w_X11_count := fun _ h => List.mem_cons_of_mem _ (List.mem_append_right _ (List.mem_append_right _ (List.mem_append_right _ (List.mem_append_right _ (List.mem_append_right _ (List.mem_append_left _ h))))))
theorem gg_X11_count_X2_goneFamilies : GoodIn w_X11_count w_X2_goneFamilies := goodIn_sub (fun _ h => List.mem_cons_of_mem _ (List.mem_append_right _ (List.mem_append_right _ (List.mem_append_right _ (List.mem_append_right _ (List.mem_append_right _ (List.mem_append_right _ (List.mem_append_left _ h)))))))) (by decide +kernel)
theorem g_X11_count_X2_goneFamilies_350 : GoodIn w_X11_count (wsV RX11 350 RX2 yX2_goneFamilies w_X2_goneFamilies) := goodIn_app (goodIn_of _ (by decide +kernel)) gg_X11_count_X2_goneFamilies
set_option maxHeartbeats 4000000 in
set_option maxRecDepth 100000 in
theorem c_X11_count (l : Launch) (E : py_E) (L : List Nat) (f : py_F) (sz : Nat) (h : Nat) (a : Int32) (hF : fr_H E L f h) : Met l yX11_count w_X11_count ({ frames := 2, cells := 0, slots := 0, locals := 43 }) (py_Pc E [.ref h, .int a] L f sz) (py_Qi E L f sz (fun r L1 f1 => r = sp_count a ∧ ∀ m, fr_M E L f m → fr_M E L1 f1 m)) 0 0 (va_A (va_pl L f) sz) := by
  refine Met.ofW (cc := cX11_count) (maxL := 2) (ret := (some .int)) (by decide) rfl ?_
  intro p e s m args below meth c s₁ B hml hv
  obtain ⟨rfl, rfl, hw⟩ := py_start hv
  have G : CallFix p m c cX11_count 2 s _ w_X11_count RX11 := ⟨B.exec, B.bytes, hml, findClass_of_methodNamed B.named, atoms_spec (ws := w_X11_count) B.pre⟩
  have hr := B.returns
  have hlk := B.notSynchronized
  have hl := lv_entry ([.ref h, .int a]) (n := 2) (Nat.le_of_ble_eq_true rfl)
  rw [lg_entry_eq]
  generalize (lg_sl ([.ref h, .int a]) ++ List.replicate (2 - (lg_sl ([.ref h, .int a])).length) Slot.unset).toArray = ls at hl ⊢
  have hl : lv_has ls 2 [(0, .ref h), (1, .int a)] := hl
  obtain ⟨tape, byt, vr, itm, dr, lr, dl, lws, nl, fo, va, tr, im, di, bu, se, mo, od, g, xd, xl, xf, xv, xi, xu, xs, hh, htape, hbyt, hvr, hdr, hxd, hlr, hdl, hxl, hfo, hxf, hf9, hf11, hva, hxv, hv8, hv9, hdi, hxi, hi2, hbu, hxu, hu3, hse, hxs⟩ := id hF
  have hMp : ∀ m, fr_M E L f m → fr_M E L f m := fun _ h => h
  refine lv_iload_n G.1 G.2.1 dX11_count_0 rfl (lv_at hl 1 rfl) ?_
  rcases py_sw8 a with e_sw | e_sw | e_sw | e_sw | e_sw | e_sw | e_sw | e_sw | e_sw
  · skip
    subst e_sw
    refine lv_tableIn (tgt := 48) G.1 G.2.1 dX11_count_1 (by decide) (by decide) rfl (by decide) ?_
    refine lv_aload_n G.1 G.2.1 dX11_count_48 rfl (lv_at hl 0 rfl) ?_
    refine py_get (C := RX11) (T := TX11) (N := 16) (k := 5) (v := .ref fo) G hw in_X11_count_X11 rfl hh (by decide) (by decide +kernel) rfl dX11_count_49 ?_
    refine py_get (C := RX2) (T := TX2) (N := 12) (k := 9) (v := .ref va) G hw in_X11_count_X2 rfl hfo (by decide) (by decide +kernel) hf9 dX11_count_52 ?_
    refine py_get (C := RX9) (T := TX9) (N := 10) (k := 8) (v := .int 0) G hw in_X11_count_X9 rfl hva (by decide) (by decide +kernel) hv8 dX11_count_55 ?_
    exact py_iret G hr rfl hlk hw ⟨by decide, hMp⟩ dX11_count_58
  · skip
    subst e_sw
    refine lv_tableIn (tgt := 59) G.1 G.2.1 dX11_count_1 (by decide) (by decide) rfl (by decide) ?_
    refine lv_aload_n G.1 G.2.1 dX11_count_59 rfl (lv_at hl 0 rfl) ?_
    refine py_get (C := RX11) (T := TX11) (N := 16) (k := 5) (v := .ref fo) G hw in_X11_count_X11 rfl hh (by decide) (by decide +kernel) rfl dX11_count_60 ?_
    refine py_get (C := RX2) (T := TX2) (N := 12) (k := 9) (v := .ref va) G hw in_X11_count_X2 rfl hfo (by decide) (by decide +kernel) hf9 dX11_count_63 ?_
    refine py_get (C := RX9) (T := TX9) (N := 10) (k := 9) (v := .int 0) G hw in_X11_count_X9 rfl hva (by decide) (by decide +kernel) hv9 dX11_count_66 ?_
    exact py_iret G hr rfl hlk hw ⟨by decide, hMp⟩ dX11_count_69
  · skip
    subst e_sw
    refine lv_tableIn (tgt := 70) G.1 G.2.1 dX11_count_1 (by decide) (by decide) rfl (by decide) ?_
    refine lv_aload_n G.1 G.2.1 dX11_count_70 rfl (lv_at hl 0 rfl) ?_
    refine py_get (C := RX11) (T := TX11) (N := 16) (k := 13) (v := .int 0) G hw in_X11_count_X11 rfl hh (by decide) (by decide +kernel) rfl dX11_count_71 ?_
    exact py_iret G hr rfl hlk hw ⟨by decide, hMp⟩ dX11_count_74
  · skip
    subst e_sw
    refine lv_tableIn (tgt := 75) G.1 G.2.1 dX11_count_1 (by decide) (by decide) rfl (by decide) ?_
    refine lv_aload_n G.1 G.2.1 dX11_count_75 rfl (lv_at hl 0 rfl) ?_
    refine py_get (C := RX11) (T := TX11) (N := 16) (k := 0) (v := .ref tape) G hw in_X11_count_X11 rfl hh (by decide) (by decide +kernel) rfl dX11_count_76 ?_
    refine py_get (C := RX8) (T := TX8) (N := 4) (k := 1) (v := .int 0) G hw in_X11_count_X8 rfl htape (by decide) (by decide +kernel) rfl dX11_count_79 ?_
    exact py_iret G hr rfl hlk hw ⟨by decide, hMp⟩ dX11_count_82
  · skip
    subst e_sw
    refine lv_tableIn (tgt := 83) G.1 G.2.1 dX11_count_1 (by decide) (by decide) rfl (by decide) ?_
    refine lv_aload_n G.1 G.2.1 dX11_count_83 rfl (lv_at hl 0 rfl) ?_
    refine py_get (C := RX11) (T := TX11) (N := 16) (k := 5) (v := .ref fo) G hw in_X11_count_X11 rfl hh (by decide) (by decide +kernel) rfl dX11_count_84 ?_
    refine py_get (C := RX2) (T := TX2) (N := 12) (k := 11) (v := .int 0) G hw in_X11_count_X2 rfl hfo (by decide) (by decide +kernel) hf11 dX11_count_87 ?_
    exact py_iret G hr rfl hlk hw ⟨by decide, hMp⟩ dX11_count_90
  · skip
    subst e_sw
    refine lv_tableIn (tgt := 91) G.1 G.2.1 dX11_count_1 (by decide) (by decide) rfl (by decide) ?_
    refine lv_aload_n G.1 G.2.1 dX11_count_91 rfl (lv_at hl 0 rfl) ?_
    refine py_get (C := RX11) (T := TX11) (N := 16) (k := 14) (v := .int (-1)) G hw in_X11_count_X11 rfl hh (by decide) (by decide +kernel) rfl dX11_count_92 ?_
    exact py_iret G hr rfl hlk hw ⟨by decide, hMp⟩ dX11_count_95
  · skip
    subst e_sw
    refine lv_tableIn (tgt := 96) G.1 G.2.1 dX11_count_1 (by decide) (by decide) rfl (by decide) ?_
    refine lv_aload_n G.1 G.2.1 dX11_count_96 rfl (lv_at hl 0 rfl) ?_
    refine py_get (C := RX11) (T := TX11) (N := 16) (k := 9) (v := .ref bu) G hw in_X11_count_X11 rfl hh (by decide) (by decide +kernel) rfl dX11_count_97 ?_
    refine py_get (C := RX0) (T := TX0) (N := 5) (k := 3) (v := .int 0) G hw in_X11_count_X0 rfl hbu (by decide) (by decide +kernel) hu3 dX11_count_100 ?_
    exact py_iret G hr rfl hlk hw ⟨by decide, hMp⟩ dX11_count_103
  · skip
    subst e_sw
    refine lv_tableIn (tgt := 104) G.1 G.2.1 dX11_count_1 (by decide) (by decide) rfl (by decide) ?_
    refine lv_aload_n G.1 G.2.1 dX11_count_104 rfl (lv_at hl 0 rfl) ?_
    refine py_get (C := RX11) (T := TX11) (N := 16) (k := 5) (v := .ref fo) G hw in_X11_count_X11 rfl hh (by decide) (by decide +kernel) rfl dX11_count_105 ?_
    refine py_calli hw (va_runV (As := []) (rest := []) G (c_X2_goneFamilies l E L f s.heap.size fo va xf xv hfo hxf hf9 hva hxv hv9) (cwV 0 G.2.2.2.2 g_X11_count_X2_goneFamilies_350 rfl rfl rfl (by decide +kernel) ⟨(Nat.le_of_ble_eq_true rfl), (Nat.le_of_ble_eq_true rfl)⟩) (py_preV hw (C := RX2) (T := TX2) (N := 12) rfl hfo) rfl rfl hl.1 rfl (lv_room (Nat.le_of_ble_eq_true rfl)) dX11_count_108 ⟨(Nat.le_of_ble_eq_true rfl), (Nat.le_of_ble_eq_true rfl)⟩) (fun r_5 L_1 f_2 H_3 locs hp_4 hw => ?_)
    obtain ⟨rfl, rfl, rfl⟩ := hp_4
    exact py_iret G hr rfl hlk hw ⟨by decide, hMp⟩ dX11_count_111
  · skip
    refine lv_tableOut (tgt := 112) G.1 G.2.1 dX11_count_1 e_sw (by decide) ?_
    refine lv_ldc (v := (-1000000)) G.1 G.2.1 G.2.2.2.1 (G.2.2.2.2 (Cond.constant RX11 166 (-1000000)) (by decide +kernel)) dX11_count_112 ?_
    exact py_iret G hr rfl hlk hw ⟨(by have n0 := py_out8 e_sw; simp [sp_count, n0]), hMp⟩ dX11_count_114

def w_X8_next : List Cond := .code yX8_next cX8_next 1 (some .int) :: ([Cond.fieldLink RX8 17 "HeadYear$Tape" "at" "I", Cond.fieldLink RX8 13 "HeadYear$Tape" "length" "I"] ++ (u_ws RX8 TX8 4 ++ ([])))
theorem in_X8_next_X8 : ∀ w ∈ u_ws RX8 TX8 4, w ∈ w_X8_next := fun _ h => List.mem_cons_of_mem _ (List.mem_append_right _ (List.mem_append_left _ h))
set_option maxHeartbeats 4000000 in
set_option maxRecDepth 100000 in
theorem c_X8_next (l : Launch) (E : py_E) (L : List Nat) (f : py_F) (sz : Nat) (h byt : Nat) (hh : py_at L f h (.inr (8, [.ref byt, .int 0, .int 0, .int 0]))) : Met l yX8_next w_X8_next ({ frames := 0, cells := 0, slots := 0, locals := 0 }) (py_Pc E [.ref h] L f sz) (py_Qi E L f sz (fun r L1 f1 => r = 0 ∧ L = L1 ∧ f = f1)) 0 0 (va_A (va_pl L f) sz) := by
  refine Met.ofW (cc := cX8_next) (maxL := 1) (ret := (some .int)) (by decide) rfl ?_
  intro p e s m args below meth c s₁ B hml hv
  obtain ⟨rfl, rfl, hw⟩ := py_start hv
  have G : CallFix p m c cX8_next 1 s _ w_X8_next RX8 := ⟨B.exec, B.bytes, hml, findClass_of_methodNamed B.named, atoms_spec (ws := w_X8_next) B.pre⟩
  have hr := B.returns
  have hlk := B.notSynchronized
  have hl := lv_entry ([.ref h]) (n := 1) (Nat.le_of_ble_eq_true rfl)
  rw [lg_entry_eq]
  generalize (lg_sl ([.ref h]) ++ List.replicate (1 - (lg_sl ([.ref h])).length) Slot.unset).toArray = ls at hl ⊢
  have hl : lv_has ls 1 [(0, .ref h)] := hl
  refine lv_aload_n G.1 G.2.1 dX8_next_0 rfl (lv_at hl 0 rfl) ?_
  refine py_get (C := RX8) (T := TX8) (N := 4) (k := 2) (v := .int 0) G hw in_X8_next_X8 rfl hh (by decide) (by decide +kernel) rfl dX8_next_1 ?_
  refine lv_aload_n G.1 G.2.1 dX8_next_4 rfl (lv_at hl 0 rfl) ?_
  refine py_get (C := RX8) (T := TX8) (N := 4) (k := 1) (v := .int 0) G hw in_X8_next_X8 rfl hh (by decide) (by decide +kernel) rfl dX8_next_5 ?_
  refine lv_icmp_ge (tgt := 38) G.1 G.2.1 dX8_next_8 (by decide) (fun c_1 => ?_) (fun c_1 => ?_)
  · skip
    refine lv_aload_n G.1 G.2.1 dX8_next_38 rfl (lv_at hl 0 rfl) ?_
    refine py_get (C := RX8) (T := TX8) (N := 4) (k := 2) (v := .int 0) G hw in_X8_next_X8 rfl hh (by decide) (by decide +kernel) rfl dX8_next_39 ?_
    refine lv_aload_n G.1 G.2.1 dX8_next_42 rfl (lv_at hl 0 rfl) ?_
    refine py_get (C := RX8) (T := TX8) (N := 4) (k := 1) (v := .int 0) G hw in_X8_next_X8 rfl hh (by decide) (by decide +kernel) rfl dX8_next_43 ?_
    refine lv_icmp_ge (tgt := 61) G.1 G.2.1 dX8_next_46 (by decide) (fun c_2 => ?_) (fun c_2 => ?_)
    · skip
      refine lv_iconst (v := 0) G.1 G.2.1 dX8_next_61 (by decide) ?_
      exact py_iret G hr rfl hlk hw ⟨rfl, rfl, rfl⟩ dX8_next_62
    · skip
      exact absurd c_2 (by decide)
  · skip
    exact absurd c_1 (by decide)

def w_X8_take : List Cond := .code yX8_take cX8_take 2 (some .boolean) :: ([Cond.methodLink RX8 23 yX8_next, Cond.instanceMethod yX8_next, Cond.selects RX8 yX8_next yX8_next, Cond.initialized RX8] ++ (w_X8_next ++ ([])))
theorem gg_X8_take_X8_next : GoodIn w_X8_take w_X8_next := goodIn_sub (fun _ h => List.mem_cons_of_mem _ (List.mem_append_right _ (List.mem_append_left _ h))) (by decide +kernel)
theorem g_X8_take_X8_next_23 : GoodIn w_X8_take (wsV RX8 23 RX8 yX8_next w_X8_next) := goodIn_app (goodIn_of _ (by decide +kernel)) gg_X8_take_X8_next
set_option maxHeartbeats 4000000 in
set_option maxRecDepth 100000 in
theorem c_X8_take (l : Launch) (E : py_E) (L : List Nat) (f : py_F) (sz : Nat) (h : Nat) (sg : Int32) (byt : Nat) (hh : py_at L f h (.inr (8, [.ref byt, .int 0, .int 0, .int 0]))) (hsg : ¬ 0 = sg) : Met l yX8_take w_X8_take ({ frames := 1, cells := 0, slots := 0, locals := 20 }) (py_Pc E [.ref h, .int sg] L f sz) (py_Qi E L f sz (fun r L1 f1 => r = 0 ∧ L = L1 ∧ f = f1)) 0 0 (va_A (va_pl L f) sz) := by
  refine Met.ofW (cc := cX8_take) (maxL := 2) (ret := (some .boolean)) (by decide) rfl ?_
  intro p e s m args below meth c s₁ B hml hv
  obtain ⟨rfl, rfl, hw⟩ := py_start hv
  have G : CallFix p m c cX8_take 2 s _ w_X8_take RX8 := ⟨B.exec, B.bytes, hml, findClass_of_methodNamed B.named, atoms_spec (ws := w_X8_take) B.pre⟩
  have hr := B.returns
  have hlk := B.notSynchronized
  have hl := lv_entry ([.ref h, .int sg]) (n := 2) (Nat.le_of_ble_eq_true rfl)
  rw [lg_entry_eq]
  generalize (lg_sl ([.ref h, .int sg]) ++ List.replicate (2 - (lg_sl ([.ref h, .int sg])).length) Slot.unset).toArray = ls at hl ⊢
  have hl : lv_has ls 2 [(0, .ref h), (1, .int sg)] := hl
  refine lv_aload_n G.1 G.2.1 dX8_take_0 rfl (lv_at hl 0 rfl) ?_
  refine py_calli hw (va_runV (As := []) (rest := []) G (c_X8_next l E L f s.heap.size h byt hh) (cwV 0 G.2.2.2.2 g_X8_take_X8_next_23 rfl rfl rfl (by decide +kernel) ⟨(Nat.le_of_ble_eq_true rfl), (Nat.le_of_ble_eq_true rfl)⟩) (py_preV hw (C := RX8) (T := TX8) (N := 4) rfl hh) rfl rfl hl.1 rfl (lv_room (Nat.le_of_ble_eq_true rfl)) dX8_take_1 ⟨(Nat.le_of_ble_eq_true rfl), (Nat.le_of_ble_eq_true rfl)⟩) (fun r_5 L_1 f_2 H_3 locs hp_4 hw => ?_)
  obtain ⟨rfl, rfl, rfl⟩ := hp_4
  refine lv_iload_n G.1 G.2.1 dX8_take_4 rfl (lv_at hl 1 rfl) ?_
  refine lv_icmp_eq (tgt := 10) G.1 G.2.1 dX8_take_5 (by decide) (fun c_6 => ?_) (fun c_6 => ?_)
  · skip
    exact absurd c_6 hsg
  · skip
    refine lv_iconst (v := 0) G.1 G.2.1 dX8_take_8 (by decide) ?_
    exact py_iret G hr rfl hlk hw ⟨rfl, rfl, rfl⟩ dX8_take_9

def w_X10_readClause : List Cond := .code yX10_readClause cX10_readClause 4 (some .boolean) :: ([Cond.methodLink RX10 39 yX8_next, Cond.instanceMethod yX8_next, Cond.selects RX8 yX8_next yX8_next, Cond.initialized RX8] ++ (w_X8_next ++ ([])))
theorem gg_X10_readClause_X8_next : GoodIn w_X10_readClause w_X8_next := goodIn_sub (fun _ h => List.mem_cons_of_mem _ (List.mem_append_right _ (List.mem_append_left _ h))) (by decide +kernel)
theorem g_X10_readClause_X8_next_39 : GoodIn w_X10_readClause (wsV RX10 39 RX8 yX8_next w_X8_next) := goodIn_app (goodIn_of _ (by decide +kernel)) gg_X10_readClause_X8_next
set_option maxHeartbeats 4000000 in
set_option maxRecDepth 100000 in
theorem c_X10_readClause (l : Launch) (E : py_E) (L : List Nat) (f : py_F) (sz : Nat) (h tape itm dr byt : Nat) (hh : py_at L f h (.inr (10, [.ref itm, .ref dr]))) (ht : py_at L f tape (.inr (8, [.ref byt, .int 0, .int 0, .int 0]))) : Met l yX10_readClause w_X10_readClause ({ frames := 1, cells := 0, slots := 0, locals := 20 }) (py_Pc E [.ref h, .ref tape] L f sz) (py_Qi E L f sz (fun r L1 f1 => r = 0 ∧ L = L1 ∧ f = f1)) 0 0 (va_A (va_pl L f) sz) := by
  refine Met.ofW (cc := cX10_readClause) (maxL := 4) (ret := (some .boolean)) (by decide) rfl ?_
  intro p e s m args below meth c s₁ B hml hv
  obtain ⟨rfl, rfl, hw⟩ := py_start hv
  have G : CallFix p m c cX10_readClause 4 s _ w_X10_readClause RX10 := ⟨B.exec, B.bytes, hml, findClass_of_methodNamed B.named, atoms_spec (ws := w_X10_readClause) B.pre⟩
  have hr := B.returns
  have hlk := B.notSynchronized
  have hl := lv_entry ([.ref h, .ref tape]) (n := 4) (Nat.le_of_ble_eq_true rfl)
  rw [lg_entry_eq]
  generalize (lg_sl ([.ref h, .ref tape]) ++ List.replicate (4 - (lg_sl ([.ref h, .ref tape])).length) Slot.unset).toArray = ls at hl ⊢
  have hl : lv_has ls 4 [(0, .ref h), (1, .ref tape)] := hl
  refine lv_aload_n G.1 G.2.1 dX10_readClause_0 rfl (lv_at hl 1 rfl) ?_
  refine py_calli hw (va_runV (As := []) (rest := []) G (c_X8_next l E L f s.heap.size tape byt ht) (cwV 0 G.2.2.2.2 g_X10_readClause_X8_next_39 rfl rfl rfl (by decide +kernel) ⟨(Nat.le_of_ble_eq_true rfl), (Nat.le_of_ble_eq_true rfl)⟩) (py_preV hw (C := RX8) (T := TX8) (N := 4) rfl ht) rfl rfl hl.1 rfl (lv_room (Nat.le_of_ble_eq_true rfl)) dX10_readClause_1 ⟨(Nat.le_of_ble_eq_true rfl), (Nat.le_of_ble_eq_true rfl)⟩) (fun r_5 L_1 f_2 H_3 locs hp_4 hw => ?_)
  obtain ⟨rfl, rfl, rfl⟩ := hp_4
  refine lv_istore_n (lv' := [(2, .int 0), (0, .ref h), (1, .ref tape)]) G.1 G.2.1 dX10_readClause_4 rfl hl (by decide) rfl (fun ls hl => ?_)
  refine lv_iload_n G.1 G.2.1 dX10_readClause_5 rfl (lv_at hl 0 rfl) ?_
  refine lv_bipush (v := 108) G.1 G.2.1 dX10_readClause_6 (by decide) ?_
  refine lv_icmp_ne (tgt := 53) G.1 G.2.1 dX10_readClause_8 (by decide) (fun c_6 => ?_) (fun c_6 => ?_)
  · skip
    refine lv_iload_n G.1 G.2.1 dX10_readClause_53 rfl (lv_at hl 0 rfl) ?_
    refine lv_bipush (v := 107) G.1 G.2.1 dX10_readClause_54 (by decide) ?_
    refine lv_icmp_ne (tgt := 101) G.1 G.2.1 dX10_readClause_56 (by decide) (fun c_7 => ?_) (fun c_7 => ?_)
    · skip
      refine lv_iconst (v := 0) G.1 G.2.1 dX10_readClause_101 (by decide) ?_
      exact py_iret G hr rfl hlk hw ⟨rfl, rfl, rfl⟩ dX10_readClause_102
    · skip
      exact absurd c_7 (by decide)
  · skip
    exact absurd c_6 (by decide)

def w_X9_clear : List Cond := .code yX9_clear cX9_clear 1 none :: ([Cond.fieldLink RX9 34 "HeadYear$Valley" "levels" "I", Cond.fieldLink RX9 38 "HeadYear$Valley" "families" "I"] ++ (u_ws RX9 TX9 10 ++ ([])))
theorem in_X9_clear_X9 : ∀ w ∈ u_ws RX9 TX9 10, w ∈ w_X9_clear := fun _ h => List.mem_cons_of_mem _ (List.mem_append_right _ (List.mem_append_left _ h))
set_option maxHeartbeats 4000000 in
set_option maxRecDepth 100000 in
theorem c_X9_clear (l : Launch) (E : py_E) (L : List Nat) (f : py_F) (sz : Nat) (h : Nat) (xd : List Value) (hh : py_at L f h (.inr (9, xd))) (hx : xd.length = 10) : Met l yX9_clear w_X9_clear ({ frames := 0, cells := 0, slots := 0, locals := 0 }) (py_Pc E [.ref h] L f sz) (py_Qv E L f sz (fun L1 f1 => ∃ xs : List Value, py_at L1 f1 h (.inr (9, xs)) ∧ xs.length = 10 ∧ (∀ m, fr_M E L f m → fr_M E L1 f1 m) ∧ py_ext L f L1 f1 h)) 0 0 (va_A (va_pl L f) sz) := by
  refine Met.ofW (cc := cX9_clear) (maxL := 1) (ret := none) (by decide) rfl ?_
  intro p e s m args below meth c s₁ B hml hv
  obtain ⟨rfl, rfl, hw⟩ := py_start hv
  have G : CallFix p m c cX9_clear 1 s _ w_X9_clear RX9 := ⟨B.exec, B.bytes, hml, findClass_of_methodNamed B.named, atoms_spec (ws := w_X9_clear) B.pre⟩
  have hr := B.returns
  have hlk := B.notSynchronized
  have hl := lv_entry ([.ref h]) (n := 1) (Nat.le_of_ble_eq_true rfl)
  rw [lg_entry_eq]
  generalize (lg_sl ([.ref h]) ++ List.replicate (1 - (lg_sl ([.ref h])).length) Slot.unset).toArray = ls at hl ⊢
  have hl : lv_has ls 1 [(0, .ref h)] := hl
  have hMp : ∀ m, fr_M E L f m → fr_M E L f m := fun _ h => h
  refine lv_aload_n G.1 G.2.1 dX9_clear_0 rfl (lv_at hl 0 rfl) ?_
  refine lv_iconst (v := 0) G.1 G.2.1 dX9_clear_1 (by decide) ?_
  refine py_put (C := RX9) (T := TX9) (N := 10) (k := 8) (v := .int 0) (fs' := xd.set 8 (.int 0)) (ty0 := tyX9) G hw tyX9_ok nmX9 in_X9_clear_X9 rfl hh (by decide) (by decide +kernel) rfl rfl rfl rfl (py_len hx (by decide)) rfl dX9_clear_2 (fun f_1 H_2 locs h_3 x_4 hw => ?_)
  obtain ⟨xs_5, exs_5⟩ : ∃ y, y = xd.set 8 (.int 0) := ⟨_, rfl⟩
  rw [← exs_5] at h_3
  have hl_6 : xs_5.length = 10 := by rw [exs_5, List.length_set]; exact hx
  have hp_7 : xs_5[8]? = some (.int 0) := by rw [exs_5, List.getElem?_set_self (by rw [hx]; decide)]
  have hMp : ∀ m, fr_M E L f m → fr_M E L f_1 m := fun m h => fr_M_obj (hMp m h) hh (by decide) x_4
  refine lv_aload_n G.1 G.2.1 dX9_clear_5 rfl (lv_at hl 0 rfl) ?_
  refine lv_iconst (v := 0) G.1 G.2.1 dX9_clear_6 (by decide) ?_
  refine py_put (C := RX9) (T := TX9) (N := 10) (k := 9) (v := .int 0) (fs' := xs_5.set 9 (.int 0)) (ty0 := tyX9) G hw tyX9_ok nmX9 in_X9_clear_X9 rfl h_3 (by decide) (by decide +kernel) rfl rfl rfl rfl (py_len hl_6 (by decide)) rfl dX9_clear_7 (fun f_8 H_9 locs h_10 x_11 hw => ?_)
  obtain ⟨xs_12, exs_12⟩ : ∃ y, y = xs_5.set 9 (.int 0) := ⟨_, rfl⟩
  rw [← exs_12] at h_10
  have hl_13 : xs_12.length = 10 := by rw [exs_12, List.length_set]; exact hl_6
  have hp_14 : xs_12[8]? = some (.int 0) := by rw [exs_12, List.getElem?_set_ne (by decide)]; exact hp_7
  have hp_15 : xs_12[9]? = some (.int 0) := by rw [exs_12, List.getElem?_set_self (by rw [hl_6]; decide)]
  have hMp : ∀ m, fr_M E L f m → fr_M E L f_8 m := fun m h => fr_M_obj (hMp m h) h_3 (by decide) x_11
  have xt_16 : py_ext L f L f_8 h := fun b hb hn => by
    obtain ⟨m1, e1⟩ := x_4 b hb hn
    obtain ⟨m2, e2⟩ := x_11 b m1 hn
    exact ⟨m2, e2.trans (e1.trans (rfl))⟩
  exact py_vret G hr hlk hw ⟨_, h_10, hl_13, hMp, xt_16⟩ dX9_clear_10

def w_X10_faultOf : List Cond := .code yX10_faultOf cX10_faultOf 4 (some .int) :: ([Cond.fieldLink RX10 22 "HeadYear$Tape" "at" "I", Cond.fieldLink RX10 18 "HeadYear$ValleyReader" "draft" "LHeadYear$Valley;", Cond.methodLink RX10 28 yX9_clear, Cond.instanceMethod yX9_clear, Cond.selects RX9 yX9_clear yX9_clear, Cond.initialized RX9, Cond.methodLink RX10 31 yX10_readClause, Cond.instanceMethod yX10_readClause, Cond.selects RX10 yX10_readClause yX10_readClause, Cond.initialized RX10] ++ (u_ws RX8 TX8 4 ++ (u_ws RX10 TX10 2 ++ (w_X9_clear ++ (w_X10_readClause ++ ([]))))))
theorem in_X10_faultOf_X8 : ∀ w ∈ u_ws RX8 TX8 4, w ∈ w_X10_faultOf := fun _ h => List.mem_cons_of_mem _ (List.mem_append_right _ (List.mem_append_left _ h))
theorem in_X10_faultOf_X10 : ∀ w ∈ u_ws RX10 TX10 2, w ∈ w_X10_faultOf := fun _ h => List.mem_cons_of_mem _ (List.mem_append_right _ (List.mem_append_right _ (List.mem_append_left _ h)))
theorem gg_X10_faultOf_X9_clear : GoodIn w_X10_faultOf w_X9_clear := goodIn_sub (fun _ h => List.mem_cons_of_mem _ (List.mem_append_right _ (List.mem_append_right _ (List.mem_append_right _ (List.mem_append_left _ h))))) (by decide +kernel)
theorem gg_X10_faultOf_X10_readClause : GoodIn w_X10_faultOf w_X10_readClause := goodIn_sub (fun _ h => List.mem_cons_of_mem _ (List.mem_append_right _ (List.mem_append_right _ (List.mem_append_right _ (List.mem_append_right _ (List.mem_append_left _ h)))))) (by decide +kernel)
theorem g_X10_faultOf_X10_readClause_31 : GoodIn w_X10_faultOf (wsV RX10 31 RX10 yX10_readClause w_X10_readClause) := goodIn_app (goodIn_of _ (by decide +kernel)) gg_X10_faultOf_X10_readClause
theorem g_X10_faultOf_X9_clear_28 : GoodIn w_X10_faultOf (wsV RX10 28 RX9 yX9_clear w_X9_clear) := goodIn_app (goodIn_of _ (by decide +kernel)) gg_X10_faultOf_X9_clear
set_option maxHeartbeats 4000000 in
set_option maxRecDepth 100000 in
theorem c_X10_faultOf (l : Launch) (E : py_E) (L : List Nat) (f : py_F) (sz : Nat) (h tape itm dr byt : Nat) (xd : List Value) (hh : py_at L f h (.inr (10, [.ref itm, .ref dr]))) (ht : py_at L f tape (.inr (8, [.ref byt, .int 0, .int 0, .int 0]))) (hd : py_at L f dr (.inr (9, xd))) (hx : xd.length = 10) : Met l yX10_faultOf w_X10_faultOf ({ frames := 2, cells := 0, slots := 0, locals := 43 }) (py_Pc E [.ref h, .ref tape] L f sz) (py_Qi E L f sz (fun r L1 f1 => r = 0 ∧ ∀ m, fr_M E L f m → fr_M E L1 f1 m)) 0 0 (va_A (va_pl L f) sz) := by
  refine Met.ofW (cc := cX10_faultOf) (maxL := 4) (ret := (some .int)) (by decide) rfl ?_
  intro p e s m args below meth c s₁ B hml hv
  obtain ⟨rfl, rfl, hw⟩ := py_start hv
  have G : CallFix p m c cX10_faultOf 4 s _ w_X10_faultOf RX10 := ⟨B.exec, B.bytes, hml, findClass_of_methodNamed B.named, atoms_spec (ws := w_X10_faultOf) B.pre⟩
  have hr := B.returns
  have hlk := B.notSynchronized
  have hl := lv_entry ([.ref h, .ref tape]) (n := 4) (Nat.le_of_ble_eq_true rfl)
  rw [lg_entry_eq]
  generalize (lg_sl ([.ref h, .ref tape]) ++ List.replicate (4 - (lg_sl ([.ref h, .ref tape])).length) Slot.unset).toArray = ls at hl ⊢
  have hl : lv_has ls 4 [(0, .ref h), (1, .ref tape)] := hl
  have hMp : ∀ m, fr_M E L f m → fr_M E L f m := fun _ h => h
  refine lv_aload_n G.1 G.2.1 dX10_faultOf_0 rfl (lv_at hl 1 rfl) ?_
  refine lv_iconst (v := 0) G.1 G.2.1 dX10_faultOf_1 (by decide) ?_
  refine py_put (C := RX8) (T := TX8) (N := 4) (k := 2) (v := .int 0) (fs' := [.ref byt, .int 0, .int 0, .int 0]) (ty0 := tyX8) G hw tyX8_ok nmX8 in_X10_faultOf_X8 rfl ht (by decide) (by decide +kernel) rfl rfl rfl rfl (Nat.le_of_ble_eq_true rfl) rfl dX10_faultOf_2 (fun f_1 H_2 locs h_3 x_4 hw => ?_)
  have hMp : ∀ m, fr_M E L f m → fr_M E L f_1 m := fun m h => fr_M_obj (hMp m h) ht (by decide) x_4
  have hh := hh.ext x_4 (py_ne_kind hh ht (by decide))
  have hd := hd.ext x_4 (py_ne_kind hd ht (by decide))
  refine lv_aload_n G.1 G.2.1 dX10_faultOf_5 rfl (lv_at hl 0 rfl) ?_
  refine py_get (C := RX10) (T := TX10) (N := 2) (k := 1) (v := .ref dr) G hw in_X10_faultOf_X10 rfl hh (by decide) (by decide +kernel) rfl dX10_faultOf_6 ?_
  refine py_callv hw (va_runV (As := []) (rest := []) G (c_X9_clear l E L f_1 H_2.size dr xd hd hx) (cwV 0 G.2.2.2.2 g_X10_faultOf_X9_clear_28 rfl rfl rfl (by decide +kernel) ⟨(Nat.le_of_ble_eq_true rfl), (Nat.le_of_ble_eq_true rfl)⟩) (py_preV hw (C := RX9) (T := TX9) (N := 10) rfl hd) rfl rfl hl.1 rfl (lv_room (Nat.le_of_ble_eq_true rfl)) dX10_faultOf_9 ⟨(Nat.le_of_ble_eq_true rfl), (Nat.le_of_ble_eq_true rfl)⟩) (fun L_5 f_6 H_7 locs hp_8 hw => ?_)
  obtain ⟨xd_10, h_11, hl_12, hm_13, x_14⟩ := hp_8
  have hh := hh.ext x_14 (py_ne_kind hh hd (by decide))
  have h_3 := h_3.ext x_14 (py_ne_kind h_3 hd (by decide))
  have hMp : ∀ m, fr_M E L f m → fr_M E L_5 f_6 m := fun m h => hm_13 m (hMp m h)
  refine lv_aload_n G.1 G.2.1 dX10_faultOf_12 rfl (lv_at hl 0 rfl) ?_
  refine lv_aload_n G.1 G.2.1 dX10_faultOf_13 rfl (lv_at hl 1 rfl) ?_
  refine py_calli hw (va_runV (As := [.ref tape]) (rest := []) G (c_X10_readClause l E L_5 f_6 H_7.size h tape itm dr byt hh h_3) (cwV 1 G.2.2.2.2 g_X10_faultOf_X10_readClause_31 rfl rfl rfl (by decide +kernel) ⟨(Nat.le_of_ble_eq_true rfl), (Nat.le_of_ble_eq_true rfl)⟩) (py_preV hw (C := RX10) (T := TX10) (N := 2) rfl hh) rfl rfl hl.1 rfl (lv_room (Nat.le_of_ble_eq_true rfl)) dX10_faultOf_14 ⟨(Nat.le_of_ble_eq_true rfl), (Nat.le_of_ble_eq_true rfl)⟩) (fun r_19 L_15 f_16 H_17 locs hp_18 hw => ?_)
  obtain ⟨rfl, rfl, rfl⟩ := hp_18
  refine lv_istore_n (lv' := [(2, .int 0), (0, .ref h), (1, .ref tape)]) G.1 G.2.1 dX10_faultOf_17 rfl hl (by decide) rfl (fun ls hl => ?_)
  refine lv_iconst (v := 0) G.1 G.2.1 dX10_faultOf_18 (by decide) ?_
  refine lv_istore_n (lv' := [(3, .int 0), (2, .int 0), (0, .ref h), (1, .ref tape)]) G.1 G.2.1 dX10_faultOf_19 rfl hl (by decide) rfl (fun ls hl => ?_)
  refine lv_iload_n G.1 G.2.1 dX10_faultOf_20 rfl (lv_at hl 0 rfl) ?_
  refine lv_sipush (v := 160) G.1 G.2.1 dX10_faultOf_21 (by decide) ?_
  refine lv_icmp_ge (tgt := 52) G.1 G.2.1 dX10_faultOf_24 (by decide) (fun c_20 => ?_) (fun c_20 => ?_)
  · skip
    exact absurd c_20 (by decide)
  · skip
    refine lv_iload_n G.1 G.2.1 dX10_faultOf_27 rfl (lv_at hl 1 rfl) ?_
    refine lv_if_eq (tgt := 52) G.1 G.2.1 dX10_faultOf_28 (by decide) (fun c_21 => ?_) (fun c_21 => ?_)
    · skip
      refine lv_iload_n G.1 G.2.1 dX10_faultOf_52 rfl (lv_at hl 1 rfl) ?_
      refine lv_if_eq (tgt := 63) G.1 G.2.1 dX10_faultOf_53 (by decide) (fun c_22 => ?_) (fun c_22 => ?_)
      · skip
        refine lv_aload_n G.1 G.2.1 dX10_faultOf_63 rfl (lv_at hl 3 rfl) ?_
        refine py_get (C := RX8) (T := TX8) (N := 4) (k := 2) (v := .int 0) G hw in_X10_faultOf_X8 rfl h_3 (by decide) (by decide +kernel) rfl dX10_faultOf_64 ?_
        exact py_iret G hr rfl hlk hw ⟨rfl, hMp⟩ dX10_faultOf_67
      · skip
        exact absurd c_22 (by decide)
    · skip
      exact absurd c_21 (by decide)

def w_X4_readClause : List Cond := .code yX4_readClause cX4_readClause 5 (some .boolean) :: ([Cond.methodLink RX4 31 yX8_take, Cond.instanceMethod yX8_take, Cond.selects RX8 yX8_take yX8_take, Cond.initialized RX8] ++ (w_X8_take ++ ([])))
theorem gg_X4_readClause_X8_take : GoodIn w_X4_readClause w_X8_take := goodIn_sub (fun _ h => List.mem_cons_of_mem _ (List.mem_append_right _ (List.mem_append_left _ h))) (by decide +kernel)
theorem g_X4_readClause_X8_take_31 : GoodIn w_X4_readClause (wsV RX4 31 RX8 yX8_take w_X8_take) := goodIn_app (goodIn_of _ (by decide +kernel)) gg_X4_readClause_X8_take
set_option maxHeartbeats 4000000 in
set_option maxRecDepth 100000 in
theorem c_X4_readClause (l : Launch) (E : py_E) (L : List Nat) (f : py_F) (sz : Nat) (h tape dl byt : Nat) (hh : py_at L f h (.inr (4, [.ref dl]))) (ht : py_at L f tape (.inr (8, [.ref byt, .int 0, .int 0, .int 0]))) : Met l yX4_readClause w_X4_readClause ({ frames := 2, cells := 0, slots := 0, locals := 41 }) (py_Pc E [.ref h, .ref tape] L f sz) (py_Qi E L f sz (fun r L1 f1 => r = 0 ∧ L = L1 ∧ f = f1)) 0 0 (va_A (va_pl L f) sz) := by
  refine Met.ofW (cc := cX4_readClause) (maxL := 5) (ret := (some .boolean)) (by decide) rfl ?_
  intro p e s m args below meth c s₁ B hml hv
  obtain ⟨rfl, rfl, hw⟩ := py_start hv
  have G : CallFix p m c cX4_readClause 5 s _ w_X4_readClause RX4 := ⟨B.exec, B.bytes, hml, findClass_of_methodNamed B.named, atoms_spec (ws := w_X4_readClause) B.pre⟩
  have hr := B.returns
  have hlk := B.notSynchronized
  have hl := lv_entry ([.ref h, .ref tape]) (n := 5) (Nat.le_of_ble_eq_true rfl)
  rw [lg_entry_eq]
  generalize (lg_sl ([.ref h, .ref tape]) ++ List.replicate (5 - (lg_sl ([.ref h, .ref tape])).length) Slot.unset).toArray = ls at hl ⊢
  have hl : lv_has ls 5 [(0, .ref h), (1, .ref tape)] := hl
  refine lv_aload_n G.1 G.2.1 dX4_readClause_0 rfl (lv_at hl 1 rfl) ?_
  refine lv_bipush (v := 121) G.1 G.2.1 dX4_readClause_1 (by decide) ?_
  refine py_calli hw (va_runV (As := [.int 121]) (rest := []) G (c_X8_take l E L f s.heap.size tape 121 byt ht (by decide)) (cwV 1 G.2.2.2.2 g_X4_readClause_X8_take_31 rfl rfl rfl (by decide +kernel) ⟨(Nat.le_of_ble_eq_true rfl), (Nat.le_of_ble_eq_true rfl)⟩) (py_preV hw (C := RX8) (T := TX8) (N := 4) rfl ht) rfl rfl hl.1 rfl (lv_room (Nat.le_of_ble_eq_true rfl)) dX4_readClause_3 ⟨(Nat.le_of_ble_eq_true rfl), (Nat.le_of_ble_eq_true rfl)⟩) (fun r_5 L_1 f_2 H_3 locs hp_4 hw => ?_)
  obtain ⟨rfl, rfl, rfl⟩ := hp_4
  refine lv_if_eq (tgt := 18) G.1 G.2.1 dX4_readClause_6 (by decide) (fun c_6 => ?_) (fun c_6 => ?_)
  · skip
    refine lv_iconst (v := 0) G.1 G.2.1 dX4_readClause_18 (by decide) ?_
    exact py_iret G hr rfl hlk hw ⟨rfl, rfl, rfl⟩ dX4_readClause_19
  · skip
    exact absurd c_6 (by decide)

def w_X4_faultOf : List Cond := .code yX4_faultOf cX4_faultOf 4 (some .int) :: ([Cond.fieldLink RX4 18 "HeadYear$Tape" "at" "I", Cond.fieldLink RX4 12 "HeadYear$LawReader" "draft" "LHeadYear$Law;", Cond.fieldLink RX4 24 "HeadYear$Law" "length" "I", Cond.methodLink RX4 27 yX4_readClause, Cond.instanceMethod yX4_readClause, Cond.selects RX4 yX4_readClause yX4_readClause, Cond.initialized RX4] ++ (u_ws RX8 TX8 4 ++ (u_ws RX4 TX4 1 ++ (u_ws RX3 TX3 3 ++ (w_X4_readClause ++ ([]))))))
theorem in_X4_faultOf_X8 : ∀ w ∈ u_ws RX8 TX8 4, w ∈ w_X4_faultOf := fun _ h => List.mem_cons_of_mem _ (List.mem_append_right _ (List.mem_append_left _ h))
theorem in_X4_faultOf_X4 : ∀ w ∈ u_ws RX4 TX4 1, w ∈ w_X4_faultOf := fun _ h => List.mem_cons_of_mem _ (List.mem_append_right _ (List.mem_append_right _ (List.mem_append_left _ h)))
theorem in_X4_faultOf_X3 : ∀ w ∈ u_ws RX3 TX3 3, w ∈ w_X4_faultOf := fun _ h => List.mem_cons_of_mem _ (List.mem_append_right _ (List.mem_append_right _ (List.mem_append_right _ (List.mem_append_left _ h))))
theorem gg_X4_faultOf_X4_readClause : GoodIn w_X4_faultOf w_X4_readClause := goodIn_sub (fun _ h => List.mem_cons_of_mem _ (List.mem_append_right _ (List.mem_append_right _ (List.mem_append_right _ (List.mem_append_right _ (List.mem_append_left _ h)))))) (by decide +kernel)
theorem g_X4_faultOf_X4_readClause_27 : GoodIn w_X4_faultOf (wsV RX4 27 RX4 yX4_readClause w_X4_readClause) := goodIn_app (goodIn_of _ (by decide +kernel)) gg_X4_faultOf_X4_readClause
set_option maxHeartbeats 4000000 in
set_option maxRecDepth 100000 in
theorem c_X4_faultOf (l : Launch) (E : py_E) (L : List Nat) (f : py_F) (sz : Nat) (h tape dl byt : Nat) (xl : List Value) (hh : py_at L f h (.inr (4, [.ref dl]))) (ht : py_at L f tape (.inr (8, [.ref byt, .int 0, .int 0, .int 0]))) (hd : py_at L f dl (.inr (3, xl))) (hx : xl.length = 3) : Met l yX4_faultOf w_X4_faultOf ({ frames := 3, cells := 0, slots := 0, locals := 65 }) (py_Pc E [.ref h, .ref tape] L f sz) (py_Qi E L f sz (fun r L1 f1 => r = 0 ∧ ∀ m, fr_M E L f m → fr_M E L1 f1 m)) 0 0 (va_A (va_pl L f) sz) := by
  refine Met.ofW (cc := cX4_faultOf) (maxL := 4) (ret := (some .int)) (by decide) rfl ?_
  intro p e s m args below meth c s₁ B hml hv
  obtain ⟨rfl, rfl, hw⟩ := py_start hv
  have G : CallFix p m c cX4_faultOf 4 s _ w_X4_faultOf RX4 := ⟨B.exec, B.bytes, hml, findClass_of_methodNamed B.named, atoms_spec (ws := w_X4_faultOf) B.pre⟩
  have hr := B.returns
  have hlk := B.notSynchronized
  have hl := lv_entry ([.ref h, .ref tape]) (n := 4) (Nat.le_of_ble_eq_true rfl)
  rw [lg_entry_eq]
  generalize (lg_sl ([.ref h, .ref tape]) ++ List.replicate (4 - (lg_sl ([.ref h, .ref tape])).length) Slot.unset).toArray = ls at hl ⊢
  have hl : lv_has ls 4 [(0, .ref h), (1, .ref tape)] := hl
  have hMp : ∀ m, fr_M E L f m → fr_M E L f m := fun _ h => h
  refine lv_aload_n G.1 G.2.1 dX4_faultOf_0 rfl (lv_at hl 1 rfl) ?_
  refine lv_iconst (v := 0) G.1 G.2.1 dX4_faultOf_1 (by decide) ?_
  refine py_put (C := RX8) (T := TX8) (N := 4) (k := 2) (v := .int 0) (fs' := [.ref byt, .int 0, .int 0, .int 0]) (ty0 := tyX8) G hw tyX8_ok nmX8 in_X4_faultOf_X8 rfl ht (by decide) (by decide +kernel) rfl rfl rfl rfl (Nat.le_of_ble_eq_true rfl) rfl dX4_faultOf_2 (fun f_1 H_2 locs h_3 x_4 hw => ?_)
  have hMp : ∀ m, fr_M E L f m → fr_M E L f_1 m := fun m h => fr_M_obj (hMp m h) ht (by decide) x_4
  have hh := hh.ext x_4 (py_ne_kind hh ht (by decide))
  have hd := hd.ext x_4 (py_ne_kind hd ht (by decide))
  refine lv_aload_n G.1 G.2.1 dX4_faultOf_5 rfl (lv_at hl 0 rfl) ?_
  refine py_get (C := RX4) (T := TX4) (N := 1) (k := 0) (v := .ref dl) G hw in_X4_faultOf_X4 rfl hh (by decide) (by decide +kernel) rfl dX4_faultOf_6 ?_
  refine lv_iconst (v := 0) G.1 G.2.1 dX4_faultOf_9 (by decide) ?_
  refine py_put (C := RX3) (T := TX3) (N := 3) (k := 2) (v := .int 0) (fs' := xl.set 2 (.int 0)) (ty0 := tyX3) G hw tyX3_ok nmX3 in_X4_faultOf_X3 rfl hd (by decide) (by decide +kernel) rfl rfl rfl rfl (py_len hx (by decide)) rfl dX4_faultOf_10 (fun f_5 H_6 locs h_7 x_8 hw => ?_)
  obtain ⟨xs_9, exs_9⟩ : ∃ y, y = xl.set 2 (.int 0) := ⟨_, rfl⟩
  rw [← exs_9] at h_7
  have hl_10 : xs_9.length = 3 := by rw [exs_9, List.length_set]; exact hx
  have hp_11 : xs_9[2]? = some (.int 0) := by rw [exs_9, List.getElem?_set_self (by rw [hx]; decide)]
  have hMp : ∀ m, fr_M E L f m → fr_M E L f_5 m := fun m h => fr_M_obj (hMp m h) hd (by decide) x_8
  have hh := hh.ext x_8 (py_ne_kind hh hd (by decide))
  have h_3 := h_3.ext x_8 (py_ne_kind h_3 hd (by decide))
  refine lv_aload_n G.1 G.2.1 dX4_faultOf_13 rfl (lv_at hl 0 rfl) ?_
  refine lv_aload_n G.1 G.2.1 dX4_faultOf_14 rfl (lv_at hl 1 rfl) ?_
  refine py_calli hw (va_runV (As := [.ref tape]) (rest := []) G (c_X4_readClause l E L f_5 H_6.size h tape dl byt hh h_3) (cwV 1 G.2.2.2.2 g_X4_faultOf_X4_readClause_27 rfl rfl rfl (by decide +kernel) ⟨(Nat.le_of_ble_eq_true rfl), (Nat.le_of_ble_eq_true rfl)⟩) (py_preV hw (C := RX4) (T := TX4) (N := 1) rfl hh) rfl rfl hl.1 rfl (lv_room (Nat.le_of_ble_eq_true rfl)) dX4_faultOf_15 ⟨(Nat.le_of_ble_eq_true rfl), (Nat.le_of_ble_eq_true rfl)⟩) (fun r_16 L_12 f_13 H_14 locs hp_15 hw => ?_)
  obtain ⟨rfl, rfl, rfl⟩ := hp_15
  refine lv_istore_n (lv' := [(2, .int 0), (0, .ref h), (1, .ref tape)]) G.1 G.2.1 dX4_faultOf_18 rfl hl (by decide) rfl (fun ls hl => ?_)
  refine lv_iconst (v := 0) G.1 G.2.1 dX4_faultOf_19 (by decide) ?_
  refine lv_istore_n (lv' := [(3, .int 0), (2, .int 0), (0, .ref h), (1, .ref tape)]) G.1 G.2.1 dX4_faultOf_20 rfl hl (by decide) rfl (fun ls hl => ?_)
  refine lv_iload_n G.1 G.2.1 dX4_faultOf_21 rfl (lv_at hl 0 rfl) ?_
  refine lv_sipush (v := 160) G.1 G.2.1 dX4_faultOf_22 (by decide) ?_
  refine lv_icmp_ge (tgt := 53) G.1 G.2.1 dX4_faultOf_25 (by decide) (fun c_17 => ?_) (fun c_17 => ?_)
  · skip
    exact absurd c_17 (by decide)
  · skip
    refine lv_iload_n G.1 G.2.1 dX4_faultOf_28 rfl (lv_at hl 1 rfl) ?_
    refine lv_if_eq (tgt := 53) G.1 G.2.1 dX4_faultOf_29 (by decide) (fun c_18 => ?_) (fun c_18 => ?_)
    · skip
      refine lv_iload_n G.1 G.2.1 dX4_faultOf_53 rfl (lv_at hl 1 rfl) ?_
      refine lv_if_eq (tgt := 68) G.1 G.2.1 dX4_faultOf_54 (by decide) (fun c_19 => ?_) (fun c_19 => ?_)
      · skip
        refine lv_aload_n G.1 G.2.1 dX4_faultOf_68 rfl (lv_at hl 3 rfl) ?_
        refine py_get (C := RX8) (T := TX8) (N := 4) (k := 2) (v := .int 0) G hw in_X4_faultOf_X8 rfl h_3 (by decide) (by decide +kernel) rfl dX4_faultOf_69 ?_
        exact py_iret G hr rfl hlk hw ⟨rfl, hMp⟩ dX4_faultOf_72
      · skip
        exact absurd c_19 (by decide)
    · skip
      exact absurd c_18 (by decide)

def w_X11_fault : List Cond := .code yX11_fault cX11_fault 2 (some .int) :: ([Cond.fieldLink RX11 26 "HeadYear" "lawReader" "LHeadYear$LawReader;", Cond.fieldLink RX11 10 "HeadYear" "tape" "LHeadYear$Tape;", Cond.methodLink RX11 120 yX4_faultOf, Cond.instanceMethod yX4_faultOf, Cond.selects RX4 yX4_faultOf yX4_faultOf, Cond.initialized RX4, Cond.fieldLink RX11 19 "HeadYear" "valleyReader" "LHeadYear$ValleyReader;", Cond.methodLink RX11 116 yX10_faultOf, Cond.instanceMethod yX10_faultOf, Cond.selects RX10 yX10_faultOf yX10_faultOf, Cond.initialized RX10] ++ (u_ws RX11 TX11 16 ++ (w_X4_faultOf ++ (w_X10_faultOf ++ ([])))))
theorem in_X11_fault_X11 : ∀ w ∈ u_ws RX11 TX11 16, w ∈ w_X11_fault := fun _ h => List.mem_cons_of_mem _ (List.mem_append_right _ (List.mem_append_left _ h))
theorem gg_X11_fault_X4_faultOf : GoodIn w_X11_fault w_X4_faultOf := goodIn_sub (fun _ h => List.mem_cons_of_mem _ (List.mem_append_right _ (List.mem_append_right _ (List.mem_append_left _ h)))) (by decide +kernel)
theorem gg_X11_fault_X10_faultOf : GoodIn w_X11_fault w_X10_faultOf := goodIn_sub (fun _ h => List.mem_cons_of_mem _ (List.mem_append_right _ (List.mem_append_right _ (List.mem_append_right _ (List.mem_append_left _ h))))) (by decide +kernel)
theorem g_X11_fault_X10_faultOf_116 : GoodIn w_X11_fault (wsV RX11 116 RX10 yX10_faultOf w_X10_faultOf) := goodIn_app (goodIn_of _ (by decide +kernel)) gg_X11_fault_X10_faultOf
theorem g_X11_fault_X4_faultOf_120 : GoodIn w_X11_fault (wsV RX11 120 RX4 yX4_faultOf w_X4_faultOf) := goodIn_app (goodIn_of _ (by decide +kernel)) gg_X11_fault_X4_faultOf
set_option maxHeartbeats 4000000 in
set_option maxRecDepth 100000 in
theorem c_X11_fault (l : Launch) (E : py_E) (L : List Nat) (f : py_F) (sz : Nat) (h : Nat) (a : Int32) (hF : fr_H E L f h) : Met l yX11_fault w_X11_fault ({ frames := 4, cells := 0, slots := 0, locals := 88 }) (py_Pc E [.ref h, .int a] L f sz) (py_Qi E L f sz (fun r L1 f1 => r = sp_fault a ∧ ∀ m, fr_M E L f m → fr_M E L1 f1 m)) 0 0 (va_A (va_pl L f) sz) := by
  refine Met.ofW (cc := cX11_fault) (maxL := 2) (ret := (some .int)) (by decide) rfl ?_
  intro p e s m args below meth c s₁ B hml hv
  obtain ⟨rfl, rfl, hw⟩ := py_start hv
  have G : CallFix p m c cX11_fault 2 s _ w_X11_fault RX11 := ⟨B.exec, B.bytes, hml, findClass_of_methodNamed B.named, atoms_spec (ws := w_X11_fault) B.pre⟩
  have hr := B.returns
  have hlk := B.notSynchronized
  have hl := lv_entry ([.ref h, .int a]) (n := 2) (Nat.le_of_ble_eq_true rfl)
  rw [lg_entry_eq]
  generalize (lg_sl ([.ref h, .int a]) ++ List.replicate (2 - (lg_sl ([.ref h, .int a])).length) Slot.unset).toArray = ls at hl ⊢
  have hl : lv_has ls 2 [(0, .ref h), (1, .int a)] := hl
  obtain ⟨tape, byt, vr, itm, dr, lr, dl, lws, nl, fo, va, tr, im, di, bu, se, mo, od, g, xd, xl, xf, xv, xi, xu, xs, hh, htape, hbyt, hvr, hdr, hxd, hlr, hdl, hxl, hfo, hxf, hf9, hf11, hva, hxv, hv8, hv9, hdi, hxi, hi2, hbu, hxu, hu3, hse, hxs⟩ := id hF
  have hMp : ∀ m, fr_M E L f m → fr_M E L f m := fun _ h => h
  refine lv_iload_n G.1 G.2.1 dX11_fault_0 rfl (lv_at hl 1 rfl) ?_
  refine lv_if_ne (tgt := 16) G.1 G.2.1 dX11_fault_1 (by decide) (fun c_1 => ?_) (fun c_1 => ?_)
  · skip
    refine lv_iload_n G.1 G.2.1 dX11_fault_16 rfl (lv_at hl 1 rfl) ?_
    refine lv_iconst (v := 1) G.1 G.2.1 dX11_fault_17 (by decide) ?_
    refine lv_icmp_ne (tgt := 35) G.1 G.2.1 dX11_fault_18 (by decide) (fun c_2 => ?_) (fun c_2 => ?_)
    · skip
      refine lv_bipush (v := (-2)) G.1 G.2.1 dX11_fault_35 (by decide) ?_
      exact py_iret G hr rfl hlk hw ⟨by simp [sp_fault, c_1, c_2], hMp⟩ dX11_fault_37
    · skip
      subst c_2
      refine lv_aload_n G.1 G.2.1 dX11_fault_21 rfl (lv_at hl 0 rfl) ?_
      refine py_get (C := RX11) (T := TX11) (N := 16) (k := 2) (v := .ref lr) G hw in_X11_fault_X11 rfl hh (by decide) (by decide +kernel) rfl dX11_fault_22 ?_
      refine lv_aload_n G.1 G.2.1 dX11_fault_25 rfl (lv_at hl 0 rfl) ?_
      refine py_get (C := RX11) (T := TX11) (N := 16) (k := 0) (v := .ref tape) G hw in_X11_fault_X11 rfl hh (by decide) (by decide +kernel) rfl dX11_fault_26 ?_
      refine py_calli hw (va_runV (As := [.ref tape]) (rest := []) G (c_X4_faultOf l E L f s.heap.size lr tape dl byt xl hlr htape hdl hxl) (cwV 1 G.2.2.2.2 g_X11_fault_X4_faultOf_120 rfl rfl rfl (by decide +kernel) ⟨(Nat.le_of_ble_eq_true rfl), (Nat.le_of_ble_eq_true rfl)⟩) (py_preV hw (C := RX4) (T := TX4) (N := 1) rfl hlr) rfl rfl hl.1 rfl (lv_room (Nat.le_of_ble_eq_true rfl)) dX11_fault_29 ⟨(Nat.le_of_ble_eq_true rfl), (Nat.le_of_ble_eq_true rfl)⟩) (fun r_7 L_3 f_4 H_5 locs hp_6 hw => ?_)
      obtain ⟨rfl, hm_8⟩ := hp_6
      have hMp : ∀ m, fr_M E L f m → fr_M E L_3 f_4 m := fun m h => hm_8 m (hMp m h)
      refine lv_goto (tgt := 37) G.1 G.2.1 dX11_fault_32 (by decide) ?_
      exact py_iret G hr rfl hlk hw ⟨by simp [sp_fault, c_1], hMp⟩ dX11_fault_37
  · skip
    subst c_1
    refine lv_aload_n G.1 G.2.1 dX11_fault_4 rfl (lv_at hl 0 rfl) ?_
    refine py_get (C := RX11) (T := TX11) (N := 16) (k := 1) (v := .ref vr) G hw in_X11_fault_X11 rfl hh (by decide) (by decide +kernel) rfl dX11_fault_5 ?_
    refine lv_aload_n G.1 G.2.1 dX11_fault_8 rfl (lv_at hl 0 rfl) ?_
    refine py_get (C := RX11) (T := TX11) (N := 16) (k := 0) (v := .ref tape) G hw in_X11_fault_X11 rfl hh (by decide) (by decide +kernel) rfl dX11_fault_9 ?_
    refine py_calli hw (va_runV (As := [.ref tape]) (rest := []) G (c_X10_faultOf l E L f s.heap.size vr tape itm dr byt xd hvr htape hdr hxd) (cwV 1 G.2.2.2.2 g_X11_fault_X10_faultOf_116 rfl rfl rfl (by decide +kernel) ⟨(Nat.le_of_ble_eq_true rfl), (Nat.le_of_ble_eq_true rfl)⟩) (py_preV hw (C := RX10) (T := TX10) (N := 2) rfl hvr) rfl rfl hl.1 rfl (lv_room (Nat.le_of_ble_eq_true rfl)) dX11_fault_12 ⟨(Nat.le_of_ble_eq_true rfl), (Nat.le_of_ble_eq_true rfl)⟩) (fun r_13 L_9 f_10 H_11 locs hp_12 hw => ?_)
    obtain ⟨rfl, hm_14⟩ := hp_12
    have hMp : ∀ m, fr_M E L f m → fr_M E L_9 f_10 m := fun m h => hm_14 m (hMp m h)
    exact py_iret G hr rfl hlk hw ⟨by simp [sp_fault, ], hMp⟩ dX11_fault_15

def w_X11_text : List Cond := .code yX11_text cX11_text 2 (some .int) :: ([Cond.fieldLink RX11 94 "HeadYear" "lawCount" "I", Cond.fieldLink RX11 26 "HeadYear" "lawReader" "LHeadYear$LawReader;", Cond.fieldLink RX11 10 "HeadYear" "tape" "LHeadYear$Tape;", Cond.methodLink RX11 120 yX4_faultOf, Cond.instanceMethod yX4_faultOf, Cond.selects RX4 yX4_faultOf yX4_faultOf, Cond.initialized RX4, Cond.fieldLink RX11 19 "HeadYear" "valleyReader" "LHeadYear$ValleyReader;", Cond.methodLink RX11 116 yX10_faultOf, Cond.instanceMethod yX10_faultOf, Cond.selects RX10 yX10_faultOf yX10_faultOf, Cond.initialized RX10] ++ (u_ws RX11 TX11 16 ++ (w_X4_faultOf ++ (w_X10_faultOf ++ ([])))))
theorem in_X11_text_X11 : ∀ w ∈ u_ws RX11 TX11 16, w ∈ w_X11_text := fun _ h => List.mem_cons_of_mem _ (List.mem_append_right _ (List.mem_append_left _ h))
theorem gg_X11_text_X4_faultOf : GoodIn w_X11_text w_X4_faultOf := goodIn_sub (fun _ h => List.mem_cons_of_mem _ (List.mem_append_right _ (List.mem_append_right _ (List.mem_append_left _ h)))) (by decide +kernel)
theorem gg_X11_text_X10_faultOf : GoodIn w_X11_text w_X10_faultOf := goodIn_sub (fun _ h => List.mem_cons_of_mem _ (List.mem_append_right _ (List.mem_append_right _ (List.mem_append_right _ (List.mem_append_left _ h))))) (by decide +kernel)
theorem g_X11_text_X10_faultOf_116 : GoodIn w_X11_text (wsV RX11 116 RX10 yX10_faultOf w_X10_faultOf) := goodIn_app (goodIn_of _ (by decide +kernel)) gg_X11_text_X10_faultOf
theorem g_X11_text_X4_faultOf_120 : GoodIn w_X11_text (wsV RX11 120 RX4 yX4_faultOf w_X4_faultOf) := goodIn_app (goodIn_of _ (by decide +kernel)) gg_X11_text_X4_faultOf
set_option maxHeartbeats 4000000 in
set_option maxRecDepth 100000 in
theorem c_X11_text (l : Launch) (E : py_E) (L : List Nat) (f : py_F) (sz : Nat) (h : Nat) (a : Int32) (hF : fr_H E L f h) : Met l yX11_text w_X11_text ({ frames := 4, cells := 0, slots := 0, locals := 88 }) (py_Pc E [.ref h, .int a] L f sz) (py_Qi E L f sz (fun r L1 f1 => r = -1 ∧ ∀ m, fr_M E L f m → fr_M E L1 f1 m)) 0 0 (va_A (va_pl L f) sz) := by
  refine Met.ofW (cc := cX11_text) (maxL := 2) (ret := (some .int)) (by decide) rfl ?_
  intro p e s m args below meth c s₁ B hml hv
  obtain ⟨rfl, rfl, hw⟩ := py_start hv
  have G : CallFix p m c cX11_text 2 s _ w_X11_text RX11 := ⟨B.exec, B.bytes, hml, findClass_of_methodNamed B.named, atoms_spec (ws := w_X11_text) B.pre⟩
  have hr := B.returns
  have hlk := B.notSynchronized
  have hl := lv_entry ([.ref h, .int a]) (n := 2) (Nat.le_of_ble_eq_true rfl)
  rw [lg_entry_eq]
  generalize (lg_sl ([.ref h, .int a]) ++ List.replicate (2 - (lg_sl ([.ref h, .int a])).length) Slot.unset).toArray = ls at hl ⊢
  have hl : lv_has ls 2 [(0, .ref h), (1, .int a)] := hl
  obtain ⟨tape, byt, vr, itm, dr, lr, dl, lws, nl, fo, va, tr, im, di, bu, se, mo, od, g, xd, xl, xf, xv, xi, xu, xs, hh, htape, hbyt, hvr, hdr, hxd, hlr, hdl, hxl, hfo, hxf, hf9, hf11, hva, hxv, hv8, hv9, hdi, hxi, hi2, hbu, hxu, hu3, hse, hxs⟩ := id hF
  have hMp : ∀ m, fr_M E L f m → fr_M E L f m := fun _ h => h
  refine lv_iload_n G.1 G.2.1 dX11_text_0 rfl (lv_at hl 1 rfl) ?_
  refine lv_if_ne (tgt := 24) G.1 G.2.1 dX11_text_1 (by decide) (fun c_1 => ?_) (fun c_1 => ?_)
  · skip
    refine lv_iload_n G.1 G.2.1 dX11_text_24 rfl (lv_at hl 1 rfl) ?_
    refine lv_iconst (v := 1) G.1 G.2.1 dX11_text_25 (by decide) ?_
    refine lv_icmp_ne (tgt := 57) G.1 G.2.1 dX11_text_26 (by decide) (fun c_2 => ?_) (fun c_2 => ?_)
    · skip
      refine lv_iconst (v := (-1)) G.1 G.2.1 dX11_text_57 (by decide) ?_
      exact py_iret G hr rfl hlk hw ⟨rfl, hMp⟩ dX11_text_58
    · skip
      subst c_2
      refine lv_aload_n G.1 G.2.1 dX11_text_29 rfl (lv_at hl 0 rfl) ?_
      refine py_get (C := RX11) (T := TX11) (N := 16) (k := 13) (v := .int 0) G hw in_X11_text_X11 rfl hh (by decide) (by decide +kernel) rfl dX11_text_30 ?_
      refine lv_iconst (v := 4) G.1 G.2.1 dX11_text_33 (by decide) ?_
      refine lv_icmp_ge (tgt := 57) G.1 G.2.1 dX11_text_34 (by decide) (fun c_3 => ?_) (fun c_3 => ?_)
      · skip
        exact absurd c_3 (by decide)
      · skip
        refine lv_aload_n G.1 G.2.1 dX11_text_37 rfl (lv_at hl 0 rfl) ?_
        refine py_get (C := RX11) (T := TX11) (N := 16) (k := 2) (v := .ref lr) G hw in_X11_text_X11 rfl hh (by decide) (by decide +kernel) rfl dX11_text_38 ?_
        refine lv_aload_n G.1 G.2.1 dX11_text_41 rfl (lv_at hl 0 rfl) ?_
        refine py_get (C := RX11) (T := TX11) (N := 16) (k := 0) (v := .ref tape) G hw in_X11_text_X11 rfl hh (by decide) (by decide +kernel) rfl dX11_text_42 ?_
        refine py_calli hw (va_runV (As := [.ref tape]) (rest := []) G (c_X4_faultOf l E L f s.heap.size lr tape dl byt xl hlr htape hdl hxl) (cwV 1 G.2.2.2.2 g_X11_text_X4_faultOf_120 rfl rfl rfl (by decide +kernel) ⟨(Nat.le_of_ble_eq_true rfl), (Nat.le_of_ble_eq_true rfl)⟩) (py_preV hw (C := RX4) (T := TX4) (N := 1) rfl hlr) rfl rfl hl.1 rfl (lv_room (Nat.le_of_ble_eq_true rfl)) dX11_text_45 ⟨(Nat.le_of_ble_eq_true rfl), (Nat.le_of_ble_eq_true rfl)⟩) (fun r_8 L_4 f_5 H_6 locs hp_7 hw => ?_)
        obtain ⟨rfl, hm_9⟩ := hp_7
        have hMp : ∀ m, fr_M E L f m → fr_M E L_4 f_5 m := fun m h => hm_9 m (hMp m h)
        refine lv_iconst (v := (-1)) G.1 G.2.1 dX11_text_48 (by decide) ?_
        refine lv_icmp_ne (tgt := 57) G.1 G.2.1 dX11_text_49 (by decide) (fun c_10 => ?_) (fun c_10 => ?_)
        · skip
          refine lv_iconst (v := (-1)) G.1 G.2.1 dX11_text_57 (by decide) ?_
          exact py_iret G hr rfl hlk hw ⟨rfl, hMp⟩ dX11_text_58
        · skip
          exact absurd c_10 (by decide)
  · skip
    subst c_1
    refine lv_aload_n G.1 G.2.1 dX11_text_4 rfl (lv_at hl 0 rfl) ?_
    refine py_get (C := RX11) (T := TX11) (N := 16) (k := 1) (v := .ref vr) G hw in_X11_text_X11 rfl hh (by decide) (by decide +kernel) rfl dX11_text_5 ?_
    refine lv_aload_n G.1 G.2.1 dX11_text_8 rfl (lv_at hl 0 rfl) ?_
    refine py_get (C := RX11) (T := TX11) (N := 16) (k := 0) (v := .ref tape) G hw in_X11_text_X11 rfl hh (by decide) (by decide +kernel) rfl dX11_text_9 ?_
    refine py_calli hw (va_runV (As := [.ref tape]) (rest := []) G (c_X10_faultOf l E L f s.heap.size vr tape itm dr byt xd hvr htape hdr hxd) (cwV 1 G.2.2.2.2 g_X11_text_X10_faultOf_116 rfl rfl rfl (by decide +kernel) ⟨(Nat.le_of_ble_eq_true rfl), (Nat.le_of_ble_eq_true rfl)⟩) (py_preV hw (C := RX10) (T := TX10) (N := 2) rfl hvr) rfl rfl hl.1 rfl (lv_room (Nat.le_of_ble_eq_true rfl)) dX11_text_12 ⟨(Nat.le_of_ble_eq_true rfl), (Nat.le_of_ble_eq_true rfl)⟩) (fun r_15 L_11 f_12 H_13 locs hp_14 hw => ?_)
    obtain ⟨rfl, hm_16⟩ := hp_14
    have hMp : ∀ m, fr_M E L f m → fr_M E L_11 f_12 m := fun m h => hm_16 m (hMp m h)
    refine lv_iconst (v := (-1)) G.1 G.2.1 dX11_text_15 (by decide) ?_
    refine lv_icmp_ne (tgt := 24) G.1 G.2.1 dX11_text_16 (by decide) (fun c_17 => ?_) (fun c_17 => ?_)
    · skip
      refine lv_iload_n G.1 G.2.1 dX11_text_24 rfl (lv_at hl 1 rfl) ?_
      refine lv_iconst (v := 1) G.1 G.2.1 dX11_text_25 (by decide) ?_
      refine lv_icmp_ne (tgt := 57) G.1 G.2.1 dX11_text_26 (by decide) (fun c_18 => ?_) (fun c_18 => ?_)
      · skip
        refine lv_iconst (v := (-1)) G.1 G.2.1 dX11_text_57 (by decide) ?_
        exact py_iret G hr rfl hlk hw ⟨rfl, hMp⟩ dX11_text_58
      · skip
        exact absurd c_18 (by decide)
    · skip
      exact absurd c_17 (by decide)
end
section
abbrev cX12_gones : ByteArray := prog_14_method_112_code
def yX12_gones : MethodName := ⟨RX12, "gones", "()I"⟩
theorem dX12_advice_0 : decode cX12_advice 0 = .ok (.aload_n 0, 1) := by decide +kernel
theorem dX12_advice_1 : decode cX12_advice 1 = .ok (.iload_n 2, 1) := by decide +kernel
theorem dX12_advice_2 : decode cX12_advice 2 = .ok (.iload_n 3, 1) := by decide +kernel
theorem dX12_advice_3 : decode cX12_advice 3 = .ok (.invokevirtual 441, 3) := by decide +kernel
theorem dX12_advice_6 : decode cX12_advice 6 = .ok (.ifCond .eq 29, 3) := by decide +kernel
theorem dX12_advice_35 : decode cX12_advice 35 = .ok (.ldc_w 350, 3) := by decide +kernel
theorem dX12_advice_38 : decode cX12_advice 38 = .ok (.ireturn, 1) := by decide +kernel
theorem dX12_back_0 : decode cX12_back 0 = .ok (.aload_n 0, 1) := by decide +kernel
theorem dX12_back_1 : decode cX12_back 1 = .ok (.getfield 315, 3) := by decide +kernel
theorem dX12_back_4 : decode cX12_back 4 = .ok (.ifCond .ne 5, 3) := by decide +kernel
theorem dX12_back_7 : decode cX12_back 7 = .ok (.iconst (-1), 1) := by decide +kernel
theorem dX12_back_8 : decode cX12_back 8 = .ok (.ireturn, 1) := by decide +kernel
theorem dX12_buy_0 : decode cX12_buy 0 = .ok (.aload_n 0, 1) := by decide +kernel
theorem dX12_buy_1 : decode cX12_buy 1 = .ok (.iload_n 1, 1) := by decide +kernel
theorem dX12_buy_2 : decode cX12_buy 2 = .ok (.invokevirtual 347, 3) := by decide +kernel
theorem dX12_buy_5 : decode cX12_buy 5 = .ok (.ifCond .eq 52, 3) := by decide +kernel
theorem dX12_buy_57 : decode cX12_buy 57 = .ok (.iconst (-1), 1) := by decide +kernel
theorem dX12_buy_58 : decode cX12_buy 58 = .ok (.ireturn, 1) := by decide +kernel
theorem dX12_climb_0 : decode cX12_climb 0 = .ok (.aload_n 0, 1) := by decide +kernel
theorem dX12_climb_1 : decode cX12_climb 1 = .ok (.iload_n 1, 1) := by decide +kernel
theorem dX12_climb_2 : decode cX12_climb 2 = .ok (.invokevirtual 347, 3) := by decide +kernel
theorem dX12_climb_5 : decode cX12_climb 5 = .ok (.ifCond .eq 12, 3) := by decide +kernel
theorem dX12_climb_17 : decode cX12_climb 17 = .ok (.ldc_w 350, 3) := by decide +kernel
theorem dX12_climb_20 : decode cX12_climb 20 = .ok (.ireturn, 1) := by decide +kernel
theorem dX12_count_0 : decode cX12_count 0 = .ok (.iload_n 1, 1) := by decide +kernel
theorem dX12_count_1 : decode cX12_count 1 = .ok (.tableswitch 87 0 7 #[47, 52, 57, 62, 67, 72, 77, 82], 47) := by decide +kernel
theorem dX12_count_48 : decode cX12_count 48 = .ok (.aload_n 0, 1) := by decide +kernel
theorem dX12_count_49 : decode cX12_count 49 = .ok (.getfield 302, 3) := by decide +kernel
theorem dX12_count_52 : decode cX12_count 52 = .ok (.ireturn, 1) := by decide +kernel
theorem dX12_count_53 : decode cX12_count 53 = .ok (.aload_n 0, 1) := by decide +kernel
theorem dX12_count_54 : decode cX12_count 54 = .ok (.getfield 290, 3) := by decide +kernel
theorem dX12_count_57 : decode cX12_count 57 = .ok (.ireturn, 1) := by decide +kernel
theorem dX12_count_58 : decode cX12_count 58 = .ok (.aload_n 0, 1) := by decide +kernel
theorem dX12_count_59 : decode cX12_count 59 = .ok (.getfield 322, 3) := by decide +kernel
theorem dX12_count_62 : decode cX12_count 62 = .ok (.ireturn, 1) := by decide +kernel
theorem dX12_count_63 : decode cX12_count 63 = .ok (.aload_n 0, 1) := by decide +kernel
theorem dX12_count_64 : decode cX12_count 64 = .ok (.getfield 124, 3) := by decide +kernel
theorem dX12_count_67 : decode cX12_count 67 = .ok (.ireturn, 1) := by decide +kernel
theorem dX12_count_68 : decode cX12_count 68 = .ok (.aload_n 0, 1) := by decide +kernel
theorem dX12_count_69 : decode cX12_count 69 = .ok (.getfield 309, 3) := by decide +kernel
theorem dX12_count_72 : decode cX12_count 72 = .ok (.ireturn, 1) := by decide +kernel
theorem dX12_count_73 : decode cX12_count 73 = .ok (.aload_n 0, 1) := by decide +kernel
theorem dX12_count_74 : decode cX12_count 74 = .ok (.getfield 64, 3) := by decide +kernel
theorem dX12_count_77 : decode cX12_count 77 = .ok (.ireturn, 1) := by decide +kernel
theorem dX12_count_78 : decode cX12_count 78 = .ok (.aload_n 0, 1) := by decide +kernel
theorem dX12_count_79 : decode cX12_count 79 = .ok (.getfield 312, 3) := by decide +kernel
theorem dX12_count_82 : decode cX12_count 82 = .ok (.ireturn, 1) := by decide +kernel
theorem dX12_count_83 : decode cX12_count 83 = .ok (.aload_n 0, 1) := by decide +kernel
theorem dX12_count_84 : decode cX12_count 84 = .ok (.invokevirtual 463, 3) := by decide +kernel
theorem dX12_count_87 : decode cX12_count 87 = .ok (.ireturn, 1) := by decide +kernel
theorem dX12_count_88 : decode cX12_count 88 = .ok (.ldc_w 350, 3) := by decide +kernel
theorem dX12_count_91 : decode cX12_count 91 = .ok (.ireturn, 1) := by decide +kernel
theorem dX12_diary_0 : decode cX12_diary 0 = .ok (.aload_n 0, 1) := by decide +kernel
theorem dX12_diary_1 : decode cX12_diary 1 = .ok (.iload_n 1, 1) := by decide +kernel
theorem dX12_diary_2 : decode cX12_diary 2 = .ok (.invokevirtual 347, 3) := by decide +kernel
theorem dX12_diary_5 : decode cX12_diary 5 = .ok (.ifCond .eq 26, 3) := by decide +kernel
theorem dX12_diary_31 : decode cX12_diary 31 = .ok (.ldc_w 350, 3) := by decide +kernel
theorem dX12_diary_34 : decode cX12_diary 34 = .ok (.ireturn, 1) := by decide +kernel
theorem dX12_end_0 : decode cX12_end 0 = .ok (.iload_n 1, 1) := by decide +kernel
theorem dX12_end_1 : decode cX12_end 1 = .ok (.ifCond .lt 11, 3) := by decide +kernel
theorem dX12_end_4 : decode cX12_end 4 = .ok (.iload_n 1, 1) := by decide +kernel
theorem dX12_end_5 : decode cX12_end 5 = .ok (.aload_n 0, 1) := by decide +kernel
theorem dX12_end_6 : decode cX12_end 6 = .ok (.getfield 124, 3) := by decide +kernel
theorem dX12_end_9 : decode cX12_end 9 = .ok (.if_icmp .le 5, 3) := by decide +kernel
theorem dX12_end_12 : decode cX12_end 12 = .ok (.iconst 0, 1) := by decide +kernel
theorem dX12_end_13 : decode cX12_end 13 = .ok (.ireturn, 1) := by decide +kernel
theorem dX12_end_14 : decode cX12_end 14 = .ok (.aload_n 0, 1) := by decide +kernel
theorem dX12_end_15 : decode cX12_end 15 = .ok (.iload_n 1, 1) := by decide +kernel
theorem dX12_end_16 : decode cX12_end 16 = .ok (.putfield 124, 3) := by decide +kernel
theorem dX12_end_19 : decode cX12_end 19 = .ok (.iconst 1, 1) := by decide +kernel
theorem dX12_end_20 : decode cX12_end 20 = .ok (.ireturn, 1) := by decide +kernel
theorem dX12_family_0 : decode cX12_family 0 = .ok (.aload_n 0, 1) := by decide +kernel
theorem dX12_family_1 : decode cX12_family 1 = .ok (.iload_n 1, 1) := by decide +kernel
theorem dX12_family_2 : decode cX12_family 2 = .ok (.invokevirtual 347, 3) := by decide +kernel
theorem dX12_family_5 : decode cX12_family 5 = .ok (.ifCond .ne 7, 3) := by decide +kernel
theorem dX12_family_8 : decode cX12_family 8 = .ok (.ldc_w 350, 3) := by decide +kernel
theorem dX12_family_11 : decode cX12_family 11 = .ok (.ireturn, 1) := by decide +kernel
theorem dX12_full_0 : decode cX12_full 0 = .ok (.aload_n 0, 1) := by decide +kernel
theorem dX12_full_1 : decode cX12_full 1 = .ok (.getfield 290, 3) := by decide +kernel
theorem dX12_full_4 : decode cX12_full 4 = .ok (.ifCond .ne 5, 3) := by decide +kernel
theorem dX12_full_7 : decode cX12_full 7 = .ok (.iconst (-1), 1) := by decide +kernel
theorem dX12_full_8 : decode cX12_full 8 = .ok (.ireturn, 1) := by decide +kernel
theorem dX12_gones_0 : decode cX12_gones 0 = .ok (.iconst 0, 1) := by decide +kernel
theorem dX12_gones_1 : decode cX12_gones 1 = .ok (.istore_n 1, 1) := by decide +kernel
theorem dX12_gones_2 : decode cX12_gones 2 = .ok (.iconst 0, 1) := by decide +kernel
theorem dX12_gones_3 : decode cX12_gones 3 = .ok (.istore_n 2, 1) := by decide +kernel
theorem dX12_gones_4 : decode cX12_gones 4 = .ok (.iload_n 2, 1) := by decide +kernel
theorem dX12_gones_5 : decode cX12_gones 5 = .ok (.aload_n 0, 1) := by decide +kernel
theorem dX12_gones_6 : decode cX12_gones 6 = .ok (.getfield 290, 3) := by decide +kernel
theorem dX12_gones_9 : decode cX12_gones 9 = .ok (.if_icmp .ge 25, 3) := by decide +kernel
theorem dX12_gones_34 : decode cX12_gones 34 = .ok (.iload_n 1, 1) := by decide +kernel
theorem dX12_gones_35 : decode cX12_gones 35 = .ok (.ireturn, 1) := by decide +kernel
theorem dX12_hungry_0 : decode cX12_hungry 0 = .ok (.aload_n 0, 1) := by decide +kernel
theorem dX12_hungry_1 : decode cX12_hungry 1 = .ok (.getfield 290, 3) := by decide +kernel
theorem dX12_hungry_4 : decode cX12_hungry 4 = .ok (.ifCond .eq 12, 3) := by decide +kernel
theorem dX12_hungry_16 : decode cX12_hungry 16 = .ok (.iconst (-1), 1) := by decide +kernel
theorem dX12_hungry_17 : decode cX12_hungry 17 = .ok (.ireturn, 1) := by decide +kernel
theorem dX12_hush_0 : decode cX12_hush 0 = .ok (.aload_n 0, 1) := by decide +kernel
theorem dX12_hush_1 : decode cX12_hush 1 = .ok (.iload_n 1, 1) := by decide +kernel
theorem dX12_hush_2 : decode cX12_hush 2 = .ok (.invokevirtual 347, 3) := by decide +kernel
theorem dX12_hush_5 : decode cX12_hush 5 = .ok (.ifCond .eq 31, 3) := by decide +kernel
theorem dX12_hush_36 : decode cX12_hush 36 = .ok (.iconst 0, 1) := by decide +kernel
theorem dX12_hush_37 : decode cX12_hush 37 = .ok (.ireturn, 1) := by decide +kernel
theorem dX12_hut_0 : decode cX12_hut 0 = .ok (.aload_n 0, 1) := by decide +kernel
theorem dX12_hut_1 : decode cX12_hut 1 = .ok (.iload_n 1, 1) := by decide +kernel
theorem dX12_hut_2 : decode cX12_hut 2 = .ok (.invokevirtual 330, 3) := by decide +kernel
theorem dX12_hut_5 : decode cX12_hut 5 = .ok (.ifCond .eq 28, 3) := by decide +kernel
theorem dX12_hut_33 : decode cX12_hut 33 = .ok (.iconst (-1), 1) := by decide +kernel
theorem dX12_hut_34 : decode cX12_hut 34 = .ok (.ireturn, 1) := by decide +kernel
theorem dX12_image_0 : decode cX12_image 0 = .ok (.aload_n 0, 1) := by decide +kernel
theorem dX12_image_1 : decode cX12_image 1 = .ok (.getfield 290, 3) := by decide +kernel
theorem dX12_image_4 : decode cX12_image 4 = .ok (.ifCond .ne 5, 3) := by decide +kernel
theorem dX12_image_7 : decode cX12_image 7 = .ok (.iconst (-1), 1) := by decide +kernel
theorem dX12_image_8 : decode cX12_image 8 = .ok (.ireturn, 1) := by decide +kernel
theorem dX12_in_0 : decode cX12_in 0 = .ok (.iload_n 0, 1) := by decide +kernel
theorem dX12_in_1 : decode cX12_in 1 = .ok (.iload_n 1, 1) := by decide +kernel
theorem dX12_in_2 : decode cX12_in 2 = .ok (.if_icmp .lt 12, 3) := by decide +kernel
theorem dX12_in_5 : decode cX12_in 5 = .ok (.iload_n 0, 1) := by decide +kernel
theorem dX12_in_6 : decode cX12_in 6 = .ok (.iload_n 2, 1) := by decide +kernel
theorem dX12_in_7 : decode cX12_in 7 = .ok (.if_icmp .gt 7, 3) := by decide +kernel
theorem dX12_in_10 : decode cX12_in 10 = .ok (.iconst 1, 1) := by decide +kernel
theorem dX12_in_11 : decode cX12_in 11 = .ok (.goto 4, 3) := by decide +kernel
theorem dX12_in_14 : decode cX12_in 14 = .ok (.iconst 0, 1) := by decide +kernel
theorem dX12_in_15 : decode cX12_in 15 = .ok (.ireturn, 1) := by decide +kernel
theorem dX12_isFamily_0 : decode cX12_isFamily 0 = .ok (.iload_n 1, 1) := by decide +kernel
theorem dX12_isFamily_1 : decode cX12_isFamily 1 = .ok (.iconst 0, 1) := by decide +kernel
theorem dX12_isFamily_2 : decode cX12_isFamily 2 = .ok (.aload_n 0, 1) := by decide +kernel
theorem dX12_isFamily_3 : decode cX12_isFamily 3 = .ok (.getfield 290, 3) := by decide +kernel
theorem dX12_isFamily_6 : decode cX12_isFamily 6 = .ok (.iconst 1, 1) := by decide +kernel
theorem dX12_isFamily_7 : decode cX12_isFamily 7 = .ok (.isub, 1) := by decide +kernel
theorem dX12_isFamily_8 : decode cX12_isFamily 8 = .ok (.invokestatic 232, 3) := by decide +kernel
theorem dX12_isFamily_11 : decode cX12_isFamily 11 = .ok (.ireturn, 1) := by decide +kernel
theorem dX12_isLevel_0 : decode cX12_isLevel 0 = .ok (.iload_n 1, 1) := by decide +kernel
theorem dX12_isLevel_1 : decode cX12_isLevel 1 = .ok (.iconst 0, 1) := by decide +kernel
theorem dX12_isLevel_2 : decode cX12_isLevel 2 = .ok (.aload_n 0, 1) := by decide +kernel
theorem dX12_isLevel_3 : decode cX12_isLevel 3 = .ok (.getfield 302, 3) := by decide +kernel
theorem dX12_isLevel_6 : decode cX12_isLevel 6 = .ok (.iconst 1, 1) := by decide +kernel
theorem dX12_isLevel_7 : decode cX12_isLevel 7 = .ok (.isub, 1) := by decide +kernel
theorem dX12_isLevel_8 : decode cX12_isLevel 8 = .ok (.invokestatic 232, 3) := by decide +kernel
theorem dX12_isLevel_11 : decode cX12_isLevel 11 = .ok (.ireturn, 1) := by decide +kernel
theorem dX12_isTrial_0 : decode cX12_isTrial 0 = .ok (.aload_n 0, 1) := by decide +kernel
theorem dX12_isTrial_1 : decode cX12_isTrial 1 = .ok (.getfield 290, 3) := by decide +kernel
theorem dX12_isTrial_4 : decode cX12_isTrial 4 = .ok (.ifCond .le 27, 3) := by decide +kernel
theorem dX12_isTrial_31 : decode cX12_isTrial 31 = .ok (.iconst 0, 1) := by decide +kernel
theorem dX12_isTrial_32 : decode cX12_isTrial 32 = .ok (.ireturn, 1) := by decide +kernel
theorem dX12_law_0 : decode cX12_law 0 = .ok (.iload_n 1, 1) := by decide +kernel
theorem dX12_law_1 : decode cX12_law 1 = .ok (.iconst (-1), 1) := by decide +kernel
theorem dX12_law_2 : decode cX12_law 2 = .ok (.aload_n 0, 1) := by decide +kernel
theorem dX12_law_3 : decode cX12_law 3 = .ok (.getfield 322, 3) := by decide +kernel
theorem dX12_law_6 : decode cX12_law 6 = .ok (.iconst 1, 1) := by decide +kernel
theorem dX12_law_7 : decode cX12_law 7 = .ok (.isub, 1) := by decide +kernel
theorem dX12_law_8 : decode cX12_law 8 = .ok (.invokestatic 232, 3) := by decide +kernel
theorem dX12_law_11 : decode cX12_law 11 = .ok (.ifCond .ne 5, 3) := by decide +kernel
theorem dX12_law_14 : decode cX12_law 14 = .ok (.iconst 0, 1) := by decide +kernel
theorem dX12_law_15 : decode cX12_law 15 = .ok (.ireturn, 1) := by decide +kernel
theorem dX12_law_16 : decode cX12_law 16 = .ok (.aload_n 0, 1) := by decide +kernel
theorem dX12_law_17 : decode cX12_law 17 = .ok (.iload_n 1, 1) := by decide +kernel
theorem dX12_law_18 : decode cX12_law 18 = .ok (.putfield 64, 3) := by decide +kernel
theorem dX12_law_21 : decode cX12_law 21 = .ok (.iconst 1, 1) := by decide +kernel
theorem dX12_law_22 : decode cX12_law 22 = .ok (.ireturn, 1) := by decide +kernel
theorem dX12_leanest_0 : decode cX12_leanest 0 = .ok (.aload_n 0, 1) := by decide +kernel
theorem dX12_leanest_1 : decode cX12_leanest 1 = .ok (.getfield 309, 3) := by decide +kernel
theorem dX12_leanest_4 : decode cX12_leanest 4 = .ok (.ifCond .eq 12, 3) := by decide +kernel
theorem dX12_leanest_16 : decode cX12_leanest 16 = .ok (.iconst (-1), 1) := by decide +kernel
theorem dX12_leanest_17 : decode cX12_leanest 17 = .ok (.ireturn, 1) := by decide +kernel
theorem dX12_leap_0 : decode cX12_leap 0 = .ok (.aload_n 0, 1) := by decide +kernel
theorem dX12_leap_1 : decode cX12_leap 1 = .ok (.iload_n 1, 1) := by decide +kernel
theorem dX12_leap_2 : decode cX12_leap 2 = .ok (.invokevirtual 347, 3) := by decide +kernel
theorem dX12_leap_5 : decode cX12_leap 5 = .ok (.ifCond .ne 7, 3) := by decide +kernel
theorem dX12_leap_8 : decode cX12_leap 8 = .ok (.ldc_w 350, 3) := by decide +kernel
theorem dX12_leap_11 : decode cX12_leap 11 = .ok (.ireturn, 1) := by decide +kernel
theorem dX12_mean_0 : decode cX12_mean 0 = .ok (.aload_n 0, 1) := by decide +kernel
theorem dX12_mean_1 : decode cX12_mean 1 = .ok (.iload_n 1, 1) := by decide +kernel
theorem dX12_mean_2 : decode cX12_mean 2 = .ok (.iload_n 2, 1) := by decide +kernel
theorem dX12_mean_3 : decode cX12_mean 3 = .ok (.iconst (-1), 1) := by decide +kernel
theorem dX12_mean_4 : decode cX12_mean 4 = .ok (.invokevirtual 451, 3) := by decide +kernel
theorem dX12_mean_7 : decode cX12_mean 7 = .ok (.ldc_w 350, 3) := by decide +kernel
theorem dX12_mean_10 : decode cX12_mean 10 = .ok (.if_icmp .ne 7, 3) := by decide +kernel
theorem dX12_mean_13 : decode cX12_mean 13 = .ok (.ldc2_w 207, 3) := by decide +kernel
theorem dX12_mean_16 : decode cX12_mean 16 = .ok (.lreturn, 1) := by decide +kernel
theorem dX12_met_0 : decode cX12_met 0 = .ok (.aload_n 0, 1) := by decide +kernel
theorem dX12_met_1 : decode cX12_met 1 = .ok (.iload_n 1, 1) := by decide +kernel
theorem dX12_met_2 : decode cX12_met 2 = .ok (.invokevirtual 347, 3) := by decide +kernel
theorem dX12_met_5 : decode cX12_met 5 = .ok (.ifCond .eq 25, 3) := by decide +kernel
theorem dX12_met_30 : decode cX12_met 30 = .ok (.ldc_w 350, 3) := by decide +kernel
theorem dX12_met_33 : decode cX12_met 33 = .ok (.ireturn, 1) := by decide +kernel
theorem dX12_most_0 : decode cX12_most 0 = .ok (.aload_n 0, 1) := by decide +kernel
theorem dX12_most_1 : decode cX12_most 1 = .ok (.getfield 290, 3) := by decide +kernel
theorem dX12_most_4 : decode cX12_most 4 = .ok (.ifCond .eq 12, 3) := by decide +kernel
theorem dX12_most_16 : decode cX12_most 16 = .ok (.iconst (-1), 1) := by decide +kernel
theorem dX12_most_17 : decode cX12_most 17 = .ok (.ireturn, 1) := by decide +kernel
theorem dX12_needs_0 : decode cX12_needs 0 = .ok (.aload_n 0, 1) := by decide +kernel
theorem dX12_needs_1 : decode cX12_needs 1 = .ok (.iload_n 1, 1) := by decide +kernel
theorem dX12_needs_2 : decode cX12_needs 2 = .ok (.invokevirtual 347, 3) := by decide +kernel
theorem dX12_needs_5 : decode cX12_needs 5 = .ok (.ifCond .eq 11, 3) := by decide +kernel
theorem dX12_needs_16 : decode cX12_needs 16 = .ok (.iconst (-1), 1) := by decide +kernel
theorem dX12_needs_17 : decode cX12_needs 17 = .ok (.ireturn, 1) := by decide +kernel
theorem dX12_odds_0 : decode cX12_odds 0 = .ok (.aload_n 0, 1) := by decide +kernel
theorem dX12_odds_1 : decode cX12_odds 1 = .ok (.iload_n 1, 1) := by decide +kernel
theorem dX12_odds_2 : decode cX12_odds 2 = .ok (.invokevirtual 347, 3) := by decide +kernel
theorem dX12_odds_5 : decode cX12_odds 5 = .ok (.ifCond .eq 34, 3) := by decide +kernel
theorem dX12_odds_39 : decode cX12_odds 39 = .ok (.ldc_w 350, 3) := by decide +kernel
theorem dX12_odds_42 : decode cX12_odds 42 = .ok (.ireturn, 1) := by decide +kernel
theorem dX12_rank_0 : decode cX12_rank 0 = .ok (.iconst 0, 1) := by decide +kernel
theorem dX12_rank_1 : decode cX12_rank 1 = .ok (.istore_n 2, 1) := by decide +kernel
theorem dX12_rank_2 : decode cX12_rank 2 = .ok (.iload_n 2, 1) := by decide +kernel
theorem dX12_rank_3 : decode cX12_rank 3 = .ok (.aload_n 0, 1) := by decide +kernel
theorem dX12_rank_4 : decode cX12_rank 4 = .ok (.getfield 290, 3) := by decide +kernel
theorem dX12_rank_7 : decode cX12_rank 7 = .ok (.if_icmp .ge 82, 3) := by decide +kernel
theorem dX12_rank_89 : decode cX12_rank 89 = .ok (.iconst (-1), 1) := by decide +kernel
theorem dX12_rank_90 : decode cX12_rank 90 = .ok (.ireturn, 1) := by decide +kernel
theorem dX12_reform_0 : decode cX12_reform 0 = .ok (.aload_n 0, 1) := by decide +kernel
theorem dX12_reform_1 : decode cX12_reform 1 = .ok (.iload_n 1, 1) := by decide +kernel
theorem dX12_reform_2 : decode cX12_reform 2 = .ok (.iload_n 2, 1) := by decide +kernel
theorem dX12_reform_3 : decode cX12_reform 3 = .ok (.invokevirtual 441, 3) := by decide +kernel
theorem dX12_reform_6 : decode cX12_reform 6 = .ok (.ifCond .ne 7, 3) := by decide +kernel
theorem dX12_reform_9 : decode cX12_reform 9 = .ok (.ldc_w 350, 3) := by decide +kernel
theorem dX12_reform_12 : decode cX12_reform 12 = .ok (.ireturn, 1) := by decide +kernel
theorem dX12_seed_0 : decode cX12_seed 0 = .ok (.aload_n 0, 1) := by decide +kernel
theorem dX12_seed_1 : decode cX12_seed 1 = .ok (.lload_n 1, 1) := by decide +kernel
theorem dX12_seed_2 : decode cX12_seed 2 = .ok (.putfield 357, 3) := by decide +kernel
theorem dX12_seed_5 : decode cX12_seed 5 = .ok (.iconst 1, 1) := by decide +kernel
theorem dX12_seed_6 : decode cX12_seed 6 = .ok (.ireturn, 1) := by decide +kernel
theorem dX12_set_0 : decode cX12_set 0 = .ok (.iload_n 1, 1) := by decide +kernel
theorem dX12_set_1 : decode cX12_set 1 = .ok (.iconst 0, 1) := by decide +kernel
theorem dX12_set_2 : decode cX12_set 2 = .ok (.iconst 2, 1) := by decide +kernel
theorem dX12_set_3 : decode cX12_set 3 = .ok (.invokestatic 232, 3) := by decide +kernel
theorem dX12_set_6 : decode cX12_set 6 = .ok (.ifCond .eq 31, 3) := by decide +kernel
theorem dX12_set_9 : decode cX12_set 9 = .ok (.iload_n 2, 1) := by decide +kernel
theorem dX12_set_10 : decode cX12_set 10 = .ok (.iconst 0, 1) := by decide +kernel
theorem dX12_set_11 : decode cX12_set 11 = .ok (.iload_n 1, 1) := by decide +kernel
theorem dX12_set_12 : decode cX12_set 12 = .ok (.ifCond .ne 8, 3) := by decide +kernel
theorem dX12_set_15 : decode cX12_set 15 = .ok (.bipush 100, 2) := by decide +kernel
theorem dX12_set_17 : decode cX12_set 17 = .ok (.goto 14, 3) := by decide +kernel
theorem dX12_set_20 : decode cX12_set 20 = .ok (.iload_n 1, 1) := by decide +kernel
theorem dX12_set_21 : decode cX12_set 21 = .ok (.iconst 1, 1) := by decide +kernel
theorem dX12_set_22 : decode cX12_set 22 = .ok (.if_icmp .ne 7, 3) := by decide +kernel
theorem dX12_set_25 : decode cX12_set 25 = .ok (.iconst 1, 1) := by decide +kernel
theorem dX12_set_26 : decode cX12_set 26 = .ok (.goto 5, 3) := by decide +kernel
theorem dX12_set_29 : decode cX12_set 29 = .ok (.bipush 99, 2) := by decide +kernel
theorem dX12_set_31 : decode cX12_set 31 = .ok (.invokestatic 232, 3) := by decide +kernel
theorem dX12_set_34 : decode cX12_set 34 = .ok (.ifCond .ne 5, 3) := by decide +kernel
theorem dX12_set_37 : decode cX12_set 37 = .ok (.iconst 0, 1) := by decide +kernel
theorem dX12_set_38 : decode cX12_set 38 = .ok (.ireturn, 1) := by decide +kernel
theorem dX12_set_39 : decode cX12_set 39 = .ok (.aload_n 0, 1) := by decide +kernel
theorem dX12_set_40 : decode cX12_set 40 = .ok (.iload_n 1, 1) := by decide +kernel
theorem dX12_set_41 : decode cX12_set 41 = .ok (.ifCond .ne 7, 3) := by decide +kernel
theorem dX12_set_44 : decode cX12_set 44 = .ok (.iload_n 2, 1) := by decide +kernel
theorem dX12_set_45 : decode cX12_set 45 = .ok (.goto 7, 3) := by decide +kernel
theorem dX12_set_48 : decode cX12_set 48 = .ok (.aload_n 0, 1) := by decide +kernel
theorem dX12_set_49 : decode cX12_set 49 = .ok (.getfield 68, 3) := by decide +kernel
theorem dX12_set_52 : decode cX12_set 52 = .ok (.putfield 68, 3) := by decide +kernel
theorem dX12_set_55 : decode cX12_set 55 = .ok (.aload_n 0, 1) := by decide +kernel
theorem dX12_set_56 : decode cX12_set 56 = .ok (.iload_n 1, 1) := by decide +kernel
theorem dX12_set_57 : decode cX12_set 57 = .ok (.iconst 1, 1) := by decide +kernel
theorem dX12_set_58 : decode cX12_set 58 = .ok (.if_icmp .ne 7, 3) := by decide +kernel
theorem dX12_set_61 : decode cX12_set 61 = .ok (.iload_n 2, 1) := by decide +kernel
theorem dX12_set_62 : decode cX12_set 62 = .ok (.goto 7, 3) := by decide +kernel
theorem dX12_set_65 : decode cX12_set 65 = .ok (.aload_n 0, 1) := by decide +kernel
theorem dX12_set_66 : decode cX12_set 66 = .ok (.getfield 354, 3) := by decide +kernel
theorem dX12_set_69 : decode cX12_set 69 = .ok (.putfield 354, 3) := by decide +kernel
theorem dX12_set_72 : decode cX12_set 72 = .ok (.aload_n 0, 1) := by decide +kernel
theorem dX12_set_73 : decode cX12_set 73 = .ok (.iload_n 1, 1) := by decide +kernel
theorem dX12_set_74 : decode cX12_set 74 = .ok (.iconst 2, 1) := by decide +kernel
theorem dX12_set_75 : decode cX12_set 75 = .ok (.if_icmp .ne 7, 3) := by decide +kernel
theorem dX12_set_78 : decode cX12_set 78 = .ok (.iload_n 2, 1) := by decide +kernel
theorem dX12_set_79 : decode cX12_set 79 = .ok (.goto 7, 3) := by decide +kernel
theorem dX12_set_82 : decode cX12_set 82 = .ok (.aload_n 0, 1) := by decide +kernel
theorem dX12_set_83 : decode cX12_set 83 = .ok (.getfield 71, 3) := by decide +kernel
theorem dX12_set_86 : decode cX12_set 86 = .ok (.putfield 71, 3) := by decide +kernel
theorem dX12_set_89 : decode cX12_set 89 = .ok (.iconst 1, 1) := by decide +kernel
theorem dX12_set_90 : decode cX12_set 90 = .ok (.ireturn, 1) := by decide +kernel
theorem dX12_spring_0 : decode cX12_spring 0 = .ok (.aload_n 0, 1) := by decide +kernel
theorem dX12_spring_1 : decode cX12_spring 1 = .ok (.getfield 290, 3) := by decide +kernel
theorem dX12_spring_4 : decode cX12_spring 4 = .ok (.ifCond .ne 5, 3) := by decide +kernel
theorem dX12_spring_7 : decode cX12_spring 7 = .ok (.iconst (-1), 1) := by decide +kernel
theorem dX12_spring_8 : decode cX12_spring 8 = .ok (.ireturn, 1) := by decide +kernel
theorem dX12_tried_0 : decode cX12_tried 0 = .ok (.aload_n 0, 1) := by decide +kernel
theorem dX12_tried_1 : decode cX12_tried 1 = .ok (.iload_n 2, 1) := by decide +kernel
theorem dX12_tried_2 : decode cX12_tried 2 = .ok (.iload_n 3, 1) := by decide +kernel
theorem dX12_tried_3 : decode cX12_tried 3 = .ok (.invokevirtual 441, 3) := by decide +kernel
theorem dX12_tried_6 : decode cX12_tried 6 = .ok (.ifCond .eq 39, 3) := by decide +kernel
theorem dX12_tried_45 : decode cX12_tried 45 = .ok (.ldc_w 350, 3) := by decide +kernel
theorem dX12_tried_48 : decode cX12_tried 48 = .ok (.ireturn, 1) := by decide +kernel
theorem dX12_undo_0 : decode cX12_undo 0 = .ok (.aload_n 0, 1) := by decide +kernel
theorem dX12_undo_1 : decode cX12_undo 1 = .ok (.getfield 312, 3) := by decide +kernel
theorem dX12_undo_4 : decode cX12_undo 4 = .ok (.ifCond .ne 5, 3) := by decide +kernel
theorem dX12_undo_7 : decode cX12_undo 7 = .ok (.iconst (-1), 1) := by decide +kernel
theorem dX12_undo_8 : decode cX12_undo 8 = .ok (.ireturn, 1) := by decide +kernel
theorem dX12_waiting_0 : decode cX12_waiting 0 = .ok (.aload_n 0, 1) := by decide +kernel
theorem dX12_waiting_1 : decode cX12_waiting 1 = .ok (.getfield 290, 3) := by decide +kernel
theorem dX12_waiting_4 : decode cX12_waiting 4 = .ok (.ifCond .ne 7, 3) := by decide +kernel
theorem dX12_waiting_7 : decode cX12_waiting 7 = .ok (.iconst (-1), 1) := by decide +kernel
theorem dX12_waiting_8 : decode cX12_waiting 8 = .ok (.goto 7, 3) := by decide +kernel
theorem dX12_waiting_15 : decode cX12_waiting 15 = .ok (.ireturn, 1) := by decide +kernel
theorem dX12_winters_0 : decode cX12_winters 0 = .ok (.aload_n 0, 1) := by decide +kernel
theorem dX12_winters_1 : decode cX12_winters 1 = .ok (.getfield 290, 3) := by decide +kernel
theorem dX12_winters_4 : decode cX12_winters 4 = .ok (.ifCond .eq 24, 3) := by decide +kernel
theorem dX12_winters_28 : decode cX12_winters 28 = .ok (.iconst (-1), 1) := by decide +kernel
theorem dX12_winters_29 : decode cX12_winters 29 = .ok (.ireturn, 1) := by decide +kernel
def w_X12_in : List Cond := .code yX12_in cX12_in 3 (some .boolean) :: ([] ++ ([]))
set_option maxHeartbeats 4000000 in
set_option maxRecDepth 100000 in
theorem c_X12_in (l : Launch) (E : py_E) (L : List Nat) (f : py_F) (sz : Nat) (v lo hi : Int32) : Met l yX12_in w_X12_in ({ frames := 0, cells := 0, slots := 0, locals := 0 }) (py_Pc E [.int v, .int lo, .int hi] L f sz) (py_Qi E L f sz (fun r L1 f1 => L = L1 ∧ f = f1 ∧ ((r = 1 ∧ lo ≤ v ∧ v ≤ hi) ∨ (r = 0 ∧ ¬ (lo ≤ v ∧ v ≤ hi))))) 0 0 (va_A (va_pl L f) sz) := by
  refine Met.ofW (cc := cX12_in) (maxL := 3) (ret := (some .boolean)) (by decide) rfl ?_
  intro p e s m args below meth c s₁ B hml hv
  obtain ⟨rfl, rfl, hw⟩ := py_start hv
  have G : CallFix p m c cX12_in 3 s _ w_X12_in RX12 := ⟨B.exec, B.bytes, hml, findClass_of_methodNamed B.named, atoms_spec (ws := w_X12_in) B.pre⟩
  have hr := B.returns
  have hlk := B.notSynchronized
  have hl := lv_entry ([.int v, .int lo, .int hi]) (n := 3) (Nat.le_of_ble_eq_true rfl)
  rw [lg_entry_eq]
  generalize (lg_sl ([.int v, .int lo, .int hi]) ++ List.replicate (3 - (lg_sl ([.int v, .int lo, .int hi])).length) Slot.unset).toArray = ls at hl ⊢
  have hl : lv_has ls 3 [(0, .int v), (1, .int lo), (2, .int hi)] := hl
  refine lv_iload_n G.1 G.2.1 dX12_in_0 rfl (lv_at hl 0 rfl) ?_
  refine lv_iload_n G.1 G.2.1 dX12_in_1 rfl (lv_at hl 1 rfl) ?_
  refine lv_icmp_lt (tgt := 14) G.1 G.2.1 dX12_in_2 (by decide) (fun c_1 => ?_) (fun c_1 => ?_)
  · skip
    refine lv_iconst (v := 0) G.1 G.2.1 dX12_in_14 (by decide) ?_
    exact py_iret G hr rfl hlk hw ⟨rfl, rfl, Or.inr ⟨rfl, fun h => absurd h.1 (Int32.not_le.mpr c_1)⟩⟩ dX12_in_15
  · skip
    refine lv_iload_n G.1 G.2.1 dX12_in_5 rfl (lv_at hl 0 rfl) ?_
    refine lv_iload_n G.1 G.2.1 dX12_in_6 rfl (lv_at hl 2 rfl) ?_
    refine lv_icmp_gt (tgt := 14) G.1 G.2.1 dX12_in_7 (by decide) (fun c_2 => ?_) (fun c_2 => ?_)
    · skip
      refine lv_iconst (v := 0) G.1 G.2.1 dX12_in_14 (by decide) ?_
      exact py_iret G hr rfl hlk hw ⟨rfl, rfl, Or.inr ⟨rfl, fun h => absurd h.2 (Int32.not_le.mpr c_2)⟩⟩ dX12_in_15
    · skip
      refine lv_iconst (v := 1) G.1 G.2.1 dX12_in_10 (by decide) ?_
      refine lv_goto (tgt := 15) G.1 G.2.1 dX12_in_11 (by decide) ?_
      exact py_iret G hr rfl hlk hw ⟨rfl, rfl, Or.inl ⟨rfl, Int32.not_lt.mp c_1, Int32.not_lt.mp c_2⟩⟩ dX12_in_15

def w_X12_isFamily : List Cond := .code yX12_isFamily cX12_isFamily 2 (some .boolean) :: ([Cond.fieldLink RX12 290 "HeadYearModel" "families" "I", Cond.methodLink RX12 232 yX12_in, Cond.static yX12_in, Cond.initialized RX12] ++ (u_ws RX12 TX12 54 ++ (w_X12_in ++ ([]))))
theorem in_X12_isFamily_X12 : ∀ w ∈ u_ws RX12 TX12 54, w ∈ w_X12_isFamily := fun _ h => List.mem_cons_of_mem _ (List.mem_append_right _ (List.mem_append_left _ h))
theorem gg_X12_isFamily_X12_in : GoodIn w_X12_isFamily w_X12_in := goodIn_sub (fun _ h => List.mem_cons_of_mem _ (List.mem_append_right _ (List.mem_append_right _ (List.mem_append_left _ h)))) (by decide +kernel)
theorem g_X12_isFamily_X12_in_232 : GoodIn w_X12_isFamily (va_wsS RX12 232 yX12_in w_X12_in) := goodIn_app (goodIn_of _ (by decide +kernel)) gg_X12_isFamily_X12_in
set_option maxHeartbeats 4000000 in
set_option maxRecDepth 100000 in
theorem c_X12_isFamily (l : Launch) (E : py_E) (L : List Nat) (f : py_F) (sz : Nat) (h : Nat) (a : Int32) (hM : fr_M E L f h) : Met l yX12_isFamily w_X12_isFamily ({ frames := 1, cells := 0, slots := 0, locals := 22 }) (py_Pc E [.ref h, .int a] L f sz) (py_Qi E L f sz (fun r L1 f1 => r = 0 ∧ L = L1 ∧ f = f1)) 0 0 (va_A (va_pl L f) sz) := by
  refine Met.ofW (cc := cX12_isFamily) (maxL := 2) (ret := (some .boolean)) (by decide) rfl ?_
  intro p e s m args below meth c s₁ B hml hv
  obtain ⟨rfl, rfl, hw⟩ := py_start hv
  have G : CallFix p m c cX12_isFamily 2 s _ w_X12_isFamily RX12 := ⟨B.exec, B.bytes, hml, findClass_of_methodNamed B.named, atoms_spec (ws := w_X12_isFamily) B.pre⟩
  have hr := B.returns
  have hlk := B.notSynchronized
  have hl := lv_entry ([.ref h, .int a]) (n := 2) (Nat.le_of_ble_eq_true rfl)
  rw [lg_entry_eq]
  generalize (lg_sl ([.ref h, .int a]) ++ List.replicate (2 - (lg_sl ([.ref h, .int a])).length) Slot.unset).toArray = ls at hl ⊢
  have hl : lv_has ls 2 [(0, .ref h), (1, .int a)] := hl
  obtain ⟨tp, cd, cl, g1, g2, g3, xs, v32, v33, v34, hh, hxs, hp1, hp2, hp8, hp9, hp13, hp24, hp25, hp29, hp31, hp43, hp53, ⟨hp32, hp33, hp34⟩, htp, hcd, hcl⟩ := id hM
  refine lv_iload_n G.1 G.2.1 dX12_isFamily_0 rfl (lv_at hl 1 rfl) ?_
  refine lv_iconst (v := 0) G.1 G.2.1 dX12_isFamily_1 (by decide) ?_
  refine lv_aload_n G.1 G.2.1 dX12_isFamily_2 rfl (lv_at hl 0 rfl) ?_
  refine py_get (C := RX12) (T := TX12) (N := 54) (k := 25) (v := .int 0) G hw in_X12_isFamily_X12 rfl hh (by decide) (by decide +kernel) hp25 dX12_isFamily_3 ?_
  refine lv_iconst (v := 1) G.1 G.2.1 dX12_isFamily_6 (by decide) ?_
  refine lv_isub G.1 G.2.1 dX12_isFamily_7 ?_
  rw [show 0 - 1 = ((-1) : Int32) by decide]
  refine py_calli hw (va_runS (As := [.int a, .int 0, .int (-1)]) (rest := []) G (c_X12_in l E L f s.heap.size a 0 (-1)) (va_cwS 3 G.2.2.2.2 g_X12_isFamily_X12_in_232 rfl rfl rfl (by decide +kernel) ⟨(Nat.le_of_ble_eq_true rfl), (Nat.le_of_ble_eq_true rfl)⟩) (py_preS hw) rfl rfl hl.1 rfl (lv_room (Nat.le_of_ble_eq_true rfl)) dX12_isFamily_8 ⟨(Nat.le_of_ble_eq_true rfl), (Nat.le_of_ble_eq_true rfl)⟩) (fun r_5 L_1 f_2 H_3 locs hp_4 hw => ?_)
  obtain ⟨rfl, rfl, hi_6⟩ := hp_4
  rcases hi_6 with ⟨rfl, hi_6⟩ | ⟨rfl, hi_6⟩
  · skip
    exact absurd (Int32.le_trans hi_6.1 hi_6.2) (by decide)
  · skip
    exact py_iret G hr rfl hlk hw ⟨rfl, rfl, rfl⟩ dX12_isFamily_11

def w_X12_isLevel : List Cond := .code yX12_isLevel cX12_isLevel 2 (some .boolean) :: ([Cond.fieldLink RX12 302 "HeadYearModel" "levels" "I", Cond.methodLink RX12 232 yX12_in, Cond.static yX12_in, Cond.initialized RX12] ++ (u_ws RX12 TX12 54 ++ (w_X12_in ++ ([]))))
theorem in_X12_isLevel_X12 : ∀ w ∈ u_ws RX12 TX12 54, w ∈ w_X12_isLevel := fun _ h => List.mem_cons_of_mem _ (List.mem_append_right _ (List.mem_append_left _ h))
theorem gg_X12_isLevel_X12_in : GoodIn w_X12_isLevel w_X12_in := goodIn_sub (fun _ h => List.mem_cons_of_mem _ (List.mem_append_right _ (List.mem_append_right _ (List.mem_append_left _ h)))) (by decide +kernel)
theorem g_X12_isLevel_X12_in_232 : GoodIn w_X12_isLevel (va_wsS RX12 232 yX12_in w_X12_in) := goodIn_app (goodIn_of _ (by decide +kernel)) gg_X12_isLevel_X12_in
set_option maxHeartbeats 4000000 in
set_option maxRecDepth 100000 in
theorem c_X12_isLevel (l : Launch) (E : py_E) (L : List Nat) (f : py_F) (sz : Nat) (h : Nat) (a : Int32) (hM : fr_M E L f h) : Met l yX12_isLevel w_X12_isLevel ({ frames := 1, cells := 0, slots := 0, locals := 22 }) (py_Pc E [.ref h, .int a] L f sz) (py_Qi E L f sz (fun r L1 f1 => r = 0 ∧ L = L1 ∧ f = f1)) 0 0 (va_A (va_pl L f) sz) := by
  refine Met.ofW (cc := cX12_isLevel) (maxL := 2) (ret := (some .boolean)) (by decide) rfl ?_
  intro p e s m args below meth c s₁ B hml hv
  obtain ⟨rfl, rfl, hw⟩ := py_start hv
  have G : CallFix p m c cX12_isLevel 2 s _ w_X12_isLevel RX12 := ⟨B.exec, B.bytes, hml, findClass_of_methodNamed B.named, atoms_spec (ws := w_X12_isLevel) B.pre⟩
  have hr := B.returns
  have hlk := B.notSynchronized
  have hl := lv_entry ([.ref h, .int a]) (n := 2) (Nat.le_of_ble_eq_true rfl)
  rw [lg_entry_eq]
  generalize (lg_sl ([.ref h, .int a]) ++ List.replicate (2 - (lg_sl ([.ref h, .int a])).length) Slot.unset).toArray = ls at hl ⊢
  have hl : lv_has ls 2 [(0, .ref h), (1, .int a)] := hl
  obtain ⟨tp, cd, cl, g1, g2, g3, xs, v32, v33, v34, hh, hxs, hp1, hp2, hp8, hp9, hp13, hp24, hp25, hp29, hp31, hp43, hp53, ⟨hp32, hp33, hp34⟩, htp, hcd, hcl⟩ := id hM
  refine lv_iload_n G.1 G.2.1 dX12_isLevel_0 rfl (lv_at hl 1 rfl) ?_
  refine lv_iconst (v := 0) G.1 G.2.1 dX12_isLevel_1 (by decide) ?_
  refine lv_aload_n G.1 G.2.1 dX12_isLevel_2 rfl (lv_at hl 0 rfl) ?_
  refine py_get (C := RX12) (T := TX12) (N := 54) (k := 24) (v := .int 0) G hw in_X12_isLevel_X12 rfl hh (by decide) (by decide +kernel) hp24 dX12_isLevel_3 ?_
  refine lv_iconst (v := 1) G.1 G.2.1 dX12_isLevel_6 (by decide) ?_
  refine lv_isub G.1 G.2.1 dX12_isLevel_7 ?_
  rw [show 0 - 1 = ((-1) : Int32) by decide]
  refine py_calli hw (va_runS (As := [.int a, .int 0, .int (-1)]) (rest := []) G (c_X12_in l E L f s.heap.size a 0 (-1)) (va_cwS 3 G.2.2.2.2 g_X12_isLevel_X12_in_232 rfl rfl rfl (by decide +kernel) ⟨(Nat.le_of_ble_eq_true rfl), (Nat.le_of_ble_eq_true rfl)⟩) (py_preS hw) rfl rfl hl.1 rfl (lv_room (Nat.le_of_ble_eq_true rfl)) dX12_isLevel_8 ⟨(Nat.le_of_ble_eq_true rfl), (Nat.le_of_ble_eq_true rfl)⟩) (fun r_5 L_1 f_2 H_3 locs hp_4 hw => ?_)
  obtain ⟨rfl, rfl, hi_6⟩ := hp_4
  rcases hi_6 with ⟨rfl, hi_6⟩ | ⟨rfl, hi_6⟩
  · skip
    exact absurd (Int32.le_trans hi_6.1 hi_6.2) (by decide)
  · skip
    exact py_iret G hr rfl hlk hw ⟨rfl, rfl, rfl⟩ dX12_isLevel_11

def w_X12_isTrial : List Cond := .code yX12_isTrial cX12_isTrial 3 (some .boolean) :: ([Cond.fieldLink RX12 290 "HeadYearModel" "families" "I"] ++ (u_ws RX12 TX12 54 ++ ([])))
theorem in_X12_isTrial_X12 : ∀ w ∈ u_ws RX12 TX12 54, w ∈ w_X12_isTrial := fun _ h => List.mem_cons_of_mem _ (List.mem_append_right _ (List.mem_append_left _ h))
set_option maxHeartbeats 4000000 in
set_option maxRecDepth 100000 in
theorem c_X12_isTrial (l : Launch) (E : py_E) (L : List Nat) (f : py_F) (sz : Nat) (h : Nat) (a : Int32) (b : Int32) (hM : fr_M E L f h) : Met l yX12_isTrial w_X12_isTrial ({ frames := 0, cells := 0, slots := 0, locals := 0 }) (py_Pc E [.ref h, .int a, .int b] L f sz) (py_Qi E L f sz (fun r L1 f1 => r = 0 ∧ L = L1 ∧ f = f1)) 0 0 (va_A (va_pl L f) sz) := by
  refine Met.ofW (cc := cX12_isTrial) (maxL := 3) (ret := (some .boolean)) (by decide) rfl ?_
  intro p e s m args below meth c s₁ B hml hv
  obtain ⟨rfl, rfl, hw⟩ := py_start hv
  have G : CallFix p m c cX12_isTrial 3 s _ w_X12_isTrial RX12 := ⟨B.exec, B.bytes, hml, findClass_of_methodNamed B.named, atoms_spec (ws := w_X12_isTrial) B.pre⟩
  have hr := B.returns
  have hlk := B.notSynchronized
  have hl := lv_entry ([.ref h, .int a, .int b]) (n := 3) (Nat.le_of_ble_eq_true rfl)
  rw [lg_entry_eq]
  generalize (lg_sl ([.ref h, .int a, .int b]) ++ List.replicate (3 - (lg_sl ([.ref h, .int a, .int b])).length) Slot.unset).toArray = ls at hl ⊢
  have hl : lv_has ls 3 [(0, .ref h), (1, .int a), (2, .int b)] := hl
  obtain ⟨tp, cd, cl, g1, g2, g3, xs, v32, v33, v34, hh, hxs, hp1, hp2, hp8, hp9, hp13, hp24, hp25, hp29, hp31, hp43, hp53, ⟨hp32, hp33, hp34⟩, htp, hcd, hcl⟩ := id hM
  refine lv_aload_n G.1 G.2.1 dX12_isTrial_0 rfl (lv_at hl 0 rfl) ?_
  refine py_get (C := RX12) (T := TX12) (N := 54) (k := 25) (v := .int 0) G hw in_X12_isTrial_X12 rfl hh (by decide) (by decide +kernel) hp25 dX12_isTrial_1 ?_
  refine lv_if_le (tgt := 31) G.1 G.2.1 dX12_isTrial_4 (by decide) (fun c_1 => ?_) (fun c_1 => ?_)
  · skip
    refine lv_iconst (v := 0) G.1 G.2.1 dX12_isTrial_31 (by decide) ?_
    exact py_iret G hr rfl hlk hw ⟨rfl, rfl, rfl⟩ dX12_isTrial_32
  · skip
    exact absurd c_1 (by decide)

def w_X12_gones : List Cond := .code yX12_gones cX12_gones 3 (some .int) :: ([Cond.fieldLink RX12 290 "HeadYearModel" "families" "I"] ++ (u_ws RX12 TX12 54 ++ ([])))
theorem in_X12_gones_X12 : ∀ w ∈ u_ws RX12 TX12 54, w ∈ w_X12_gones := fun _ h => List.mem_cons_of_mem _ (List.mem_append_right _ (List.mem_append_left _ h))
set_option maxHeartbeats 4000000 in
set_option maxRecDepth 100000 in
theorem c_X12_gones (l : Launch) (E : py_E) (L : List Nat) (f : py_F) (sz : Nat) (h : Nat) (hM : fr_M E L f h) : Met l yX12_gones w_X12_gones ({ frames := 0, cells := 0, slots := 0, locals := 0 }) (py_Pc E [.ref h] L f sz) (py_Qi E L f sz (fun r L1 f1 => r = 0 ∧ L = L1 ∧ f = f1)) 0 0 (va_A (va_pl L f) sz) := by
  refine Met.ofW (cc := cX12_gones) (maxL := 3) (ret := (some .int)) (by decide) rfl ?_
  intro p e s m args below meth c s₁ B hml hv
  obtain ⟨rfl, rfl, hw⟩ := py_start hv
  have G : CallFix p m c cX12_gones 3 s _ w_X12_gones RX12 := ⟨B.exec, B.bytes, hml, findClass_of_methodNamed B.named, atoms_spec (ws := w_X12_gones) B.pre⟩
  have hr := B.returns
  have hlk := B.notSynchronized
  have hl := lv_entry ([.ref h]) (n := 3) (Nat.le_of_ble_eq_true rfl)
  rw [lg_entry_eq]
  generalize (lg_sl ([.ref h]) ++ List.replicate (3 - (lg_sl ([.ref h])).length) Slot.unset).toArray = ls at hl ⊢
  have hl : lv_has ls 3 [(0, .ref h)] := hl
  obtain ⟨tp, cd, cl, g1, g2, g3, xs, v32, v33, v34, hh, hxs, hp1, hp2, hp8, hp9, hp13, hp24, hp25, hp29, hp31, hp43, hp53, ⟨hp32, hp33, hp34⟩, htp, hcd, hcl⟩ := id hM
  refine lv_iconst (v := 0) G.1 G.2.1 dX12_gones_0 (by decide) ?_
  refine lv_istore_n (lv' := [(1, .int 0), (0, .ref h)]) G.1 G.2.1 dX12_gones_1 rfl hl (by decide) rfl (fun ls hl => ?_)
  refine lv_iconst (v := 0) G.1 G.2.1 dX12_gones_2 (by decide) ?_
  refine lv_istore_n (lv' := [(2, .int 0), (1, .int 0), (0, .ref h)]) G.1 G.2.1 dX12_gones_3 rfl hl (by decide) rfl (fun ls hl => ?_)
  refine lv_iload_n G.1 G.2.1 dX12_gones_4 rfl (lv_at hl 0 rfl) ?_
  refine lv_aload_n G.1 G.2.1 dX12_gones_5 rfl (lv_at hl 2 rfl) ?_
  refine py_get (C := RX12) (T := TX12) (N := 54) (k := 25) (v := .int 0) G hw in_X12_gones_X12 rfl hh (by decide) (by decide +kernel) hp25 dX12_gones_6 ?_
  refine lv_icmp_ge (tgt := 34) G.1 G.2.1 dX12_gones_9 (by decide) (fun c_1 => ?_) (fun c_1 => ?_)
  · skip
    refine lv_iload_n G.1 G.2.1 dX12_gones_34 rfl (lv_at hl 1 rfl) ?_
    exact py_iret G hr rfl hlk hw ⟨rfl, rfl, rfl⟩ dX12_gones_35
  · skip
    exact absurd c_1 (by decide)

def w_X12_odds : List Cond := .code yX12_odds cX12_odds 7 (some .int) :: ([Cond.methodLink RX12 347 yX12_isFamily, Cond.instanceMethod yX12_isFamily, Cond.selects RX12 yX12_isFamily yX12_isFamily, Cond.initialized RX12, Cond.constant RX12 350 (-1000000)] ++ (w_X12_isFamily ++ ([])))
theorem gg_X12_odds_X12_isFamily : GoodIn w_X12_odds w_X12_isFamily := goodIn_sub (fun _ h => List.mem_cons_of_mem _ (List.mem_append_right _ (List.mem_append_left _ h))) (by decide +kernel)
theorem g_X12_odds_X12_isFamily_347 : GoodIn w_X12_odds (wsV RX12 347 RX12 yX12_isFamily w_X12_isFamily) := goodIn_app (goodIn_of _ (by decide +kernel)) gg_X12_odds_X12_isFamily
set_option maxHeartbeats 4000000 in
set_option maxRecDepth 100000 in
theorem c_X12_odds (l : Launch) (E : py_E) (L : List Nat) (f : py_F) (sz : Nat) (h : Nat) (a : Int32) (b : Int32) (q : Int32) (hM : fr_M E L f h) : Met l yX12_odds w_X12_odds ({ frames := 2, cells := 0, slots := 0, locals := 43 }) (py_Pc E [.ref h, .int a, .int b, .int q] L f sz) (py_Qi E L f sz (fun r L1 f1 => r = (-1000000) ∧ L = L1 ∧ f = f1)) 0 0 (va_A (va_pl L f) sz) := by
  refine Met.ofW (cc := cX12_odds) (maxL := 7) (ret := (some .int)) (by decide) rfl ?_
  intro p e s m args below meth c s₁ B hml hv
  obtain ⟨rfl, rfl, hw⟩ := py_start hv
  have G : CallFix p m c cX12_odds 7 s _ w_X12_odds RX12 := ⟨B.exec, B.bytes, hml, findClass_of_methodNamed B.named, atoms_spec (ws := w_X12_odds) B.pre⟩
  have hr := B.returns
  have hlk := B.notSynchronized
  have hl := lv_entry ([.ref h, .int a, .int b, .int q]) (n := 7) (Nat.le_of_ble_eq_true rfl)
  rw [lg_entry_eq]
  generalize (lg_sl ([.ref h, .int a, .int b, .int q]) ++ List.replicate (7 - (lg_sl ([.ref h, .int a, .int b, .int q])).length) Slot.unset).toArray = ls at hl ⊢
  have hl : lv_has ls 7 [(0, .ref h), (1, .int a), (2, .int b), (3, .int q)] := hl
  obtain ⟨tp, cd, cl, g1, g2, g3, xs, v32, v33, v34, hh, hxs, hp1, hp2, hp8, hp9, hp13, hp24, hp25, hp29, hp31, hp43, hp53, ⟨hp32, hp33, hp34⟩, htp, hcd, hcl⟩ := id hM
  refine lv_aload_n G.1 G.2.1 dX12_odds_0 rfl (lv_at hl 0 rfl) ?_
  refine lv_iload_n G.1 G.2.1 dX12_odds_1 rfl (lv_at hl 1 rfl) ?_
  refine py_calli hw (va_runV (As := [.int a]) (rest := []) G (c_X12_isFamily l E L f s.heap.size h a hM) (cwV 1 G.2.2.2.2 g_X12_odds_X12_isFamily_347 rfl rfl rfl (by decide +kernel) ⟨(Nat.le_of_ble_eq_true rfl), (Nat.le_of_ble_eq_true rfl)⟩) (py_preV hw (C := RX12) (T := TX12) (N := 54) rfl hh) rfl rfl hl.1 rfl (lv_room (Nat.le_of_ble_eq_true rfl)) dX12_odds_2 ⟨(Nat.le_of_ble_eq_true rfl), (Nat.le_of_ble_eq_true rfl)⟩) (fun r_5 L_1 f_2 H_3 locs hp_4 hw => ?_)
  obtain ⟨rfl, rfl, rfl⟩ := hp_4
  refine lv_if_eq (tgt := 39) G.1 G.2.1 dX12_odds_5 (by decide) (fun c_6 => ?_) (fun c_6 => ?_)
  · skip
    refine lv_ldcw (v := (-1000000)) G.1 G.2.1 G.2.2.2.1 (G.2.2.2.2 (Cond.constant RX12 350 (-1000000)) (by decide +kernel)) dX12_odds_39 ?_
    exact py_iret G hr rfl hlk hw ⟨rfl, rfl, rfl⟩ dX12_odds_42
  · skip
    exact absurd c_6 (by decide)

def w_X12_family : List Cond := .code yX12_family cX12_family 3 (some .int) :: ([Cond.methodLink RX12 347 yX12_isFamily, Cond.instanceMethod yX12_isFamily, Cond.selects RX12 yX12_isFamily yX12_isFamily, Cond.initialized RX12, Cond.constant RX12 350 (-1000000)] ++ (w_X12_isFamily ++ ([])))
theorem gg_X12_family_X12_isFamily : GoodIn w_X12_family w_X12_isFamily := goodIn_sub (fun _ h => List.mem_cons_of_mem _ (List.mem_append_right _ (List.mem_append_left _ h))) (by decide +kernel)
theorem g_X12_family_X12_isFamily_347 : GoodIn w_X12_family (wsV RX12 347 RX12 yX12_isFamily w_X12_isFamily) := goodIn_app (goodIn_of _ (by decide +kernel)) gg_X12_family_X12_isFamily
set_option maxHeartbeats 4000000 in
set_option maxRecDepth 100000 in
theorem c_X12_family (l : Launch) (E : py_E) (L : List Nat) (f : py_F) (sz : Nat) (h : Nat) (a : Int32) (b : Int32) (hM : fr_M E L f h) : Met l yX12_family w_X12_family ({ frames := 2, cells := 0, slots := 0, locals := 43 }) (py_Pc E [.ref h, .int a, .int b] L f sz) (py_Qi E L f sz (fun r _ _ => r = -1000000)) 0 0 (va_A (va_pl L f) sz) := by
  refine Met.ofW (cc := cX12_family) (maxL := 3) (ret := (some .int)) (by decide) rfl ?_
  intro p e s m args below meth c s₁ B hml hv
  obtain ⟨rfl, rfl, hw⟩ := py_start hv
  have G : CallFix p m c cX12_family 3 s _ w_X12_family RX12 := ⟨B.exec, B.bytes, hml, findClass_of_methodNamed B.named, atoms_spec (ws := w_X12_family) B.pre⟩
  have hr := B.returns
  have hlk := B.notSynchronized
  have hl := lv_entry ([.ref h, .int a, .int b]) (n := 3) (Nat.le_of_ble_eq_true rfl)
  rw [lg_entry_eq]
  generalize (lg_sl ([.ref h, .int a, .int b]) ++ List.replicate (3 - (lg_sl ([.ref h, .int a, .int b])).length) Slot.unset).toArray = ls at hl ⊢
  have hl : lv_has ls 3 [(0, .ref h), (1, .int a), (2, .int b)] := hl
  obtain ⟨tp, cd, cl, g1, g2, g3, xs, v32, v33, v34, hh, hxs, hp1, hp2, hp8, hp9, hp13, hp24, hp25, hp29, hp31, hp43, hp53, ⟨hp32, hp33, hp34⟩, htp, hcd, hcl⟩ := id hM
  refine lv_aload_n G.1 G.2.1 dX12_family_0 rfl (lv_at hl 0 rfl) ?_
  refine lv_iload_n G.1 G.2.1 dX12_family_1 rfl (lv_at hl 1 rfl) ?_
  refine py_calli hw (va_runV (As := [.int a]) (rest := []) G (c_X12_isFamily l E L f s.heap.size h a hM) (cwV 1 G.2.2.2.2 g_X12_family_X12_isFamily_347 rfl rfl rfl (by decide +kernel) ⟨(Nat.le_of_ble_eq_true rfl), (Nat.le_of_ble_eq_true rfl)⟩) (py_preV hw (C := RX12) (T := TX12) (N := 54) rfl hh) rfl rfl hl.1 rfl (lv_room (Nat.le_of_ble_eq_true rfl)) dX12_family_2 ⟨(Nat.le_of_ble_eq_true rfl), (Nat.le_of_ble_eq_true rfl)⟩) (fun r_5 L_1 f_2 H_3 locs hp_4 hw => ?_)
  obtain ⟨rfl, rfl, rfl⟩ := hp_4
  refine lv_if_ne (tgt := 12) G.1 G.2.1 dX12_family_5 (by decide) (fun c_6 => ?_) (fun c_6 => ?_)
  · skip
    exact absurd c_6 (by decide)
  · skip
    refine lv_ldcw (v := (-1000000)) G.1 G.2.1 G.2.2.2.1 (G.2.2.2.2 (Cond.constant RX12 350 (-1000000)) (by decide +kernel)) dX12_family_8 ?_
    exact py_iret G hr rfl hlk hw rfl dX12_family_11

def w_X12_hut : List Cond := .code yX12_hut cX12_hut 3 (some .int) :: ([Cond.methodLink RX12 330 yX12_isLevel, Cond.instanceMethod yX12_isLevel, Cond.selects RX12 yX12_isLevel yX12_isLevel, Cond.initialized RX12] ++ (w_X12_isLevel ++ ([])))
theorem gg_X12_hut_X12_isLevel : GoodIn w_X12_hut w_X12_isLevel := goodIn_sub (fun _ h => List.mem_cons_of_mem _ (List.mem_append_right _ (List.mem_append_left _ h))) (by decide +kernel)
theorem g_X12_hut_X12_isLevel_330 : GoodIn w_X12_hut (wsV RX12 330 RX12 yX12_isLevel w_X12_isLevel) := goodIn_app (goodIn_of _ (by decide +kernel)) gg_X12_hut_X12_isLevel
set_option maxHeartbeats 4000000 in
set_option maxRecDepth 100000 in
theorem c_X12_hut (l : Launch) (E : py_E) (L : List Nat) (f : py_F) (sz : Nat) (h : Nat) (a : Int32) (b : Int32) (hM : fr_M E L f h) : Met l yX12_hut w_X12_hut ({ frames := 2, cells := 0, slots := 0, locals := 43 }) (py_Pc E [.ref h, .int a, .int b] L f sz) (py_Qi E L f sz (fun r _ _ => r = -1)) 0 0 (va_A (va_pl L f) sz) := by
  refine Met.ofW (cc := cX12_hut) (maxL := 3) (ret := (some .int)) (by decide) rfl ?_
  intro p e s m args below meth c s₁ B hml hv
  obtain ⟨rfl, rfl, hw⟩ := py_start hv
  have G : CallFix p m c cX12_hut 3 s _ w_X12_hut RX12 := ⟨B.exec, B.bytes, hml, findClass_of_methodNamed B.named, atoms_spec (ws := w_X12_hut) B.pre⟩
  have hr := B.returns
  have hlk := B.notSynchronized
  have hl := lv_entry ([.ref h, .int a, .int b]) (n := 3) (Nat.le_of_ble_eq_true rfl)
  rw [lg_entry_eq]
  generalize (lg_sl ([.ref h, .int a, .int b]) ++ List.replicate (3 - (lg_sl ([.ref h, .int a, .int b])).length) Slot.unset).toArray = ls at hl ⊢
  have hl : lv_has ls 3 [(0, .ref h), (1, .int a), (2, .int b)] := hl
  obtain ⟨tp, cd, cl, g1, g2, g3, xs, v32, v33, v34, hh, hxs, hp1, hp2, hp8, hp9, hp13, hp24, hp25, hp29, hp31, hp43, hp53, ⟨hp32, hp33, hp34⟩, htp, hcd, hcl⟩ := id hM
  refine lv_aload_n G.1 G.2.1 dX12_hut_0 rfl (lv_at hl 0 rfl) ?_
  refine lv_iload_n G.1 G.2.1 dX12_hut_1 rfl (lv_at hl 1 rfl) ?_
  refine py_calli hw (va_runV (As := [.int a]) (rest := []) G (c_X12_isLevel l E L f s.heap.size h a hM) (cwV 1 G.2.2.2.2 g_X12_hut_X12_isLevel_330 rfl rfl rfl (by decide +kernel) ⟨(Nat.le_of_ble_eq_true rfl), (Nat.le_of_ble_eq_true rfl)⟩) (py_preV hw (C := RX12) (T := TX12) (N := 54) rfl hh) rfl rfl hl.1 rfl (lv_room (Nat.le_of_ble_eq_true rfl)) dX12_hut_2 ⟨(Nat.le_of_ble_eq_true rfl), (Nat.le_of_ble_eq_true rfl)⟩) (fun r_5 L_1 f_2 H_3 locs hp_4 hw => ?_)
  obtain ⟨rfl, rfl, rfl⟩ := hp_4
  refine lv_if_eq (tgt := 33) G.1 G.2.1 dX12_hut_5 (by decide) (fun c_6 => ?_) (fun c_6 => ?_)
  · skip
    refine lv_iconst (v := (-1)) G.1 G.2.1 dX12_hut_33 (by decide) ?_
    exact py_iret G hr rfl hlk hw rfl dX12_hut_34
  · skip
    exact absurd c_6 (by decide)

def w_X12_winters : List Cond := .code yX12_winters cX12_winters 4 (some .int) :: ([Cond.fieldLink RX12 290 "HeadYearModel" "families" "I"] ++ (u_ws RX12 TX12 54 ++ ([])))
theorem in_X12_winters_X12 : ∀ w ∈ u_ws RX12 TX12 54, w ∈ w_X12_winters := fun _ h => List.mem_cons_of_mem _ (List.mem_append_right _ (List.mem_append_left _ h))
set_option maxHeartbeats 4000000 in
set_option maxRecDepth 100000 in
theorem c_X12_winters (l : Launch) (E : py_E) (L : List Nat) (f : py_F) (sz : Nat) (h : Nat) (a : Int32) (hM : fr_M E L f h) : Met l yX12_winters w_X12_winters ({ frames := 0, cells := 0, slots := 0, locals := 0 }) (py_Pc E [.ref h, .int a] L f sz) (py_Qi E L f sz (fun r _ _ => r = -1)) 0 0 (va_A (va_pl L f) sz) := by
  refine Met.ofW (cc := cX12_winters) (maxL := 4) (ret := (some .int)) (by decide) rfl ?_
  intro p e s m args below meth c s₁ B hml hv
  obtain ⟨rfl, rfl, hw⟩ := py_start hv
  have G : CallFix p m c cX12_winters 4 s _ w_X12_winters RX12 := ⟨B.exec, B.bytes, hml, findClass_of_methodNamed B.named, atoms_spec (ws := w_X12_winters) B.pre⟩
  have hr := B.returns
  have hlk := B.notSynchronized
  have hl := lv_entry ([.ref h, .int a]) (n := 4) (Nat.le_of_ble_eq_true rfl)
  rw [lg_entry_eq]
  generalize (lg_sl ([.ref h, .int a]) ++ List.replicate (4 - (lg_sl ([.ref h, .int a])).length) Slot.unset).toArray = ls at hl ⊢
  have hl : lv_has ls 4 [(0, .ref h), (1, .int a)] := hl
  obtain ⟨tp, cd, cl, g1, g2, g3, xs, v32, v33, v34, hh, hxs, hp1, hp2, hp8, hp9, hp13, hp24, hp25, hp29, hp31, hp43, hp53, ⟨hp32, hp33, hp34⟩, htp, hcd, hcl⟩ := id hM
  refine lv_aload_n G.1 G.2.1 dX12_winters_0 rfl (lv_at hl 0 rfl) ?_
  refine py_get (C := RX12) (T := TX12) (N := 54) (k := 25) (v := .int 0) G hw in_X12_winters_X12 rfl hh (by decide) (by decide +kernel) hp25 dX12_winters_1 ?_
  refine lv_if_eq (tgt := 28) G.1 G.2.1 dX12_winters_4 (by decide) (fun c_1 => ?_) (fun c_1 => ?_)
  · skip
    refine lv_iconst (v := (-1)) G.1 G.2.1 dX12_winters_28 (by decide) ?_
    exact py_iret G hr rfl hlk hw rfl dX12_winters_29
  · skip
    exact absurd c_1 (by decide)

def w_X12_spring : List Cond := .code yX12_spring cX12_spring 1 (some .int) :: ([Cond.fieldLink RX12 290 "HeadYearModel" "families" "I"] ++ (u_ws RX12 TX12 54 ++ ([])))
theorem in_X12_spring_X12 : ∀ w ∈ u_ws RX12 TX12 54, w ∈ w_X12_spring := fun _ h => List.mem_cons_of_mem _ (List.mem_append_right _ (List.mem_append_left _ h))
set_option maxHeartbeats 4000000 in
set_option maxRecDepth 100000 in
theorem c_X12_spring (l : Launch) (E : py_E) (L : List Nat) (f : py_F) (sz : Nat) (h : Nat) (hM : fr_M E L f h) : Met l yX12_spring w_X12_spring ({ frames := 0, cells := 0, slots := 0, locals := 0 }) (py_Pc E [.ref h] L f sz) (py_Qi E L f sz (fun r _ _ => r = -1)) 0 0 (va_A (va_pl L f) sz) := by
  refine Met.ofW (cc := cX12_spring) (maxL := 1) (ret := (some .int)) (by decide) rfl ?_
  intro p e s m args below meth c s₁ B hml hv
  obtain ⟨rfl, rfl, hw⟩ := py_start hv
  have G : CallFix p m c cX12_spring 1 s _ w_X12_spring RX12 := ⟨B.exec, B.bytes, hml, findClass_of_methodNamed B.named, atoms_spec (ws := w_X12_spring) B.pre⟩
  have hr := B.returns
  have hlk := B.notSynchronized
  have hl := lv_entry ([.ref h]) (n := 1) (Nat.le_of_ble_eq_true rfl)
  rw [lg_entry_eq]
  generalize (lg_sl ([.ref h]) ++ List.replicate (1 - (lg_sl ([.ref h])).length) Slot.unset).toArray = ls at hl ⊢
  have hl : lv_has ls 1 [(0, .ref h)] := hl
  obtain ⟨tp, cd, cl, g1, g2, g3, xs, v32, v33, v34, hh, hxs, hp1, hp2, hp8, hp9, hp13, hp24, hp25, hp29, hp31, hp43, hp53, ⟨hp32, hp33, hp34⟩, htp, hcd, hcl⟩ := id hM
  refine lv_aload_n G.1 G.2.1 dX12_spring_0 rfl (lv_at hl 0 rfl) ?_
  refine py_get (C := RX12) (T := TX12) (N := 54) (k := 25) (v := .int 0) G hw in_X12_spring_X12 rfl hh (by decide) (by decide +kernel) hp25 dX12_spring_1 ?_
  refine lv_if_ne (tgt := 9) G.1 G.2.1 dX12_spring_4 (by decide) (fun c_1 => ?_) (fun c_1 => ?_)
  · skip
    exact absurd c_1 (by decide)
  · skip
    refine lv_iconst (v := (-1)) G.1 G.2.1 dX12_spring_7 (by decide) ?_
    exact py_iret G hr rfl hlk hw rfl dX12_spring_8

def w_X12_buy : List Cond := .code yX12_buy cX12_buy 4 (some .int) :: ([Cond.methodLink RX12 347 yX12_isFamily, Cond.instanceMethod yX12_isFamily, Cond.selects RX12 yX12_isFamily yX12_isFamily, Cond.initialized RX12] ++ (w_X12_isFamily ++ ([])))
theorem gg_X12_buy_X12_isFamily : GoodIn w_X12_buy w_X12_isFamily := goodIn_sub (fun _ h => List.mem_cons_of_mem _ (List.mem_append_right _ (List.mem_append_left _ h))) (by decide +kernel)
theorem g_X12_buy_X12_isFamily_347 : GoodIn w_X12_buy (wsV RX12 347 RX12 yX12_isFamily w_X12_isFamily) := goodIn_app (goodIn_of _ (by decide +kernel)) gg_X12_buy_X12_isFamily
set_option maxHeartbeats 4000000 in
set_option maxRecDepth 100000 in
theorem c_X12_buy (l : Launch) (E : py_E) (L : List Nat) (f : py_F) (sz : Nat) (h : Nat) (a : Int32) (b : Int32) (hM : fr_M E L f h) : Met l yX12_buy w_X12_buy ({ frames := 2, cells := 0, slots := 0, locals := 43 }) (py_Pc E [.ref h, .int a, .int b] L f sz) (py_Qi E L f sz (fun r _ _ => r = -1)) 0 0 (va_A (va_pl L f) sz) := by
  refine Met.ofW (cc := cX12_buy) (maxL := 4) (ret := (some .int)) (by decide) rfl ?_
  intro p e s m args below meth c s₁ B hml hv
  obtain ⟨rfl, rfl, hw⟩ := py_start hv
  have G : CallFix p m c cX12_buy 4 s _ w_X12_buy RX12 := ⟨B.exec, B.bytes, hml, findClass_of_methodNamed B.named, atoms_spec (ws := w_X12_buy) B.pre⟩
  have hr := B.returns
  have hlk := B.notSynchronized
  have hl := lv_entry ([.ref h, .int a, .int b]) (n := 4) (Nat.le_of_ble_eq_true rfl)
  rw [lg_entry_eq]
  generalize (lg_sl ([.ref h, .int a, .int b]) ++ List.replicate (4 - (lg_sl ([.ref h, .int a, .int b])).length) Slot.unset).toArray = ls at hl ⊢
  have hl : lv_has ls 4 [(0, .ref h), (1, .int a), (2, .int b)] := hl
  obtain ⟨tp, cd, cl, g1, g2, g3, xs, v32, v33, v34, hh, hxs, hp1, hp2, hp8, hp9, hp13, hp24, hp25, hp29, hp31, hp43, hp53, ⟨hp32, hp33, hp34⟩, htp, hcd, hcl⟩ := id hM
  refine lv_aload_n G.1 G.2.1 dX12_buy_0 rfl (lv_at hl 0 rfl) ?_
  refine lv_iload_n G.1 G.2.1 dX12_buy_1 rfl (lv_at hl 1 rfl) ?_
  refine py_calli hw (va_runV (As := [.int a]) (rest := []) G (c_X12_isFamily l E L f s.heap.size h a hM) (cwV 1 G.2.2.2.2 g_X12_buy_X12_isFamily_347 rfl rfl rfl (by decide +kernel) ⟨(Nat.le_of_ble_eq_true rfl), (Nat.le_of_ble_eq_true rfl)⟩) (py_preV hw (C := RX12) (T := TX12) (N := 54) rfl hh) rfl rfl hl.1 rfl (lv_room (Nat.le_of_ble_eq_true rfl)) dX12_buy_2 ⟨(Nat.le_of_ble_eq_true rfl), (Nat.le_of_ble_eq_true rfl)⟩) (fun r_5 L_1 f_2 H_3 locs hp_4 hw => ?_)
  obtain ⟨rfl, rfl, rfl⟩ := hp_4
  refine lv_if_eq (tgt := 57) G.1 G.2.1 dX12_buy_5 (by decide) (fun c_6 => ?_) (fun c_6 => ?_)
  · skip
    refine lv_iconst (v := (-1)) G.1 G.2.1 dX12_buy_57 (by decide) ?_
    exact py_iret G hr rfl hlk hw rfl dX12_buy_58
  · skip
    exact absurd c_6 (by decide)

def w_X12_undo : List Cond := .code yX12_undo cX12_undo 2 (some .int) :: ([Cond.fieldLink RX12 312 "HeadYearModel" "buys" "I"] ++ (u_ws RX12 TX12 54 ++ ([])))
theorem in_X12_undo_X12 : ∀ w ∈ u_ws RX12 TX12 54, w ∈ w_X12_undo := fun _ h => List.mem_cons_of_mem _ (List.mem_append_right _ (List.mem_append_left _ h))
set_option maxHeartbeats 4000000 in
set_option maxRecDepth 100000 in
theorem c_X12_undo (l : Launch) (E : py_E) (L : List Nat) (f : py_F) (sz : Nat) (h : Nat) (hM : fr_M E L f h) : Met l yX12_undo w_X12_undo ({ frames := 0, cells := 0, slots := 0, locals := 0 }) (py_Pc E [.ref h] L f sz) (py_Qi E L f sz (fun r _ _ => r = -1)) 0 0 (va_A (va_pl L f) sz) := by
  refine Met.ofW (cc := cX12_undo) (maxL := 2) (ret := (some .int)) (by decide) rfl ?_
  intro p e s m args below meth c s₁ B hml hv
  obtain ⟨rfl, rfl, hw⟩ := py_start hv
  have G : CallFix p m c cX12_undo 2 s _ w_X12_undo RX12 := ⟨B.exec, B.bytes, hml, findClass_of_methodNamed B.named, atoms_spec (ws := w_X12_undo) B.pre⟩
  have hr := B.returns
  have hlk := B.notSynchronized
  have hl := lv_entry ([.ref h]) (n := 2) (Nat.le_of_ble_eq_true rfl)
  rw [lg_entry_eq]
  generalize (lg_sl ([.ref h]) ++ List.replicate (2 - (lg_sl ([.ref h])).length) Slot.unset).toArray = ls at hl ⊢
  have hl : lv_has ls 2 [(0, .ref h)] := hl
  obtain ⟨tp, cd, cl, g1, g2, g3, xs, v32, v33, v34, hh, hxs, hp1, hp2, hp8, hp9, hp13, hp24, hp25, hp29, hp31, hp43, hp53, ⟨hp32, hp33, hp34⟩, htp, hcd, hcl⟩ := id hM
  refine lv_aload_n G.1 G.2.1 dX12_undo_0 rfl (lv_at hl 0 rfl) ?_
  refine py_get (C := RX12) (T := TX12) (N := 54) (k := 43) (v := .int 0) G hw in_X12_undo_X12 rfl hh (by decide) (by decide +kernel) hp43 dX12_undo_1 ?_
  refine lv_if_ne (tgt := 9) G.1 G.2.1 dX12_undo_4 (by decide) (fun c_1 => ?_) (fun c_1 => ?_)
  · skip
    exact absurd c_1 (by decide)
  · skip
    refine lv_iconst (v := (-1)) G.1 G.2.1 dX12_undo_7 (by decide) ?_
    exact py_iret G hr rfl hlk hw rfl dX12_undo_8

def w_X12_hush : List Cond := .code yX12_hush cX12_hush 3 (some .boolean) :: ([Cond.methodLink RX12 347 yX12_isFamily, Cond.instanceMethod yX12_isFamily, Cond.selects RX12 yX12_isFamily yX12_isFamily, Cond.initialized RX12] ++ (w_X12_isFamily ++ ([])))
theorem gg_X12_hush_X12_isFamily : GoodIn w_X12_hush w_X12_isFamily := goodIn_sub (fun _ h => List.mem_cons_of_mem _ (List.mem_append_right _ (List.mem_append_left _ h))) (by decide +kernel)
theorem g_X12_hush_X12_isFamily_347 : GoodIn w_X12_hush (wsV RX12 347 RX12 yX12_isFamily w_X12_isFamily) := goodIn_app (goodIn_of _ (by decide +kernel)) gg_X12_hush_X12_isFamily
set_option maxHeartbeats 4000000 in
set_option maxRecDepth 100000 in
theorem c_X12_hush (l : Launch) (E : py_E) (L : List Nat) (f : py_F) (sz : Nat) (h : Nat) (a : Int32) (b : Int32) (hM : fr_M E L f h) : Met l yX12_hush w_X12_hush ({ frames := 2, cells := 0, slots := 0, locals := 43 }) (py_Pc E [.ref h, .int a, .int b] L f sz) (py_Qi E L f sz (fun r _ _ => r = 0)) 0 0 (va_A (va_pl L f) sz) := by
  refine Met.ofW (cc := cX12_hush) (maxL := 3) (ret := (some .boolean)) (by decide) rfl ?_
  intro p e s m args below meth c s₁ B hml hv
  obtain ⟨rfl, rfl, hw⟩ := py_start hv
  have G : CallFix p m c cX12_hush 3 s _ w_X12_hush RX12 := ⟨B.exec, B.bytes, hml, findClass_of_methodNamed B.named, atoms_spec (ws := w_X12_hush) B.pre⟩
  have hr := B.returns
  have hlk := B.notSynchronized
  have hl := lv_entry ([.ref h, .int a, .int b]) (n := 3) (Nat.le_of_ble_eq_true rfl)
  rw [lg_entry_eq]
  generalize (lg_sl ([.ref h, .int a, .int b]) ++ List.replicate (3 - (lg_sl ([.ref h, .int a, .int b])).length) Slot.unset).toArray = ls at hl ⊢
  have hl : lv_has ls 3 [(0, .ref h), (1, .int a), (2, .int b)] := hl
  obtain ⟨tp, cd, cl, g1, g2, g3, xs, v32, v33, v34, hh, hxs, hp1, hp2, hp8, hp9, hp13, hp24, hp25, hp29, hp31, hp43, hp53, ⟨hp32, hp33, hp34⟩, htp, hcd, hcl⟩ := id hM
  refine lv_aload_n G.1 G.2.1 dX12_hush_0 rfl (lv_at hl 0 rfl) ?_
  refine lv_iload_n G.1 G.2.1 dX12_hush_1 rfl (lv_at hl 1 rfl) ?_
  refine py_calli hw (va_runV (As := [.int a]) (rest := []) G (c_X12_isFamily l E L f s.heap.size h a hM) (cwV 1 G.2.2.2.2 g_X12_hush_X12_isFamily_347 rfl rfl rfl (by decide +kernel) ⟨(Nat.le_of_ble_eq_true rfl), (Nat.le_of_ble_eq_true rfl)⟩) (py_preV hw (C := RX12) (T := TX12) (N := 54) rfl hh) rfl rfl hl.1 rfl (lv_room (Nat.le_of_ble_eq_true rfl)) dX12_hush_2 ⟨(Nat.le_of_ble_eq_true rfl), (Nat.le_of_ble_eq_true rfl)⟩) (fun r_5 L_1 f_2 H_3 locs hp_4 hw => ?_)
  obtain ⟨rfl, rfl, rfl⟩ := hp_4
  refine lv_if_eq (tgt := 36) G.1 G.2.1 dX12_hush_5 (by decide) (fun c_6 => ?_) (fun c_6 => ?_)
  · skip
    refine lv_iconst (v := 0) G.1 G.2.1 dX12_hush_36 (by decide) ?_
    exact py_iret G hr rfl hlk hw rfl dX12_hush_37
  · skip
    exact absurd c_6 (by decide)

def w_X12_waiting : List Cond := .code yX12_waiting cX12_waiting 1 (some .int) :: ([Cond.fieldLink RX12 290 "HeadYearModel" "families" "I"] ++ (u_ws RX12 TX12 54 ++ ([])))
theorem in_X12_waiting_X12 : ∀ w ∈ u_ws RX12 TX12 54, w ∈ w_X12_waiting := fun _ h => List.mem_cons_of_mem _ (List.mem_append_right _ (List.mem_append_left _ h))
set_option maxHeartbeats 4000000 in
set_option maxRecDepth 100000 in
theorem c_X12_waiting (l : Launch) (E : py_E) (L : List Nat) (f : py_F) (sz : Nat) (h : Nat) (hM : fr_M E L f h) : Met l yX12_waiting w_X12_waiting ({ frames := 0, cells := 0, slots := 0, locals := 0 }) (py_Pc E [.ref h] L f sz) (py_Qi E L f sz (fun r _ _ => r = -1)) 0 0 (va_A (va_pl L f) sz) := by
  refine Met.ofW (cc := cX12_waiting) (maxL := 1) (ret := (some .int)) (by decide) rfl ?_
  intro p e s m args below meth c s₁ B hml hv
  obtain ⟨rfl, rfl, hw⟩ := py_start hv
  have G : CallFix p m c cX12_waiting 1 s _ w_X12_waiting RX12 := ⟨B.exec, B.bytes, hml, findClass_of_methodNamed B.named, atoms_spec (ws := w_X12_waiting) B.pre⟩
  have hr := B.returns
  have hlk := B.notSynchronized
  have hl := lv_entry ([.ref h]) (n := 1) (Nat.le_of_ble_eq_true rfl)
  rw [lg_entry_eq]
  generalize (lg_sl ([.ref h]) ++ List.replicate (1 - (lg_sl ([.ref h])).length) Slot.unset).toArray = ls at hl ⊢
  have hl : lv_has ls 1 [(0, .ref h)] := hl
  obtain ⟨tp, cd, cl, g1, g2, g3, xs, v32, v33, v34, hh, hxs, hp1, hp2, hp8, hp9, hp13, hp24, hp25, hp29, hp31, hp43, hp53, ⟨hp32, hp33, hp34⟩, htp, hcd, hcl⟩ := id hM
  refine lv_aload_n G.1 G.2.1 dX12_waiting_0 rfl (lv_at hl 0 rfl) ?_
  refine py_get (C := RX12) (T := TX12) (N := 54) (k := 25) (v := .int 0) G hw in_X12_waiting_X12 rfl hh (by decide) (by decide +kernel) hp25 dX12_waiting_1 ?_
  refine lv_if_ne (tgt := 11) G.1 G.2.1 dX12_waiting_4 (by decide) (fun c_1 => ?_) (fun c_1 => ?_)
  · skip
    exact absurd c_1 (by decide)
  · skip
    refine lv_iconst (v := (-1)) G.1 G.2.1 dX12_waiting_7 (by decide) ?_
    refine lv_goto (tgt := 15) G.1 G.2.1 dX12_waiting_8 (by decide) ?_
    exact py_iret G hr rfl hlk hw rfl dX12_waiting_15

def w_X12_most : List Cond := .code yX12_most cX12_most 5 (some .int) :: ([Cond.fieldLink RX12 290 "HeadYearModel" "families" "I"] ++ (u_ws RX12 TX12 54 ++ ([])))
theorem in_X12_most_X12 : ∀ w ∈ u_ws RX12 TX12 54, w ∈ w_X12_most := fun _ h => List.mem_cons_of_mem _ (List.mem_append_right _ (List.mem_append_left _ h))
set_option maxHeartbeats 4000000 in
set_option maxRecDepth 100000 in
theorem c_X12_most (l : Launch) (E : py_E) (L : List Nat) (f : py_F) (sz : Nat) (h : Nat) (a : Int32) (hM : fr_M E L f h) : Met l yX12_most w_X12_most ({ frames := 0, cells := 0, slots := 0, locals := 0 }) (py_Pc E [.ref h, .int a] L f sz) (py_Qi E L f sz (fun r _ _ => r = -1)) 0 0 (va_A (va_pl L f) sz) := by
  refine Met.ofW (cc := cX12_most) (maxL := 5) (ret := (some .int)) (by decide) rfl ?_
  intro p e s m args below meth c s₁ B hml hv
  obtain ⟨rfl, rfl, hw⟩ := py_start hv
  have G : CallFix p m c cX12_most 5 s _ w_X12_most RX12 := ⟨B.exec, B.bytes, hml, findClass_of_methodNamed B.named, atoms_spec (ws := w_X12_most) B.pre⟩
  have hr := B.returns
  have hlk := B.notSynchronized
  have hl := lv_entry ([.ref h, .int a]) (n := 5) (Nat.le_of_ble_eq_true rfl)
  rw [lg_entry_eq]
  generalize (lg_sl ([.ref h, .int a]) ++ List.replicate (5 - (lg_sl ([.ref h, .int a])).length) Slot.unset).toArray = ls at hl ⊢
  have hl : lv_has ls 5 [(0, .ref h), (1, .int a)] := hl
  obtain ⟨tp, cd, cl, g1, g2, g3, xs, v32, v33, v34, hh, hxs, hp1, hp2, hp8, hp9, hp13, hp24, hp25, hp29, hp31, hp43, hp53, ⟨hp32, hp33, hp34⟩, htp, hcd, hcl⟩ := id hM
  refine lv_aload_n G.1 G.2.1 dX12_most_0 rfl (lv_at hl 0 rfl) ?_
  refine py_get (C := RX12) (T := TX12) (N := 54) (k := 25) (v := .int 0) G hw in_X12_most_X12 rfl hh (by decide) (by decide +kernel) hp25 dX12_most_1 ?_
  refine lv_if_eq (tgt := 16) G.1 G.2.1 dX12_most_4 (by decide) (fun c_1 => ?_) (fun c_1 => ?_)
  · skip
    refine lv_iconst (v := (-1)) G.1 G.2.1 dX12_most_16 (by decide) ?_
    exact py_iret G hr rfl hlk hw rfl dX12_most_17
  · skip
    exact absurd c_1 (by decide)

def w_X12_needs : List Cond := .code yX12_needs cX12_needs 4 (some .int) :: ([Cond.methodLink RX12 347 yX12_isFamily, Cond.instanceMethod yX12_isFamily, Cond.selects RX12 yX12_isFamily yX12_isFamily, Cond.initialized RX12] ++ (w_X12_isFamily ++ ([])))
theorem gg_X12_needs_X12_isFamily : GoodIn w_X12_needs w_X12_isFamily := goodIn_sub (fun _ h => List.mem_cons_of_mem _ (List.mem_append_right _ (List.mem_append_left _ h))) (by decide +kernel)
theorem g_X12_needs_X12_isFamily_347 : GoodIn w_X12_needs (wsV RX12 347 RX12 yX12_isFamily w_X12_isFamily) := goodIn_app (goodIn_of _ (by decide +kernel)) gg_X12_needs_X12_isFamily
set_option maxHeartbeats 4000000 in
set_option maxRecDepth 100000 in
theorem c_X12_needs (l : Launch) (E : py_E) (L : List Nat) (f : py_F) (sz : Nat) (h : Nat) (a : Int32) (hM : fr_M E L f h) : Met l yX12_needs w_X12_needs ({ frames := 2, cells := 0, slots := 0, locals := 43 }) (py_Pc E [.ref h, .int a] L f sz) (py_Qi E L f sz (fun r _ _ => r = -1)) 0 0 (va_A (va_pl L f) sz) := by
  refine Met.ofW (cc := cX12_needs) (maxL := 4) (ret := (some .int)) (by decide) rfl ?_
  intro p e s m args below meth c s₁ B hml hv
  obtain ⟨rfl, rfl, hw⟩ := py_start hv
  have G : CallFix p m c cX12_needs 4 s _ w_X12_needs RX12 := ⟨B.exec, B.bytes, hml, findClass_of_methodNamed B.named, atoms_spec (ws := w_X12_needs) B.pre⟩
  have hr := B.returns
  have hlk := B.notSynchronized
  have hl := lv_entry ([.ref h, .int a]) (n := 4) (Nat.le_of_ble_eq_true rfl)
  rw [lg_entry_eq]
  generalize (lg_sl ([.ref h, .int a]) ++ List.replicate (4 - (lg_sl ([.ref h, .int a])).length) Slot.unset).toArray = ls at hl ⊢
  have hl : lv_has ls 4 [(0, .ref h), (1, .int a)] := hl
  obtain ⟨tp, cd, cl, g1, g2, g3, xs, v32, v33, v34, hh, hxs, hp1, hp2, hp8, hp9, hp13, hp24, hp25, hp29, hp31, hp43, hp53, ⟨hp32, hp33, hp34⟩, htp, hcd, hcl⟩ := id hM
  refine lv_aload_n G.1 G.2.1 dX12_needs_0 rfl (lv_at hl 0 rfl) ?_
  refine lv_iload_n G.1 G.2.1 dX12_needs_1 rfl (lv_at hl 1 rfl) ?_
  refine py_calli hw (va_runV (As := [.int a]) (rest := []) G (c_X12_isFamily l E L f s.heap.size h a hM) (cwV 1 G.2.2.2.2 g_X12_needs_X12_isFamily_347 rfl rfl rfl (by decide +kernel) ⟨(Nat.le_of_ble_eq_true rfl), (Nat.le_of_ble_eq_true rfl)⟩) (py_preV hw (C := RX12) (T := TX12) (N := 54) rfl hh) rfl rfl hl.1 rfl (lv_room (Nat.le_of_ble_eq_true rfl)) dX12_needs_2 ⟨(Nat.le_of_ble_eq_true rfl), (Nat.le_of_ble_eq_true rfl)⟩) (fun r_5 L_1 f_2 H_3 locs hp_4 hw => ?_)
  obtain ⟨rfl, rfl, rfl⟩ := hp_4
  refine lv_if_eq (tgt := 16) G.1 G.2.1 dX12_needs_5 (by decide) (fun c_6 => ?_) (fun c_6 => ?_)
  · skip
    refine lv_iconst (v := (-1)) G.1 G.2.1 dX12_needs_16 (by decide) ?_
    exact py_iret G hr rfl hlk hw rfl dX12_needs_17
  · skip
    exact absurd c_6 (by decide)

def w_X12_tried : List Cond := .code yX12_tried cX12_tried 5 (some .int) :: ([Cond.methodLink RX12 441 yX12_isTrial, Cond.instanceMethod yX12_isTrial, Cond.selects RX12 yX12_isTrial yX12_isTrial, Cond.initialized RX12, Cond.constant RX12 350 (-1000000)] ++ (w_X12_isTrial ++ ([])))
theorem gg_X12_tried_X12_isTrial : GoodIn w_X12_tried w_X12_isTrial := goodIn_sub (fun _ h => List.mem_cons_of_mem _ (List.mem_append_right _ (List.mem_append_left _ h))) (by decide +kernel)
theorem g_X12_tried_X12_isTrial_441 : GoodIn w_X12_tried (wsV RX12 441 RX12 yX12_isTrial w_X12_isTrial) := goodIn_app (goodIn_of _ (by decide +kernel)) gg_X12_tried_X12_isTrial
set_option maxHeartbeats 4000000 in
set_option maxRecDepth 100000 in
theorem c_X12_tried (l : Launch) (E : py_E) (L : List Nat) (f : py_F) (sz : Nat) (h : Nat) (a : Int32) (b : Int32) (q : Int32) (d : Int32) (hM : fr_M E L f h) : Met l yX12_tried w_X12_tried ({ frames := 1, cells := 0, slots := 0, locals := 22 }) (py_Pc E [.ref h, .int a, .int b, .int q, .int d] L f sz) (py_Qi E L f sz (fun r _ _ => r = -1000000)) 0 0 (va_A (va_pl L f) sz) := by
  refine Met.ofW (cc := cX12_tried) (maxL := 5) (ret := (some .int)) (by decide) rfl ?_
  intro p e s m args below meth c s₁ B hml hv
  obtain ⟨rfl, rfl, hw⟩ := py_start hv
  have G : CallFix p m c cX12_tried 5 s _ w_X12_tried RX12 := ⟨B.exec, B.bytes, hml, findClass_of_methodNamed B.named, atoms_spec (ws := w_X12_tried) B.pre⟩
  have hr := B.returns
  have hlk := B.notSynchronized
  have hl := lv_entry ([.ref h, .int a, .int b, .int q, .int d]) (n := 5) (Nat.le_of_ble_eq_true rfl)
  rw [lg_entry_eq]
  generalize (lg_sl ([.ref h, .int a, .int b, .int q, .int d]) ++ List.replicate (5 - (lg_sl ([.ref h, .int a, .int b, .int q, .int d])).length) Slot.unset).toArray = ls at hl ⊢
  have hl : lv_has ls 5 [(0, .ref h), (1, .int a), (2, .int b), (3, .int q), (4, .int d)] := hl
  obtain ⟨tp, cd, cl, g1, g2, g3, xs, v32, v33, v34, hh, hxs, hp1, hp2, hp8, hp9, hp13, hp24, hp25, hp29, hp31, hp43, hp53, ⟨hp32, hp33, hp34⟩, htp, hcd, hcl⟩ := id hM
  refine lv_aload_n G.1 G.2.1 dX12_tried_0 rfl (lv_at hl 0 rfl) ?_
  refine lv_iload_n G.1 G.2.1 dX12_tried_1 rfl (lv_at hl 2 rfl) ?_
  refine lv_iload_n G.1 G.2.1 dX12_tried_2 rfl (lv_at hl 3 rfl) ?_
  refine py_calli hw (va_runV (As := [.int b, .int q]) (rest := []) G (c_X12_isTrial l E L f s.heap.size h b q hM) (cwV 2 G.2.2.2.2 g_X12_tried_X12_isTrial_441 rfl rfl rfl (by decide +kernel) ⟨(Nat.le_of_ble_eq_true rfl), (Nat.le_of_ble_eq_true rfl)⟩) (py_preV hw (C := RX12) (T := TX12) (N := 54) rfl hh) rfl rfl hl.1 rfl (lv_room (Nat.le_of_ble_eq_true rfl)) dX12_tried_3 ⟨(Nat.le_of_ble_eq_true rfl), (Nat.le_of_ble_eq_true rfl)⟩) (fun r_5 L_1 f_2 H_3 locs hp_4 hw => ?_)
  obtain ⟨rfl, rfl, rfl⟩ := hp_4
  refine lv_if_eq (tgt := 45) G.1 G.2.1 dX12_tried_6 (by decide) (fun c_6 => ?_) (fun c_6 => ?_)
  · skip
    refine lv_ldcw (v := (-1000000)) G.1 G.2.1 G.2.2.2.1 (G.2.2.2.2 (Cond.constant RX12 350 (-1000000)) (by decide +kernel)) dX12_tried_45 ?_
    exact py_iret G hr rfl hlk hw rfl dX12_tried_48
  · skip
    exact absurd c_6 (by decide)

def w_X12_reform : List Cond := .code yX12_reform cX12_reform 7 (some .int) :: ([Cond.methodLink RX12 441 yX12_isTrial, Cond.instanceMethod yX12_isTrial, Cond.selects RX12 yX12_isTrial yX12_isTrial, Cond.initialized RX12, Cond.constant RX12 350 (-1000000)] ++ (w_X12_isTrial ++ ([])))
theorem gg_X12_reform_X12_isTrial : GoodIn w_X12_reform w_X12_isTrial := goodIn_sub (fun _ h => List.mem_cons_of_mem _ (List.mem_append_right _ (List.mem_append_left _ h))) (by decide +kernel)
theorem g_X12_reform_X12_isTrial_441 : GoodIn w_X12_reform (wsV RX12 441 RX12 yX12_isTrial w_X12_isTrial) := goodIn_app (goodIn_of _ (by decide +kernel)) gg_X12_reform_X12_isTrial
set_option maxHeartbeats 4000000 in
set_option maxRecDepth 100000 in
theorem c_X12_reform (l : Launch) (E : py_E) (L : List Nat) (f : py_F) (sz : Nat) (h : Nat) (a : Int32) (b : Int32) (hM : fr_M E L f h) : Met l yX12_reform w_X12_reform ({ frames := 1, cells := 0, slots := 0, locals := 22 }) (py_Pc E [.ref h, .int a, .int b] L f sz) (py_Qi E L f sz (fun r _ _ => r = -1000000)) 0 0 (va_A (va_pl L f) sz) := by
  refine Met.ofW (cc := cX12_reform) (maxL := 7) (ret := (some .int)) (by decide) rfl ?_
  intro p e s m args below meth c s₁ B hml hv
  obtain ⟨rfl, rfl, hw⟩ := py_start hv
  have G : CallFix p m c cX12_reform 7 s _ w_X12_reform RX12 := ⟨B.exec, B.bytes, hml, findClass_of_methodNamed B.named, atoms_spec (ws := w_X12_reform) B.pre⟩
  have hr := B.returns
  have hlk := B.notSynchronized
  have hl := lv_entry ([.ref h, .int a, .int b]) (n := 7) (Nat.le_of_ble_eq_true rfl)
  rw [lg_entry_eq]
  generalize (lg_sl ([.ref h, .int a, .int b]) ++ List.replicate (7 - (lg_sl ([.ref h, .int a, .int b])).length) Slot.unset).toArray = ls at hl ⊢
  have hl : lv_has ls 7 [(0, .ref h), (1, .int a), (2, .int b)] := hl
  obtain ⟨tp, cd, cl, g1, g2, g3, xs, v32, v33, v34, hh, hxs, hp1, hp2, hp8, hp9, hp13, hp24, hp25, hp29, hp31, hp43, hp53, ⟨hp32, hp33, hp34⟩, htp, hcd, hcl⟩ := id hM
  refine lv_aload_n G.1 G.2.1 dX12_reform_0 rfl (lv_at hl 0 rfl) ?_
  refine lv_iload_n G.1 G.2.1 dX12_reform_1 rfl (lv_at hl 1 rfl) ?_
  refine lv_iload_n G.1 G.2.1 dX12_reform_2 rfl (lv_at hl 2 rfl) ?_
  refine py_calli hw (va_runV (As := [.int a, .int b]) (rest := []) G (c_X12_isTrial l E L f s.heap.size h a b hM) (cwV 2 G.2.2.2.2 g_X12_reform_X12_isTrial_441 rfl rfl rfl (by decide +kernel) ⟨(Nat.le_of_ble_eq_true rfl), (Nat.le_of_ble_eq_true rfl)⟩) (py_preV hw (C := RX12) (T := TX12) (N := 54) rfl hh) rfl rfl hl.1 rfl (lv_room (Nat.le_of_ble_eq_true rfl)) dX12_reform_3 ⟨(Nat.le_of_ble_eq_true rfl), (Nat.le_of_ble_eq_true rfl)⟩) (fun r_5 L_1 f_2 H_3 locs hp_4 hw => ?_)
  obtain ⟨rfl, rfl, rfl⟩ := hp_4
  refine lv_if_ne (tgt := 13) G.1 G.2.1 dX12_reform_6 (by decide) (fun c_6 => ?_) (fun c_6 => ?_)
  · skip
    exact absurd c_6 (by decide)
  · skip
    refine lv_ldcw (v := (-1000000)) G.1 G.2.1 G.2.2.2.1 (G.2.2.2.2 (Cond.constant RX12 350 (-1000000)) (by decide +kernel)) dX12_reform_9 ?_
    exact py_iret G hr rfl hlk hw rfl dX12_reform_12

def w_X12_diary : List Cond := .code yX12_diary cX12_diary 4 (some .int) :: ([Cond.methodLink RX12 347 yX12_isFamily, Cond.instanceMethod yX12_isFamily, Cond.selects RX12 yX12_isFamily yX12_isFamily, Cond.initialized RX12, Cond.constant RX12 350 (-1000000)] ++ (w_X12_isFamily ++ ([])))
theorem gg_X12_diary_X12_isFamily : GoodIn w_X12_diary w_X12_isFamily := goodIn_sub (fun _ h => List.mem_cons_of_mem _ (List.mem_append_right _ (List.mem_append_left _ h))) (by decide +kernel)
theorem g_X12_diary_X12_isFamily_347 : GoodIn w_X12_diary (wsV RX12 347 RX12 yX12_isFamily w_X12_isFamily) := goodIn_app (goodIn_of _ (by decide +kernel)) gg_X12_diary_X12_isFamily
set_option maxHeartbeats 4000000 in
set_option maxRecDepth 100000 in
theorem c_X12_diary (l : Launch) (E : py_E) (L : List Nat) (f : py_F) (sz : Nat) (h : Nat) (a : Int32) (b : Int32) (q : Int32) (hM : fr_M E L f h) : Met l yX12_diary w_X12_diary ({ frames := 2, cells := 0, slots := 0, locals := 43 }) (py_Pc E [.ref h, .int a, .int b, .int q] L f sz) (py_Qi E L f sz (fun r _ _ => r = -1000000)) 0 0 (va_A (va_pl L f) sz) := by
  refine Met.ofW (cc := cX12_diary) (maxL := 4) (ret := (some .int)) (by decide) rfl ?_
  intro p e s m args below meth c s₁ B hml hv
  obtain ⟨rfl, rfl, hw⟩ := py_start hv
  have G : CallFix p m c cX12_diary 4 s _ w_X12_diary RX12 := ⟨B.exec, B.bytes, hml, findClass_of_methodNamed B.named, atoms_spec (ws := w_X12_diary) B.pre⟩
  have hr := B.returns
  have hlk := B.notSynchronized
  have hl := lv_entry ([.ref h, .int a, .int b, .int q]) (n := 4) (Nat.le_of_ble_eq_true rfl)
  rw [lg_entry_eq]
  generalize (lg_sl ([.ref h, .int a, .int b, .int q]) ++ List.replicate (4 - (lg_sl ([.ref h, .int a, .int b, .int q])).length) Slot.unset).toArray = ls at hl ⊢
  have hl : lv_has ls 4 [(0, .ref h), (1, .int a), (2, .int b), (3, .int q)] := hl
  obtain ⟨tp, cd, cl, g1, g2, g3, xs, v32, v33, v34, hh, hxs, hp1, hp2, hp8, hp9, hp13, hp24, hp25, hp29, hp31, hp43, hp53, ⟨hp32, hp33, hp34⟩, htp, hcd, hcl⟩ := id hM
  refine lv_aload_n G.1 G.2.1 dX12_diary_0 rfl (lv_at hl 0 rfl) ?_
  refine lv_iload_n G.1 G.2.1 dX12_diary_1 rfl (lv_at hl 1 rfl) ?_
  refine py_calli hw (va_runV (As := [.int a]) (rest := []) G (c_X12_isFamily l E L f s.heap.size h a hM) (cwV 1 G.2.2.2.2 g_X12_diary_X12_isFamily_347 rfl rfl rfl (by decide +kernel) ⟨(Nat.le_of_ble_eq_true rfl), (Nat.le_of_ble_eq_true rfl)⟩) (py_preV hw (C := RX12) (T := TX12) (N := 54) rfl hh) rfl rfl hl.1 rfl (lv_room (Nat.le_of_ble_eq_true rfl)) dX12_diary_2 ⟨(Nat.le_of_ble_eq_true rfl), (Nat.le_of_ble_eq_true rfl)⟩) (fun r_5 L_1 f_2 H_3 locs hp_4 hw => ?_)
  obtain ⟨rfl, rfl, rfl⟩ := hp_4
  refine lv_if_eq (tgt := 31) G.1 G.2.1 dX12_diary_5 (by decide) (fun c_6 => ?_) (fun c_6 => ?_)
  · skip
    refine lv_ldcw (v := (-1000000)) G.1 G.2.1 G.2.2.2.1 (G.2.2.2.2 (Cond.constant RX12 350 (-1000000)) (by decide +kernel)) dX12_diary_31 ?_
    exact py_iret G hr rfl hlk hw rfl dX12_diary_34
  · skip
    exact absurd c_6 (by decide)

def w_X12_climb : List Cond := .code yX12_climb cX12_climb 9 (some .int) :: ([Cond.methodLink RX12 347 yX12_isFamily, Cond.instanceMethod yX12_isFamily, Cond.selects RX12 yX12_isFamily yX12_isFamily, Cond.initialized RX12, Cond.constant RX12 350 (-1000000)] ++ (w_X12_isFamily ++ ([])))
theorem gg_X12_climb_X12_isFamily : GoodIn w_X12_climb w_X12_isFamily := goodIn_sub (fun _ h => List.mem_cons_of_mem _ (List.mem_append_right _ (List.mem_append_left _ h))) (by decide +kernel)
theorem g_X12_climb_X12_isFamily_347 : GoodIn w_X12_climb (wsV RX12 347 RX12 yX12_isFamily w_X12_isFamily) := goodIn_app (goodIn_of _ (by decide +kernel)) gg_X12_climb_X12_isFamily
set_option maxHeartbeats 4000000 in
set_option maxRecDepth 100000 in
theorem c_X12_climb (l : Launch) (E : py_E) (L : List Nat) (f : py_F) (sz : Nat) (h : Nat) (a : Int32) (b : Int32) (hM : fr_M E L f h) : Met l yX12_climb w_X12_climb ({ frames := 2, cells := 0, slots := 0, locals := 43 }) (py_Pc E [.ref h, .int a, .int b] L f sz) (py_Qi E L f sz (fun r _ _ => r = -1000000)) 0 0 (va_A (va_pl L f) sz) := by
  refine Met.ofW (cc := cX12_climb) (maxL := 9) (ret := (some .int)) (by decide) rfl ?_
  intro p e s m args below meth c s₁ B hml hv
  obtain ⟨rfl, rfl, hw⟩ := py_start hv
  have G : CallFix p m c cX12_climb 9 s _ w_X12_climb RX12 := ⟨B.exec, B.bytes, hml, findClass_of_methodNamed B.named, atoms_spec (ws := w_X12_climb) B.pre⟩
  have hr := B.returns
  have hlk := B.notSynchronized
  have hl := lv_entry ([.ref h, .int a, .int b]) (n := 9) (Nat.le_of_ble_eq_true rfl)
  rw [lg_entry_eq]
  generalize (lg_sl ([.ref h, .int a, .int b]) ++ List.replicate (9 - (lg_sl ([.ref h, .int a, .int b])).length) Slot.unset).toArray = ls at hl ⊢
  have hl : lv_has ls 9 [(0, .ref h), (1, .int a), (2, .int b)] := hl
  obtain ⟨tp, cd, cl, g1, g2, g3, xs, v32, v33, v34, hh, hxs, hp1, hp2, hp8, hp9, hp13, hp24, hp25, hp29, hp31, hp43, hp53, ⟨hp32, hp33, hp34⟩, htp, hcd, hcl⟩ := id hM
  refine lv_aload_n G.1 G.2.1 dX12_climb_0 rfl (lv_at hl 0 rfl) ?_
  refine lv_iload_n G.1 G.2.1 dX12_climb_1 rfl (lv_at hl 1 rfl) ?_
  refine py_calli hw (va_runV (As := [.int a]) (rest := []) G (c_X12_isFamily l E L f s.heap.size h a hM) (cwV 1 G.2.2.2.2 g_X12_climb_X12_isFamily_347 rfl rfl rfl (by decide +kernel) ⟨(Nat.le_of_ble_eq_true rfl), (Nat.le_of_ble_eq_true rfl)⟩) (py_preV hw (C := RX12) (T := TX12) (N := 54) rfl hh) rfl rfl hl.1 rfl (lv_room (Nat.le_of_ble_eq_true rfl)) dX12_climb_2 ⟨(Nat.le_of_ble_eq_true rfl), (Nat.le_of_ble_eq_true rfl)⟩) (fun r_5 L_1 f_2 H_3 locs hp_4 hw => ?_)
  obtain ⟨rfl, rfl, rfl⟩ := hp_4
  refine lv_if_eq (tgt := 17) G.1 G.2.1 dX12_climb_5 (by decide) (fun c_6 => ?_) (fun c_6 => ?_)
  · skip
    refine lv_ldcw (v := (-1000000)) G.1 G.2.1 G.2.2.2.1 (G.2.2.2.2 (Cond.constant RX12 350 (-1000000)) (by decide +kernel)) dX12_climb_17 ?_
    exact py_iret G hr rfl hlk hw rfl dX12_climb_20
  · skip
    exact absurd c_6 (by decide)

def w_X12_full : List Cond := .code yX12_full cX12_full 3 (some .int) :: ([Cond.fieldLink RX12 290 "HeadYearModel" "families" "I"] ++ (u_ws RX12 TX12 54 ++ ([])))
theorem in_X12_full_X12 : ∀ w ∈ u_ws RX12 TX12 54, w ∈ w_X12_full := fun _ h => List.mem_cons_of_mem _ (List.mem_append_right _ (List.mem_append_left _ h))
set_option maxHeartbeats 4000000 in
set_option maxRecDepth 100000 in
theorem c_X12_full (l : Launch) (E : py_E) (L : List Nat) (f : py_F) (sz : Nat) (h : Nat) (hM : fr_M E L f h) : Met l yX12_full w_X12_full ({ frames := 0, cells := 0, slots := 0, locals := 0 }) (py_Pc E [.ref h] L f sz) (py_Qi E L f sz (fun r _ _ => r = -1)) 0 0 (va_A (va_pl L f) sz) := by
  refine Met.ofW (cc := cX12_full) (maxL := 3) (ret := (some .int)) (by decide) rfl ?_
  intro p e s m args below meth c s₁ B hml hv
  obtain ⟨rfl, rfl, hw⟩ := py_start hv
  have G : CallFix p m c cX12_full 3 s _ w_X12_full RX12 := ⟨B.exec, B.bytes, hml, findClass_of_methodNamed B.named, atoms_spec (ws := w_X12_full) B.pre⟩
  have hr := B.returns
  have hlk := B.notSynchronized
  have hl := lv_entry ([.ref h]) (n := 3) (Nat.le_of_ble_eq_true rfl)
  rw [lg_entry_eq]
  generalize (lg_sl ([.ref h]) ++ List.replicate (3 - (lg_sl ([.ref h])).length) Slot.unset).toArray = ls at hl ⊢
  have hl : lv_has ls 3 [(0, .ref h)] := hl
  obtain ⟨tp, cd, cl, g1, g2, g3, xs, v32, v33, v34, hh, hxs, hp1, hp2, hp8, hp9, hp13, hp24, hp25, hp29, hp31, hp43, hp53, ⟨hp32, hp33, hp34⟩, htp, hcd, hcl⟩ := id hM
  refine lv_aload_n G.1 G.2.1 dX12_full_0 rfl (lv_at hl 0 rfl) ?_
  refine py_get (C := RX12) (T := TX12) (N := 54) (k := 25) (v := .int 0) G hw in_X12_full_X12 rfl hh (by decide) (by decide +kernel) hp25 dX12_full_1 ?_
  refine lv_if_ne (tgt := 9) G.1 G.2.1 dX12_full_4 (by decide) (fun c_1 => ?_) (fun c_1 => ?_)
  · skip
    exact absurd c_1 (by decide)
  · skip
    refine lv_iconst (v := (-1)) G.1 G.2.1 dX12_full_7 (by decide) ?_
    exact py_iret G hr rfl hlk hw rfl dX12_full_8

def w_X12_hungry : List Cond := .code yX12_hungry cX12_hungry 5 (some .int) :: ([Cond.fieldLink RX12 290 "HeadYearModel" "families" "I"] ++ (u_ws RX12 TX12 54 ++ ([])))
theorem in_X12_hungry_X12 : ∀ w ∈ u_ws RX12 TX12 54, w ∈ w_X12_hungry := fun _ h => List.mem_cons_of_mem _ (List.mem_append_right _ (List.mem_append_left _ h))
set_option maxHeartbeats 4000000 in
set_option maxRecDepth 100000 in
theorem c_X12_hungry (l : Launch) (E : py_E) (L : List Nat) (f : py_F) (sz : Nat) (h : Nat) (a : Int32) (hM : fr_M E L f h) : Met l yX12_hungry w_X12_hungry ({ frames := 0, cells := 0, slots := 0, locals := 0 }) (py_Pc E [.ref h, .int a] L f sz) (py_Qi E L f sz (fun r _ _ => r = -1)) 0 0 (va_A (va_pl L f) sz) := by
  refine Met.ofW (cc := cX12_hungry) (maxL := 5) (ret := (some .int)) (by decide) rfl ?_
  intro p e s m args below meth c s₁ B hml hv
  obtain ⟨rfl, rfl, hw⟩ := py_start hv
  have G : CallFix p m c cX12_hungry 5 s _ w_X12_hungry RX12 := ⟨B.exec, B.bytes, hml, findClass_of_methodNamed B.named, atoms_spec (ws := w_X12_hungry) B.pre⟩
  have hr := B.returns
  have hlk := B.notSynchronized
  have hl := lv_entry ([.ref h, .int a]) (n := 5) (Nat.le_of_ble_eq_true rfl)
  rw [lg_entry_eq]
  generalize (lg_sl ([.ref h, .int a]) ++ List.replicate (5 - (lg_sl ([.ref h, .int a])).length) Slot.unset).toArray = ls at hl ⊢
  have hl : lv_has ls 5 [(0, .ref h), (1, .int a)] := hl
  obtain ⟨tp, cd, cl, g1, g2, g3, xs, v32, v33, v34, hh, hxs, hp1, hp2, hp8, hp9, hp13, hp24, hp25, hp29, hp31, hp43, hp53, ⟨hp32, hp33, hp34⟩, htp, hcd, hcl⟩ := id hM
  refine lv_aload_n G.1 G.2.1 dX12_hungry_0 rfl (lv_at hl 0 rfl) ?_
  refine py_get (C := RX12) (T := TX12) (N := 54) (k := 25) (v := .int 0) G hw in_X12_hungry_X12 rfl hh (by decide) (by decide +kernel) hp25 dX12_hungry_1 ?_
  refine lv_if_eq (tgt := 16) G.1 G.2.1 dX12_hungry_4 (by decide) (fun c_1 => ?_) (fun c_1 => ?_)
  · skip
    refine lv_iconst (v := (-1)) G.1 G.2.1 dX12_hungry_16 (by decide) ?_
    exact py_iret G hr rfl hlk hw rfl dX12_hungry_17
  · skip
    exact absurd c_1 (by decide)

def w_X12_rank : List Cond := .code yX12_rank cX12_rank 5 (some .int) :: ([Cond.fieldLink RX12 290 "HeadYearModel" "families" "I"] ++ (u_ws RX12 TX12 54 ++ ([])))
theorem in_X12_rank_X12 : ∀ w ∈ u_ws RX12 TX12 54, w ∈ w_X12_rank := fun _ h => List.mem_cons_of_mem _ (List.mem_append_right _ (List.mem_append_left _ h))
set_option maxHeartbeats 4000000 in
set_option maxRecDepth 100000 in
theorem c_X12_rank (l : Launch) (E : py_E) (L : List Nat) (f : py_F) (sz : Nat) (h : Nat) (a : Int32) (hM : fr_M E L f h) : Met l yX12_rank w_X12_rank ({ frames := 0, cells := 0, slots := 0, locals := 0 }) (py_Pc E [.ref h, .int a] L f sz) (py_Qi E L f sz (fun r _ _ => r = -1)) 0 0 (va_A (va_pl L f) sz) := by
  refine Met.ofW (cc := cX12_rank) (maxL := 5) (ret := (some .int)) (by decide) rfl ?_
  intro p e s m args below meth c s₁ B hml hv
  obtain ⟨rfl, rfl, hw⟩ := py_start hv
  have G : CallFix p m c cX12_rank 5 s _ w_X12_rank RX12 := ⟨B.exec, B.bytes, hml, findClass_of_methodNamed B.named, atoms_spec (ws := w_X12_rank) B.pre⟩
  have hr := B.returns
  have hlk := B.notSynchronized
  have hl := lv_entry ([.ref h, .int a]) (n := 5) (Nat.le_of_ble_eq_true rfl)
  rw [lg_entry_eq]
  generalize (lg_sl ([.ref h, .int a]) ++ List.replicate (5 - (lg_sl ([.ref h, .int a])).length) Slot.unset).toArray = ls at hl ⊢
  have hl : lv_has ls 5 [(0, .ref h), (1, .int a)] := hl
  obtain ⟨tp, cd, cl, g1, g2, g3, xs, v32, v33, v34, hh, hxs, hp1, hp2, hp8, hp9, hp13, hp24, hp25, hp29, hp31, hp43, hp53, ⟨hp32, hp33, hp34⟩, htp, hcd, hcl⟩ := id hM
  refine lv_iconst (v := 0) G.1 G.2.1 dX12_rank_0 (by decide) ?_
  refine lv_istore_n (lv' := [(2, .int 0), (0, .ref h), (1, .int a)]) G.1 G.2.1 dX12_rank_1 rfl hl (by decide) rfl (fun ls hl => ?_)
  refine lv_iload_n G.1 G.2.1 dX12_rank_2 rfl (lv_at hl 0 rfl) ?_
  refine lv_aload_n G.1 G.2.1 dX12_rank_3 rfl (lv_at hl 1 rfl) ?_
  refine py_get (C := RX12) (T := TX12) (N := 54) (k := 25) (v := .int 0) G hw in_X12_rank_X12 rfl hh (by decide) (by decide +kernel) hp25 dX12_rank_4 ?_
  refine lv_icmp_ge (tgt := 89) G.1 G.2.1 dX12_rank_7 (by decide) (fun c_1 => ?_) (fun c_1 => ?_)
  · skip
    refine lv_iconst (v := (-1)) G.1 G.2.1 dX12_rank_89 (by decide) ?_
    exact py_iret G hr rfl hlk hw rfl dX12_rank_90
  · skip
    exact absurd c_1 (by decide)

def w_X12_met : List Cond := .code yX12_met cX12_met 7 (some .int) :: ([Cond.methodLink RX12 347 yX12_isFamily, Cond.instanceMethod yX12_isFamily, Cond.selects RX12 yX12_isFamily yX12_isFamily, Cond.initialized RX12, Cond.constant RX12 350 (-1000000)] ++ (w_X12_isFamily ++ ([])))
theorem gg_X12_met_X12_isFamily : GoodIn w_X12_met w_X12_isFamily := goodIn_sub (fun _ h => List.mem_cons_of_mem _ (List.mem_append_right _ (List.mem_append_left _ h))) (by decide +kernel)
theorem g_X12_met_X12_isFamily_347 : GoodIn w_X12_met (wsV RX12 347 RX12 yX12_isFamily w_X12_isFamily) := goodIn_app (goodIn_of _ (by decide +kernel)) gg_X12_met_X12_isFamily
set_option maxHeartbeats 4000000 in
set_option maxRecDepth 100000 in
theorem c_X12_met (l : Launch) (E : py_E) (L : List Nat) (f : py_F) (sz : Nat) (h : Nat) (a : Int32) (b : Int32) (q : Int32) (hM : fr_M E L f h) : Met l yX12_met w_X12_met ({ frames := 2, cells := 0, slots := 0, locals := 43 }) (py_Pc E [.ref h, .int a, .int b, .int q] L f sz) (py_Qi E L f sz (fun r _ _ => r = -1000000)) 0 0 (va_A (va_pl L f) sz) := by
  refine Met.ofW (cc := cX12_met) (maxL := 7) (ret := (some .int)) (by decide) rfl ?_
  intro p e s m args below meth c s₁ B hml hv
  obtain ⟨rfl, rfl, hw⟩ := py_start hv
  have G : CallFix p m c cX12_met 7 s _ w_X12_met RX12 := ⟨B.exec, B.bytes, hml, findClass_of_methodNamed B.named, atoms_spec (ws := w_X12_met) B.pre⟩
  have hr := B.returns
  have hlk := B.notSynchronized
  have hl := lv_entry ([.ref h, .int a, .int b, .int q]) (n := 7) (Nat.le_of_ble_eq_true rfl)
  rw [lg_entry_eq]
  generalize (lg_sl ([.ref h, .int a, .int b, .int q]) ++ List.replicate (7 - (lg_sl ([.ref h, .int a, .int b, .int q])).length) Slot.unset).toArray = ls at hl ⊢
  have hl : lv_has ls 7 [(0, .ref h), (1, .int a), (2, .int b), (3, .int q)] := hl
  obtain ⟨tp, cd, cl, g1, g2, g3, xs, v32, v33, v34, hh, hxs, hp1, hp2, hp8, hp9, hp13, hp24, hp25, hp29, hp31, hp43, hp53, ⟨hp32, hp33, hp34⟩, htp, hcd, hcl⟩ := id hM
  refine lv_aload_n G.1 G.2.1 dX12_met_0 rfl (lv_at hl 0 rfl) ?_
  refine lv_iload_n G.1 G.2.1 dX12_met_1 rfl (lv_at hl 1 rfl) ?_
  refine py_calli hw (va_runV (As := [.int a]) (rest := []) G (c_X12_isFamily l E L f s.heap.size h a hM) (cwV 1 G.2.2.2.2 g_X12_met_X12_isFamily_347 rfl rfl rfl (by decide +kernel) ⟨(Nat.le_of_ble_eq_true rfl), (Nat.le_of_ble_eq_true rfl)⟩) (py_preV hw (C := RX12) (T := TX12) (N := 54) rfl hh) rfl rfl hl.1 rfl (lv_room (Nat.le_of_ble_eq_true rfl)) dX12_met_2 ⟨(Nat.le_of_ble_eq_true rfl), (Nat.le_of_ble_eq_true rfl)⟩) (fun r_5 L_1 f_2 H_3 locs hp_4 hw => ?_)
  obtain ⟨rfl, rfl, rfl⟩ := hp_4
  refine lv_if_eq (tgt := 30) G.1 G.2.1 dX12_met_5 (by decide) (fun c_6 => ?_) (fun c_6 => ?_)
  · skip
    refine lv_ldcw (v := (-1000000)) G.1 G.2.1 G.2.2.2.1 (G.2.2.2.2 (Cond.constant RX12 350 (-1000000)) (by decide +kernel)) dX12_met_30 ?_
    exact py_iret G hr rfl hlk hw rfl dX12_met_33
  · skip
    exact absurd c_6 (by decide)

def w_X12_leap : List Cond := .code yX12_leap cX12_leap 6 (some .int) :: ([Cond.methodLink RX12 347 yX12_isFamily, Cond.instanceMethod yX12_isFamily, Cond.selects RX12 yX12_isFamily yX12_isFamily, Cond.initialized RX12, Cond.constant RX12 350 (-1000000)] ++ (w_X12_isFamily ++ ([])))
theorem gg_X12_leap_X12_isFamily : GoodIn w_X12_leap w_X12_isFamily := goodIn_sub (fun _ h => List.mem_cons_of_mem _ (List.mem_append_right _ (List.mem_append_left _ h))) (by decide +kernel)
theorem g_X12_leap_X12_isFamily_347 : GoodIn w_X12_leap (wsV RX12 347 RX12 yX12_isFamily w_X12_isFamily) := goodIn_app (goodIn_of _ (by decide +kernel)) gg_X12_leap_X12_isFamily
set_option maxHeartbeats 4000000 in
set_option maxRecDepth 100000 in
theorem c_X12_leap (l : Launch) (E : py_E) (L : List Nat) (f : py_F) (sz : Nat) (h : Nat) (a : Int32) (hM : fr_M E L f h) : Met l yX12_leap w_X12_leap ({ frames := 2, cells := 0, slots := 0, locals := 43 }) (py_Pc E [.ref h, .int a] L f sz) (py_Qi E L f sz (fun r _ _ => r = -1000000)) 0 0 (va_A (va_pl L f) sz) := by
  refine Met.ofW (cc := cX12_leap) (maxL := 6) (ret := (some .int)) (by decide) rfl ?_
  intro p e s m args below meth c s₁ B hml hv
  obtain ⟨rfl, rfl, hw⟩ := py_start hv
  have G : CallFix p m c cX12_leap 6 s _ w_X12_leap RX12 := ⟨B.exec, B.bytes, hml, findClass_of_methodNamed B.named, atoms_spec (ws := w_X12_leap) B.pre⟩
  have hr := B.returns
  have hlk := B.notSynchronized
  have hl := lv_entry ([.ref h, .int a]) (n := 6) (Nat.le_of_ble_eq_true rfl)
  rw [lg_entry_eq]
  generalize (lg_sl ([.ref h, .int a]) ++ List.replicate (6 - (lg_sl ([.ref h, .int a])).length) Slot.unset).toArray = ls at hl ⊢
  have hl : lv_has ls 6 [(0, .ref h), (1, .int a)] := hl
  obtain ⟨tp, cd, cl, g1, g2, g3, xs, v32, v33, v34, hh, hxs, hp1, hp2, hp8, hp9, hp13, hp24, hp25, hp29, hp31, hp43, hp53, ⟨hp32, hp33, hp34⟩, htp, hcd, hcl⟩ := id hM
  refine lv_aload_n G.1 G.2.1 dX12_leap_0 rfl (lv_at hl 0 rfl) ?_
  refine lv_iload_n G.1 G.2.1 dX12_leap_1 rfl (lv_at hl 1 rfl) ?_
  refine py_calli hw (va_runV (As := [.int a]) (rest := []) G (c_X12_isFamily l E L f s.heap.size h a hM) (cwV 1 G.2.2.2.2 g_X12_leap_X12_isFamily_347 rfl rfl rfl (by decide +kernel) ⟨(Nat.le_of_ble_eq_true rfl), (Nat.le_of_ble_eq_true rfl)⟩) (py_preV hw (C := RX12) (T := TX12) (N := 54) rfl hh) rfl rfl hl.1 rfl (lv_room (Nat.le_of_ble_eq_true rfl)) dX12_leap_2 ⟨(Nat.le_of_ble_eq_true rfl), (Nat.le_of_ble_eq_true rfl)⟩) (fun r_5 L_1 f_2 H_3 locs hp_4 hw => ?_)
  obtain ⟨rfl, rfl, rfl⟩ := hp_4
  refine lv_if_ne (tgt := 12) G.1 G.2.1 dX12_leap_5 (by decide) (fun c_6 => ?_) (fun c_6 => ?_)
  · skip
    exact absurd c_6 (by decide)
  · skip
    refine lv_ldcw (v := (-1000000)) G.1 G.2.1 G.2.2.2.1 (G.2.2.2.2 (Cond.constant RX12 350 (-1000000)) (by decide +kernel)) dX12_leap_8 ?_
    exact py_iret G hr rfl hlk hw rfl dX12_leap_11

def w_X12_leanest : List Cond := .code yX12_leanest cX12_leanest 4 (some .int) :: ([Cond.fieldLink RX12 309 "HeadYearModel" "years" "I"] ++ (u_ws RX12 TX12 54 ++ ([])))
theorem in_X12_leanest_X12 : ∀ w ∈ u_ws RX12 TX12 54, w ∈ w_X12_leanest := fun _ h => List.mem_cons_of_mem _ (List.mem_append_right _ (List.mem_append_left _ h))
set_option maxHeartbeats 4000000 in
set_option maxRecDepth 100000 in
theorem c_X12_leanest (l : Launch) (E : py_E) (L : List Nat) (f : py_F) (sz : Nat) (h : Nat) (a : Int32) (hM : fr_M E L f h) : Met l yX12_leanest w_X12_leanest ({ frames := 0, cells := 0, slots := 0, locals := 0 }) (py_Pc E [.ref h, .int a] L f sz) (py_Qi E L f sz (fun r _ _ => r = -1)) 0 0 (va_A (va_pl L f) sz) := by
  refine Met.ofW (cc := cX12_leanest) (maxL := 4) (ret := (some .int)) (by decide) rfl ?_
  intro p e s m args below meth c s₁ B hml hv
  obtain ⟨rfl, rfl, hw⟩ := py_start hv
  have G : CallFix p m c cX12_leanest 4 s _ w_X12_leanest RX12 := ⟨B.exec, B.bytes, hml, findClass_of_methodNamed B.named, atoms_spec (ws := w_X12_leanest) B.pre⟩
  have hr := B.returns
  have hlk := B.notSynchronized
  have hl := lv_entry ([.ref h, .int a]) (n := 4) (Nat.le_of_ble_eq_true rfl)
  rw [lg_entry_eq]
  generalize (lg_sl ([.ref h, .int a]) ++ List.replicate (4 - (lg_sl ([.ref h, .int a])).length) Slot.unset).toArray = ls at hl ⊢
  have hl : lv_has ls 4 [(0, .ref h), (1, .int a)] := hl
  obtain ⟨tp, cd, cl, g1, g2, g3, xs, v32, v33, v34, hh, hxs, hp1, hp2, hp8, hp9, hp13, hp24, hp25, hp29, hp31, hp43, hp53, ⟨hp32, hp33, hp34⟩, htp, hcd, hcl⟩ := id hM
  refine lv_aload_n G.1 G.2.1 dX12_leanest_0 rfl (lv_at hl 0 rfl) ?_
  refine py_get (C := RX12) (T := TX12) (N := 54) (k := 29) (v := .int 0) G hw in_X12_leanest_X12 rfl hh (by decide) (by decide +kernel) hp29 dX12_leanest_1 ?_
  refine lv_if_eq (tgt := 16) G.1 G.2.1 dX12_leanest_4 (by decide) (fun c_1 => ?_) (fun c_1 => ?_)
  · skip
    refine lv_iconst (v := (-1)) G.1 G.2.1 dX12_leanest_16 (by decide) ?_
    exact py_iret G hr rfl hlk hw rfl dX12_leanest_17
  · skip
    exact absurd c_1 (by decide)

def w_X12_advice : List Cond := .code yX12_advice cX12_advice 10 (some .int) :: ([Cond.methodLink RX12 441 yX12_isTrial, Cond.instanceMethod yX12_isTrial, Cond.selects RX12 yX12_isTrial yX12_isTrial, Cond.initialized RX12, Cond.constant RX12 350 (-1000000)] ++ (w_X12_isTrial ++ ([])))
theorem gg_X12_advice_X12_isTrial : GoodIn w_X12_advice w_X12_isTrial := goodIn_sub (fun _ h => List.mem_cons_of_mem _ (List.mem_append_right _ (List.mem_append_left _ h))) (by decide +kernel)
theorem g_X12_advice_X12_isTrial_441 : GoodIn w_X12_advice (wsV RX12 441 RX12 yX12_isTrial w_X12_isTrial) := goodIn_app (goodIn_of _ (by decide +kernel)) gg_X12_advice_X12_isTrial
set_option maxHeartbeats 4000000 in
set_option maxRecDepth 100000 in
theorem c_X12_advice (l : Launch) (E : py_E) (L : List Nat) (f : py_F) (sz : Nat) (h : Nat) (a : Int32) (b : Int32) (q : Int32) (d : Int32) (hM : fr_M E L f h) : Met l yX12_advice w_X12_advice ({ frames := 1, cells := 0, slots := 0, locals := 22 }) (py_Pc E [.ref h, .int a, .int b, .int q, .int d] L f sz) (py_Qi E L f sz (fun r _ _ => r = -1000000)) 0 0 (va_A (va_pl L f) sz) := by
  refine Met.ofW (cc := cX12_advice) (maxL := 10) (ret := (some .int)) (by decide) rfl ?_
  intro p e s m args below meth c s₁ B hml hv
  obtain ⟨rfl, rfl, hw⟩ := py_start hv
  have G : CallFix p m c cX12_advice 10 s _ w_X12_advice RX12 := ⟨B.exec, B.bytes, hml, findClass_of_methodNamed B.named, atoms_spec (ws := w_X12_advice) B.pre⟩
  have hr := B.returns
  have hlk := B.notSynchronized
  have hl := lv_entry ([.ref h, .int a, .int b, .int q, .int d]) (n := 10) (Nat.le_of_ble_eq_true rfl)
  rw [lg_entry_eq]
  generalize (lg_sl ([.ref h, .int a, .int b, .int q, .int d]) ++ List.replicate (10 - (lg_sl ([.ref h, .int a, .int b, .int q, .int d])).length) Slot.unset).toArray = ls at hl ⊢
  have hl : lv_has ls 10 [(0, .ref h), (1, .int a), (2, .int b), (3, .int q), (4, .int d)] := hl
  obtain ⟨tp, cd, cl, g1, g2, g3, xs, v32, v33, v34, hh, hxs, hp1, hp2, hp8, hp9, hp13, hp24, hp25, hp29, hp31, hp43, hp53, ⟨hp32, hp33, hp34⟩, htp, hcd, hcl⟩ := id hM
  refine lv_aload_n G.1 G.2.1 dX12_advice_0 rfl (lv_at hl 0 rfl) ?_
  refine lv_iload_n G.1 G.2.1 dX12_advice_1 rfl (lv_at hl 2 rfl) ?_
  refine lv_iload_n G.1 G.2.1 dX12_advice_2 rfl (lv_at hl 3 rfl) ?_
  refine py_calli hw (va_runV (As := [.int b, .int q]) (rest := []) G (c_X12_isTrial l E L f s.heap.size h b q hM) (cwV 2 G.2.2.2.2 g_X12_advice_X12_isTrial_441 rfl rfl rfl (by decide +kernel) ⟨(Nat.le_of_ble_eq_true rfl), (Nat.le_of_ble_eq_true rfl)⟩) (py_preV hw (C := RX12) (T := TX12) (N := 54) rfl hh) rfl rfl hl.1 rfl (lv_room (Nat.le_of_ble_eq_true rfl)) dX12_advice_3 ⟨(Nat.le_of_ble_eq_true rfl), (Nat.le_of_ble_eq_true rfl)⟩) (fun r_5 L_1 f_2 H_3 locs hp_4 hw => ?_)
  obtain ⟨rfl, rfl, rfl⟩ := hp_4
  refine lv_if_eq (tgt := 35) G.1 G.2.1 dX12_advice_6 (by decide) (fun c_6 => ?_) (fun c_6 => ?_)
  · skip
    refine lv_ldcw (v := (-1000000)) G.1 G.2.1 G.2.2.2.1 (G.2.2.2.2 (Cond.constant RX12 350 (-1000000)) (by decide +kernel)) dX12_advice_35 ?_
    exact py_iret G hr rfl hlk hw rfl dX12_advice_38
  · skip
    exact absurd c_6 (by decide)

def w_X12_image : List Cond := .code yX12_image cX12_image 2 (some .int) :: ([Cond.fieldLink RX12 290 "HeadYearModel" "families" "I"] ++ (u_ws RX12 TX12 54 ++ ([])))
theorem in_X12_image_X12 : ∀ w ∈ u_ws RX12 TX12 54, w ∈ w_X12_image := fun _ h => List.mem_cons_of_mem _ (List.mem_append_right _ (List.mem_append_left _ h))
set_option maxHeartbeats 4000000 in
set_option maxRecDepth 100000 in
theorem c_X12_image (l : Launch) (E : py_E) (L : List Nat) (f : py_F) (sz : Nat) (h : Nat) (hM : fr_M E L f h) : Met l yX12_image w_X12_image ({ frames := 0, cells := 0, slots := 0, locals := 0 }) (py_Pc E [.ref h] L f sz) (py_Qi E L f sz (fun r _ _ => r = -1)) 0 0 (va_A (va_pl L f) sz) := by
  refine Met.ofW (cc := cX12_image) (maxL := 2) (ret := (some .int)) (by decide) rfl ?_
  intro p e s m args below meth c s₁ B hml hv
  obtain ⟨rfl, rfl, hw⟩ := py_start hv
  have G : CallFix p m c cX12_image 2 s _ w_X12_image RX12 := ⟨B.exec, B.bytes, hml, findClass_of_methodNamed B.named, atoms_spec (ws := w_X12_image) B.pre⟩
  have hr := B.returns
  have hlk := B.notSynchronized
  have hl := lv_entry ([.ref h]) (n := 2) (Nat.le_of_ble_eq_true rfl)
  rw [lg_entry_eq]
  generalize (lg_sl ([.ref h]) ++ List.replicate (2 - (lg_sl ([.ref h])).length) Slot.unset).toArray = ls at hl ⊢
  have hl : lv_has ls 2 [(0, .ref h)] := hl
  obtain ⟨tp, cd, cl, g1, g2, g3, xs, v32, v33, v34, hh, hxs, hp1, hp2, hp8, hp9, hp13, hp24, hp25, hp29, hp31, hp43, hp53, ⟨hp32, hp33, hp34⟩, htp, hcd, hcl⟩ := id hM
  refine lv_aload_n G.1 G.2.1 dX12_image_0 rfl (lv_at hl 0 rfl) ?_
  refine py_get (C := RX12) (T := TX12) (N := 54) (k := 25) (v := .int 0) G hw in_X12_image_X12 rfl hh (by decide) (by decide +kernel) hp25 dX12_image_1 ?_
  refine lv_if_ne (tgt := 9) G.1 G.2.1 dX12_image_4 (by decide) (fun c_1 => ?_) (fun c_1 => ?_)
  · skip
    exact absurd c_1 (by decide)
  · skip
    refine lv_iconst (v := (-1)) G.1 G.2.1 dX12_image_7 (by decide) ?_
    exact py_iret G hr rfl hlk hw rfl dX12_image_8

def w_X12_back : List Cond := .code yX12_back cX12_back 2 (some .int) :: ([Cond.fieldLink RX12 315 "HeadYearModel" "hasImage" "Z"] ++ (u_ws RX12 TX12 54 ++ ([])))
theorem in_X12_back_X12 : ∀ w ∈ u_ws RX12 TX12 54, w ∈ w_X12_back := fun _ h => List.mem_cons_of_mem _ (List.mem_append_right _ (List.mem_append_left _ h))
set_option maxHeartbeats 4000000 in
set_option maxRecDepth 100000 in
theorem c_X12_back (l : Launch) (E : py_E) (L : List Nat) (f : py_F) (sz : Nat) (h : Nat) (hM : fr_M E L f h) : Met l yX12_back w_X12_back ({ frames := 0, cells := 0, slots := 0, locals := 0 }) (py_Pc E [.ref h] L f sz) (py_Qi E L f sz (fun r _ _ => r = -1)) 0 0 (va_A (va_pl L f) sz) := by
  refine Met.ofW (cc := cX12_back) (maxL := 2) (ret := (some .int)) (by decide) rfl ?_
  intro p e s m args below meth c s₁ B hml hv
  obtain ⟨rfl, rfl, hw⟩ := py_start hv
  have G : CallFix p m c cX12_back 2 s _ w_X12_back RX12 := ⟨B.exec, B.bytes, hml, findClass_of_methodNamed B.named, atoms_spec (ws := w_X12_back) B.pre⟩
  have hr := B.returns
  have hlk := B.notSynchronized
  have hl := lv_entry ([.ref h]) (n := 2) (Nat.le_of_ble_eq_true rfl)
  rw [lg_entry_eq]
  generalize (lg_sl ([.ref h]) ++ List.replicate (2 - (lg_sl ([.ref h])).length) Slot.unset).toArray = ls at hl ⊢
  have hl : lv_has ls 2 [(0, .ref h)] := hl
  obtain ⟨tp, cd, cl, g1, g2, g3, xs, v32, v33, v34, hh, hxs, hp1, hp2, hp8, hp9, hp13, hp24, hp25, hp29, hp31, hp43, hp53, ⟨hp32, hp33, hp34⟩, htp, hcd, hcl⟩ := id hM
  refine lv_aload_n G.1 G.2.1 dX12_back_0 rfl (lv_at hl 0 rfl) ?_
  refine py_get (C := RX12) (T := TX12) (N := 54) (k := 53) (v := .int 0) G hw in_X12_back_X12 rfl hh (by decide) (by decide +kernel) hp53 dX12_back_1 ?_
  refine lv_if_ne (tgt := 9) G.1 G.2.1 dX12_back_4 (by decide) (fun c_1 => ?_) (fun c_1 => ?_)
  · skip
    exact absurd c_1 (by decide)
  · skip
    refine lv_iconst (v := (-1)) G.1 G.2.1 dX12_back_7 (by decide) ?_
    exact py_iret G hr rfl hlk hw rfl dX12_back_8

def w_X12_mean : List Cond := .code yX12_mean cX12_mean 6 (some .long) :: ([Cond.methodLink RX12 451 yX12_odds, Cond.instanceMethod yX12_odds, Cond.selects RX12 yX12_odds yX12_odds, Cond.initialized RX12, Cond.constant RX12 350 (-1000000), Cond.constantLong RX12 207 (-1000000)] ++ (w_X12_odds ++ ([])))
theorem gg_X12_mean_X12_odds : GoodIn w_X12_mean w_X12_odds := goodIn_sub (fun _ h => List.mem_cons_of_mem _ (List.mem_append_right _ (List.mem_append_left _ h))) (by decide +kernel)
theorem g_X12_mean_X12_odds_451 : GoodIn w_X12_mean (wsV RX12 451 RX12 yX12_odds w_X12_odds) := goodIn_app (goodIn_of _ (by decide +kernel)) gg_X12_mean_X12_odds
set_option maxHeartbeats 4000000 in
set_option maxRecDepth 100000 in
theorem c_X12_mean (l : Launch) (E : py_E) (L : List Nat) (f : py_F) (sz : Nat) (h : Nat) (a : Int32) (b : Int32) (hM : fr_M E L f h) : Met l yX12_mean w_X12_mean ({ frames := 3, cells := 0, slots := 0, locals := 69 }) (py_Pc E [.ref h, .int a, .int b] L f sz) (py_Ql E L f sz (fun r _ _ => r = -1000000)) 0 0 (va_A (va_pl L f) sz) := by
  refine Met.ofW (cc := cX12_mean) (maxL := 6) (ret := (some .long)) (by decide) rfl ?_
  intro p e s m args below meth c s₁ B hml hv
  obtain ⟨rfl, rfl, hw⟩ := py_start hv
  have G : CallFix p m c cX12_mean 6 s _ w_X12_mean RX12 := ⟨B.exec, B.bytes, hml, findClass_of_methodNamed B.named, atoms_spec (ws := w_X12_mean) B.pre⟩
  have hr := B.returns
  have hlk := B.notSynchronized
  have hl := lv_entry ([.ref h, .int a, .int b]) (n := 6) (Nat.le_of_ble_eq_true rfl)
  rw [lg_entry_eq]
  generalize (lg_sl ([.ref h, .int a, .int b]) ++ List.replicate (6 - (lg_sl ([.ref h, .int a, .int b])).length) Slot.unset).toArray = ls at hl ⊢
  have hl : lv_has ls 6 [(0, .ref h), (1, .int a), (2, .int b)] := hl
  obtain ⟨tp, cd, cl, g1, g2, g3, xs, v32, v33, v34, hh, hxs, hp1, hp2, hp8, hp9, hp13, hp24, hp25, hp29, hp31, hp43, hp53, ⟨hp32, hp33, hp34⟩, htp, hcd, hcl⟩ := id hM
  refine lv_aload_n G.1 G.2.1 dX12_mean_0 rfl (lv_at hl 0 rfl) ?_
  refine lv_iload_n G.1 G.2.1 dX12_mean_1 rfl (lv_at hl 1 rfl) ?_
  refine lv_iload_n G.1 G.2.1 dX12_mean_2 rfl (lv_at hl 2 rfl) ?_
  refine lv_iconst (v := (-1)) G.1 G.2.1 dX12_mean_3 (by decide) ?_
  refine py_calli hw (va_runV (As := [.int a, .int b, .int (-1)]) (rest := []) G (c_X12_odds l E L f s.heap.size h a b (-1) hM) (cwV 3 G.2.2.2.2 g_X12_mean_X12_odds_451 rfl rfl rfl (by decide +kernel) ⟨(Nat.le_of_ble_eq_true rfl), (Nat.le_of_ble_eq_true rfl)⟩) (py_preV hw (C := RX12) (T := TX12) (N := 54) rfl hh) rfl rfl hl.1 rfl (lv_room (Nat.le_of_ble_eq_true rfl)) dX12_mean_4 ⟨(Nat.le_of_ble_eq_true rfl), (Nat.le_of_ble_eq_true rfl)⟩) (fun r_5 L_1 f_2 H_3 locs hp_4 hw => ?_)
  obtain ⟨rfl, rfl, rfl⟩ := hp_4
  refine lv_ldcw (v := (-1000000)) G.1 G.2.1 G.2.2.2.1 (G.2.2.2.2 (Cond.constant RX12 350 (-1000000)) (by decide +kernel)) dX12_mean_7 ?_
  refine lv_icmp_ne (tgt := 17) G.1 G.2.1 dX12_mean_10 (by decide) (fun c_6 => ?_) (fun c_6 => ?_)
  · skip
    exact absurd c_6 (by decide)
  · skip
    refine lv_ldc2 (v := (-1000000)) G.1 G.2.1 G.2.2.2.1 (G.2.2.2.2 (Cond.constantLong RX12 207 (-1000000)) (by decide +kernel)) dX12_mean_13 ?_
    exact py_lret G hr hlk hw rfl dX12_mean_16

def w_X12_seed : List Cond := .code yX12_seed cX12_seed 3 (some .boolean) :: ([Cond.fieldLink RX12 357 "HeadYearModel" "draws" "J"] ++ (u_ws RX12 TX12 54 ++ ([])))
theorem in_X12_seed_X12 : ∀ w ∈ u_ws RX12 TX12 54, w ∈ w_X12_seed := fun _ h => List.mem_cons_of_mem _ (List.mem_append_right _ (List.mem_append_left _ h))
set_option maxHeartbeats 4000000 in
set_option maxRecDepth 100000 in
theorem c_X12_seed (l : Launch) (E : py_E) (L : List Nat) (f : py_F) (sz : Nat) (h : Nat) (v : Int64) (hM : fr_M E L f h) : Met l yX12_seed w_X12_seed ({ frames := 0, cells := 0, slots := 0, locals := 0 }) (py_Pc E [.ref h, .long v] L f sz) (py_Qi E L f sz (fun r _ _ => r = 1)) 0 0 (va_A (va_pl L f) sz) := by
  refine Met.ofW (cc := cX12_seed) (maxL := 3) (ret := (some .boolean)) (by decide) rfl ?_
  intro p e s m args below meth c s₁ B hml hv
  obtain ⟨rfl, rfl, hw⟩ := py_start hv
  have G : CallFix p m c cX12_seed 3 s _ w_X12_seed RX12 := ⟨B.exec, B.bytes, hml, findClass_of_methodNamed B.named, atoms_spec (ws := w_X12_seed) B.pre⟩
  have hr := B.returns
  have hlk := B.notSynchronized
  have hl := lv_entry ([.ref h, .long v]) (n := 3) (Nat.le_of_ble_eq_true rfl)
  rw [lg_entry_eq]
  generalize (lg_sl ([.ref h, .long v]) ++ List.replicate (3 - (lg_sl ([.ref h, .long v])).length) Slot.unset).toArray = ls at hl ⊢
  have hl : lv_has ls 3 [(0, .ref h), (1, .long v)] := hl
  obtain ⟨tp, cd, cl, g1, g2, g3, xs, v32, v33, v34, hh, hxs, hp1, hp2, hp8, hp9, hp13, hp24, hp25, hp29, hp31, hp43, hp53, ⟨hp32, hp33, hp34⟩, htp, hcd, hcl⟩ := id hM
  refine lv_aload_n G.1 G.2.1 dX12_seed_0 rfl (lv_at hl 0 rfl) ?_
  refine lv_lload_n G.1 G.2.1 dX12_seed_1 rfl (lv_at hl 1 rfl) ?_
  refine py_put (C := RX12) (T := TX12) (N := 54) (k := 30) (v := .long v) (fs' := xs.set 30 (.long v)) (ty0 := tyX12) G hw tyX12_ok nmX12 in_X12_seed_X12 rfl hh (by decide) (by decide +kernel) rfl rfl rfl rfl (py_len hxs (by decide)) rfl dX12_seed_2 (fun f_1 H_2 locs h_3 x_4 hw => ?_)
  obtain ⟨xs_5, exs_5⟩ : ∃ y, y = xs.set 30 (.long v) := ⟨_, rfl⟩
  rw [← exs_5] at h_3
  have hl_6 : xs_5.length = 54 := by rw [exs_5, List.length_set]; exact hxs
  have hp_7 : xs_5[1]? = some (.ref tp) := by rw [exs_5, List.getElem?_set_ne (by decide)]; exact hp1
  have hp_8 : xs_5[2]? = some (.int 0) := by rw [exs_5, List.getElem?_set_ne (by decide)]; exact hp2
  have hp_9 : xs_5[8]? = some (.ref cd) := by rw [exs_5, List.getElem?_set_ne (by decide)]; exact hp8
  have hp_10 : xs_5[9]? = some (.ref cl) := by rw [exs_5, List.getElem?_set_ne (by decide)]; exact hp9
  have hp_11 : xs_5[13]? = some (.int 0) := by rw [exs_5, List.getElem?_set_ne (by decide)]; exact hp13
  have hp_12 : xs_5[24]? = some (.int 0) := by rw [exs_5, List.getElem?_set_ne (by decide)]; exact hp24
  have hp_13 : xs_5[25]? = some (.int 0) := by rw [exs_5, List.getElem?_set_ne (by decide)]; exact hp25
  have hp_14 : xs_5[29]? = some (.int 0) := by rw [exs_5, List.getElem?_set_ne (by decide)]; exact hp29
  have hp_15 : xs_5[31]? = some (.int (-1)) := by rw [exs_5, List.getElem?_set_ne (by decide)]; exact hp31
  have hp_16 : xs_5[43]? = some (.int 0) := by rw [exs_5, List.getElem?_set_ne (by decide)]; exact hp43
  have hp_17 : xs_5[53]? = some (.int 0) := by rw [exs_5, List.getElem?_set_ne (by decide)]; exact hp53
  have hp_18 : xs_5[32]? = some (.int v32) := by rw [exs_5, List.getElem?_set_ne (by decide)]; exact hp32
  have hp_19 : xs_5[33]? = some (.int v33) := by rw [exs_5, List.getElem?_set_ne (by decide)]; exact hp33
  have hp_20 : xs_5[34]? = some (.int v34) := by rw [exs_5, List.getElem?_set_ne (by decide)]; exact hp34
  have hp_21 : xs_5[30]? = some (.long v) := by rw [exs_5, List.getElem?_set_self (by rw [hxs]; decide)]
  have htp := htp.ext x_4 (Ne.symm (py_ne_arr hh htp))
  have hcd := hcd.ext x_4 (Ne.symm (py_ne_arr hh hcd))
  have hcl := hcl.ext x_4 (Ne.symm (py_ne_arr hh hcl))
  refine lv_iconst (v := 1) G.1 G.2.1 dX12_seed_5 (by decide) ?_
  exact py_iret G hr rfl hlk hw rfl dX12_seed_6

def w_X12_end : List Cond := .code yX12_end cX12_end 2 (some .boolean) :: ([Cond.fieldLink RX12 124 "HeadYearModel" "size" "I"] ++ (u_ws RX12 TX12 54 ++ ([])))
theorem in_X12_end_X12 : ∀ w ∈ u_ws RX12 TX12 54, w ∈ w_X12_end := fun _ h => List.mem_cons_of_mem _ (List.mem_append_right _ (List.mem_append_left _ h))
set_option maxHeartbeats 4000000 in
set_option maxRecDepth 100000 in
theorem c_X12_end (l : Launch) (E : py_E) (L : List Nat) (f : py_F) (sz : Nat) (h : Nat) (a : Int32) (hM : fr_M E L f h) : Met l yX12_end w_X12_end ({ frames := 0, cells := 0, slots := 0, locals := 0 }) (py_Pc E [.ref h, .int a] L f sz) (py_Qi E L f sz (fun r _ _ => r = (if a < 0 ∨ 0 < a then 0 else 1))) 0 0 (va_A (va_pl L f) sz) := by
  refine Met.ofW (cc := cX12_end) (maxL := 2) (ret := (some .boolean)) (by decide) rfl ?_
  intro p e s m args below meth c s₁ B hml hv
  obtain ⟨rfl, rfl, hw⟩ := py_start hv
  have G : CallFix p m c cX12_end 2 s _ w_X12_end RX12 := ⟨B.exec, B.bytes, hml, findClass_of_methodNamed B.named, atoms_spec (ws := w_X12_end) B.pre⟩
  have hr := B.returns
  have hlk := B.notSynchronized
  have hl := lv_entry ([.ref h, .int a]) (n := 2) (Nat.le_of_ble_eq_true rfl)
  rw [lg_entry_eq]
  generalize (lg_sl ([.ref h, .int a]) ++ List.replicate (2 - (lg_sl ([.ref h, .int a])).length) Slot.unset).toArray = ls at hl ⊢
  have hl : lv_has ls 2 [(0, .ref h), (1, .int a)] := hl
  obtain ⟨tp, cd, cl, g1, g2, g3, xs, v32, v33, v34, hh, hxs, hp1, hp2, hp8, hp9, hp13, hp24, hp25, hp29, hp31, hp43, hp53, ⟨hp32, hp33, hp34⟩, htp, hcd, hcl⟩ := id hM
  refine lv_iload_n G.1 G.2.1 dX12_end_0 rfl (lv_at hl 1 rfl) ?_
  refine lv_if_lt (tgt := 12) G.1 G.2.1 dX12_end_1 (by decide) (fun c_1 => ?_) (fun c_1 => ?_)
  · skip
    refine lv_iconst (v := 0) G.1 G.2.1 dX12_end_12 (by decide) ?_
    exact py_iret G hr rfl hlk hw (by simp [c_1]) dX12_end_13
  · skip
    refine lv_iload_n G.1 G.2.1 dX12_end_4 rfl (lv_at hl 1 rfl) ?_
    refine lv_aload_n G.1 G.2.1 dX12_end_5 rfl (lv_at hl 0 rfl) ?_
    refine py_get (C := RX12) (T := TX12) (N := 54) (k := 2) (v := .int 0) G hw in_X12_end_X12 rfl hh (by decide) (by decide +kernel) hp2 dX12_end_6 ?_
    refine lv_icmp_le (tgt := 14) G.1 G.2.1 dX12_end_9 (by decide) (fun c_2 => ?_) (fun c_2 => ?_)
    · skip
      refine lv_aload_n G.1 G.2.1 dX12_end_14 rfl (lv_at hl 0 rfl) ?_
      refine lv_iload_n G.1 G.2.1 dX12_end_15 rfl (lv_at hl 1 rfl) ?_
      refine py_put (C := RX12) (T := TX12) (N := 54) (k := 2) (v := .int a) (fs' := xs.set 2 (.int a)) (ty0 := tyX12) G hw tyX12_ok nmX12 in_X12_end_X12 rfl hh (by decide) (by decide +kernel) rfl rfl rfl rfl (py_len hxs (by decide)) rfl dX12_end_16 (fun f_3 H_4 locs h_5 x_6 hw => ?_)
      obtain ⟨xs_7, exs_7⟩ : ∃ y, y = xs.set 2 (.int a) := ⟨_, rfl⟩
      rw [← exs_7] at h_5
      have hl_8 : xs_7.length = 54 := by rw [exs_7, List.length_set]; exact hxs
      have hp_9 : xs_7[1]? = some (.ref tp) := by rw [exs_7, List.getElem?_set_ne (by decide)]; exact hp1
      have hp_10 : xs_7[8]? = some (.ref cd) := by rw [exs_7, List.getElem?_set_ne (by decide)]; exact hp8
      have hp_11 : xs_7[9]? = some (.ref cl) := by rw [exs_7, List.getElem?_set_ne (by decide)]; exact hp9
      have hp_12 : xs_7[13]? = some (.int 0) := by rw [exs_7, List.getElem?_set_ne (by decide)]; exact hp13
      have hp_13 : xs_7[24]? = some (.int 0) := by rw [exs_7, List.getElem?_set_ne (by decide)]; exact hp24
      have hp_14 : xs_7[25]? = some (.int 0) := by rw [exs_7, List.getElem?_set_ne (by decide)]; exact hp25
      have hp_15 : xs_7[29]? = some (.int 0) := by rw [exs_7, List.getElem?_set_ne (by decide)]; exact hp29
      have hp_16 : xs_7[31]? = some (.int (-1)) := by rw [exs_7, List.getElem?_set_ne (by decide)]; exact hp31
      have hp_17 : xs_7[43]? = some (.int 0) := by rw [exs_7, List.getElem?_set_ne (by decide)]; exact hp43
      have hp_18 : xs_7[53]? = some (.int 0) := by rw [exs_7, List.getElem?_set_ne (by decide)]; exact hp53
      have hp_19 : xs_7[32]? = some (.int v32) := by rw [exs_7, List.getElem?_set_ne (by decide)]; exact hp32
      have hp_20 : xs_7[33]? = some (.int v33) := by rw [exs_7, List.getElem?_set_ne (by decide)]; exact hp33
      have hp_21 : xs_7[34]? = some (.int v34) := by rw [exs_7, List.getElem?_set_ne (by decide)]; exact hp34
      have hp_22 : xs_7[2]? = some (.int a) := by rw [exs_7, List.getElem?_set_self (by rw [hxs]; decide)]
      have htp := htp.ext x_6 (Ne.symm (py_ne_arr hh htp))
      have hcd := hcd.ext x_6 (Ne.symm (py_ne_arr hh hcd))
      have hcl := hcl.ext x_6 (Ne.symm (py_ne_arr hh hcl))
      refine lv_iconst (v := 1) G.1 G.2.1 dX12_end_19 (by decide) ?_
      exact py_iret G hr rfl hlk hw (by simp [c_1, c_2]) dX12_end_20
    · skip
      refine lv_iconst (v := 0) G.1 G.2.1 dX12_end_12 (by decide) ?_
      exact py_iret G hr rfl hlk hw (by simp [c_1, c_2]) dX12_end_13

def w_X12_law : List Cond := .code yX12_law cX12_law 2 (some .boolean) :: ([Cond.fieldLink RX12 322 "HeadYearModel" "laws" "I", Cond.methodLink RX12 232 yX12_in, Cond.static yX12_in, Cond.initialized RX12, Cond.fieldLink RX12 64 "HeadYearModel" "holding" "I"] ++ (u_ws RX12 TX12 54 ++ (w_X12_in ++ ([]))))
theorem in_X12_law_X12 : ∀ w ∈ u_ws RX12 TX12 54, w ∈ w_X12_law := fun _ h => List.mem_cons_of_mem _ (List.mem_append_right _ (List.mem_append_left _ h))
theorem gg_X12_law_X12_in : GoodIn w_X12_law w_X12_in := goodIn_sub (fun _ h => List.mem_cons_of_mem _ (List.mem_append_right _ (List.mem_append_right _ (List.mem_append_left _ h)))) (by decide +kernel)
theorem g_X12_law_X12_in_232 : GoodIn w_X12_law (va_wsS RX12 232 yX12_in w_X12_in) := goodIn_app (goodIn_of _ (by decide +kernel)) gg_X12_law_X12_in
set_option maxHeartbeats 4000000 in
set_option maxRecDepth 100000 in
theorem c_X12_law (l : Launch) (E : py_E) (L : List Nat) (f : py_F) (sz : Nat) (h : Nat) (a : Int32) (hM : fr_M E L f h) : Met l yX12_law w_X12_law ({ frames := 1, cells := 0, slots := 0, locals := 22 }) (py_Pc E [.ref h, .int a] L f sz) (py_Qi E L f sz (fun r _ _ => r = (if a = -1 then 1 else 0))) 0 0 (va_A (va_pl L f) sz) := by
  refine Met.ofW (cc := cX12_law) (maxL := 2) (ret := (some .boolean)) (by decide) rfl ?_
  intro p e s m args below meth c s₁ B hml hv
  obtain ⟨rfl, rfl, hw⟩ := py_start hv
  have G : CallFix p m c cX12_law 2 s _ w_X12_law RX12 := ⟨B.exec, B.bytes, hml, findClass_of_methodNamed B.named, atoms_spec (ws := w_X12_law) B.pre⟩
  have hr := B.returns
  have hlk := B.notSynchronized
  have hl := lv_entry ([.ref h, .int a]) (n := 2) (Nat.le_of_ble_eq_true rfl)
  rw [lg_entry_eq]
  generalize (lg_sl ([.ref h, .int a]) ++ List.replicate (2 - (lg_sl ([.ref h, .int a])).length) Slot.unset).toArray = ls at hl ⊢
  have hl : lv_has ls 2 [(0, .ref h), (1, .int a)] := hl
  obtain ⟨tp, cd, cl, g1, g2, g3, xs, v32, v33, v34, hh, hxs, hp1, hp2, hp8, hp9, hp13, hp24, hp25, hp29, hp31, hp43, hp53, ⟨hp32, hp33, hp34⟩, htp, hcd, hcl⟩ := id hM
  refine lv_iload_n G.1 G.2.1 dX12_law_0 rfl (lv_at hl 1 rfl) ?_
  refine lv_iconst (v := (-1)) G.1 G.2.1 dX12_law_1 (by decide) ?_
  refine lv_aload_n G.1 G.2.1 dX12_law_2 rfl (lv_at hl 0 rfl) ?_
  refine py_get (C := RX12) (T := TX12) (N := 54) (k := 13) (v := .int 0) G hw in_X12_law_X12 rfl hh (by decide) (by decide +kernel) hp13 dX12_law_3 ?_
  refine lv_iconst (v := 1) G.1 G.2.1 dX12_law_6 (by decide) ?_
  refine lv_isub G.1 G.2.1 dX12_law_7 ?_
  rw [show 0 - 1 = ((-1) : Int32) by decide]
  refine py_calli hw (va_runS (As := [.int a, .int (-1), .int (-1)]) (rest := []) G (c_X12_in l E L f s.heap.size a (-1) (-1)) (va_cwS 3 G.2.2.2.2 g_X12_law_X12_in_232 rfl rfl rfl (by decide +kernel) ⟨(Nat.le_of_ble_eq_true rfl), (Nat.le_of_ble_eq_true rfl)⟩) (py_preS hw) rfl rfl hl.1 rfl (lv_room (Nat.le_of_ble_eq_true rfl)) dX12_law_8 ⟨(Nat.le_of_ble_eq_true rfl), (Nat.le_of_ble_eq_true rfl)⟩) (fun r_5 L_1 f_2 H_3 locs hp_4 hw => ?_)
  obtain ⟨rfl, rfl, hi_6⟩ := hp_4
  rcases hi_6 with ⟨rfl, hi_6⟩ | ⟨rfl, hi_6⟩
  · skip
    refine lv_if_ne (tgt := 16) G.1 G.2.1 dX12_law_11 (by decide) (fun c_7 => ?_) (fun c_7 => ?_)
    · skip
      refine lv_aload_n G.1 G.2.1 dX12_law_16 rfl (lv_at hl 0 rfl) ?_
      refine lv_iload_n G.1 G.2.1 dX12_law_17 rfl (lv_at hl 1 rfl) ?_
      refine py_put (C := RX12) (T := TX12) (N := 54) (k := 31) (v := .int a) (fs' := xs.set 31 (.int a)) (ty0 := tyX12) G hw tyX12_ok nmX12 in_X12_law_X12 rfl hh (by decide) (by decide +kernel) rfl rfl rfl rfl (py_len hxs (by decide)) rfl dX12_law_18 (fun f_8 H_9 locs h_10 x_11 hw => ?_)
      obtain ⟨xs_12, exs_12⟩ : ∃ y, y = xs.set 31 (.int a) := ⟨_, rfl⟩
      rw [← exs_12] at h_10
      have hl_13 : xs_12.length = 54 := by rw [exs_12, List.length_set]; exact hxs
      have hp_14 : xs_12[1]? = some (.ref tp) := by rw [exs_12, List.getElem?_set_ne (by decide)]; exact hp1
      have hp_15 : xs_12[2]? = some (.int 0) := by rw [exs_12, List.getElem?_set_ne (by decide)]; exact hp2
      have hp_16 : xs_12[8]? = some (.ref cd) := by rw [exs_12, List.getElem?_set_ne (by decide)]; exact hp8
      have hp_17 : xs_12[9]? = some (.ref cl) := by rw [exs_12, List.getElem?_set_ne (by decide)]; exact hp9
      have hp_18 : xs_12[13]? = some (.int 0) := by rw [exs_12, List.getElem?_set_ne (by decide)]; exact hp13
      have hp_19 : xs_12[24]? = some (.int 0) := by rw [exs_12, List.getElem?_set_ne (by decide)]; exact hp24
      have hp_20 : xs_12[25]? = some (.int 0) := by rw [exs_12, List.getElem?_set_ne (by decide)]; exact hp25
      have hp_21 : xs_12[29]? = some (.int 0) := by rw [exs_12, List.getElem?_set_ne (by decide)]; exact hp29
      have hp_22 : xs_12[43]? = some (.int 0) := by rw [exs_12, List.getElem?_set_ne (by decide)]; exact hp43
      have hp_23 : xs_12[53]? = some (.int 0) := by rw [exs_12, List.getElem?_set_ne (by decide)]; exact hp53
      have hp_24 : xs_12[32]? = some (.int v32) := by rw [exs_12, List.getElem?_set_ne (by decide)]; exact hp32
      have hp_25 : xs_12[33]? = some (.int v33) := by rw [exs_12, List.getElem?_set_ne (by decide)]; exact hp33
      have hp_26 : xs_12[34]? = some (.int v34) := by rw [exs_12, List.getElem?_set_ne (by decide)]; exact hp34
      have hp_27 : xs_12[31]? = some (.int a) := by rw [exs_12, List.getElem?_set_self (by rw [hxs]; decide)]
      have htp := htp.ext x_11 (Ne.symm (py_ne_arr hh htp))
      have hcd := hcd.ext x_11 (Ne.symm (py_ne_arr hh hcd))
      have hcl := hcl.ext x_11 (Ne.symm (py_ne_arr hh hcl))
      refine lv_iconst (v := 1) G.1 G.2.1 dX12_law_21 (by decide) ?_
      exact py_iret G hr rfl hlk hw (by have z0 : (-1 : Int32).toInt = -1 := rfl; simp only [Int32.le_iff_toInt_le, ← Int32.toInt_inj] at hi_6 c_7 ⊢; split <;> first | rfl | omega) dX12_law_22
    · skip
      exact absurd c_7 (by decide)
  · skip
    refine lv_if_ne (tgt := 16) G.1 G.2.1 dX12_law_11 (by decide) (fun c_28 => ?_) (fun c_28 => ?_)
    · skip
      exact absurd c_28 (by decide)
    · skip
      refine lv_iconst (v := 0) G.1 G.2.1 dX12_law_14 (by decide) ?_
      exact py_iret G hr rfl hlk hw (by have z0 : (-1 : Int32).toInt = -1 := rfl; simp only [Int32.le_iff_toInt_le, ← Int32.toInt_inj] at hi_6 c_28 ⊢; split <;> first | rfl | omega) dX12_law_15

def w_X12_set : List Cond := .code yX12_set cX12_set 3 (some .boolean) :: ([Cond.methodLink RX12 232 yX12_in, Cond.static yX12_in, Cond.initialized RX12, Cond.fieldLink RX12 68 "HeadYearModel" "find" "I", Cond.fieldLink RX12 354 "HeadYearModel" "luck" "I", Cond.fieldLink RX12 71 "HeadYearModel" "price" "I"] ++ (u_ws RX12 TX12 54 ++ (w_X12_in ++ ([]))))
theorem in_X12_set_X12 : ∀ w ∈ u_ws RX12 TX12 54, w ∈ w_X12_set := fun _ h => List.mem_cons_of_mem _ (List.mem_append_right _ (List.mem_append_left _ h))
theorem gg_X12_set_X12_in : GoodIn w_X12_set w_X12_in := goodIn_sub (fun _ h => List.mem_cons_of_mem _ (List.mem_append_right _ (List.mem_append_right _ (List.mem_append_left _ h)))) (by decide +kernel)
theorem g_X12_set_X12_in_232 : GoodIn w_X12_set (va_wsS RX12 232 yX12_in w_X12_in) := goodIn_app (goodIn_of _ (by decide +kernel)) gg_X12_set_X12_in
set_option maxHeartbeats 4000000 in
set_option maxRecDepth 100000 in
theorem c_X12_set (l : Launch) (E : py_E) (L : List Nat) (f : py_F) (sz : Nat) (h : Nat) (a : Int32) (b : Int32) (hM : fr_M E L f h) : Met l yX12_set w_X12_set ({ frames := 1, cells := 0, slots := 0, locals := 22 }) (py_Pc E [.ref h, .int a, .int b] L f sz) (py_Qi E L f sz (fun r _ _ => r = sp_set a b)) 0 0 (va_A (va_pl L f) sz) := by
  refine Met.ofW (cc := cX12_set) (maxL := 3) (ret := (some .boolean)) (by decide) rfl ?_
  intro p e s m args below meth c s₁ B hml hv
  obtain ⟨rfl, rfl, hw⟩ := py_start hv
  have G : CallFix p m c cX12_set 3 s _ w_X12_set RX12 := ⟨B.exec, B.bytes, hml, findClass_of_methodNamed B.named, atoms_spec (ws := w_X12_set) B.pre⟩
  have hr := B.returns
  have hlk := B.notSynchronized
  have hl := lv_entry ([.ref h, .int a, .int b]) (n := 3) (Nat.le_of_ble_eq_true rfl)
  rw [lg_entry_eq]
  generalize (lg_sl ([.ref h, .int a, .int b]) ++ List.replicate (3 - (lg_sl ([.ref h, .int a, .int b])).length) Slot.unset).toArray = ls at hl ⊢
  have hl : lv_has ls 3 [(0, .ref h), (1, .int a), (2, .int b)] := hl
  obtain ⟨tp, cd, cl, g1, g2, g3, xs, v32, v33, v34, hh, hxs, hp1, hp2, hp8, hp9, hp13, hp24, hp25, hp29, hp31, hp43, hp53, ⟨hp32, hp33, hp34⟩, htp, hcd, hcl⟩ := id hM
  refine lv_iload_n G.1 G.2.1 dX12_set_0 rfl (lv_at hl 1 rfl) ?_
  refine lv_iconst (v := 0) G.1 G.2.1 dX12_set_1 (by decide) ?_
  refine lv_iconst (v := 2) G.1 G.2.1 dX12_set_2 (by decide) ?_
  refine py_calli hw (va_runS (As := [.int a, .int 0, .int 2]) (rest := []) G (c_X12_in l E L f s.heap.size a 0 2) (va_cwS 3 G.2.2.2.2 g_X12_set_X12_in_232 rfl rfl rfl (by decide +kernel) ⟨(Nat.le_of_ble_eq_true rfl), (Nat.le_of_ble_eq_true rfl)⟩) (py_preS hw) rfl rfl hl.1 rfl (lv_room (Nat.le_of_ble_eq_true rfl)) dX12_set_3 ⟨(Nat.le_of_ble_eq_true rfl), (Nat.le_of_ble_eq_true rfl)⟩) (fun r_5 L_1 f_2 H_3 locs hp_4 hw => ?_)
  obtain ⟨rfl, rfl, hi_6⟩ := hp_4
  rcases hi_6 with ⟨rfl, hi_6⟩ | ⟨rfl, hi_6⟩
  · skip
    refine lv_if_eq (tgt := 37) G.1 G.2.1 dX12_set_6 (by decide) (fun c_7 => ?_) (fun c_7 => ?_)
    · skip
      exact absurd c_7 (by decide)
    · skip
      refine lv_iload_n G.1 G.2.1 dX12_set_9 rfl (lv_at hl 2 rfl) ?_
      refine lv_iconst (v := 0) G.1 G.2.1 dX12_set_10 (by decide) ?_
      refine lv_iload_n G.1 G.2.1 dX12_set_11 rfl (lv_at hl 1 rfl) ?_
      refine lv_if_ne (tgt := 20) G.1 G.2.1 dX12_set_12 (by decide) (fun c_8 => ?_) (fun c_8 => ?_)
      · skip
        refine lv_iload_n G.1 G.2.1 dX12_set_20 rfl (lv_at hl 1 rfl) ?_
        refine lv_iconst (v := 1) G.1 G.2.1 dX12_set_21 (by decide) ?_
        refine lv_icmp_ne (tgt := 29) G.1 G.2.1 dX12_set_22 (by decide) (fun c_9 => ?_) (fun c_9 => ?_)
        · skip
          refine lv_bipush (v := 99) G.1 G.2.1 dX12_set_29 (by decide) ?_
          refine py_calli hw (va_runS (As := [.int b, .int 0, .int 99]) (rest := []) G (c_X12_in l E L f H_3.size b 0 99) (va_cwS 3 G.2.2.2.2 g_X12_set_X12_in_232 rfl rfl rfl (by decide +kernel) ⟨(Nat.le_of_ble_eq_true rfl), (Nat.le_of_ble_eq_true rfl)⟩) (py_preS hw) rfl rfl hl.1 rfl (lv_room (Nat.le_of_ble_eq_true rfl)) dX12_set_31 ⟨(Nat.le_of_ble_eq_true rfl), (Nat.le_of_ble_eq_true rfl)⟩) (fun r_14 L_10 f_11 H_12 locs hp_13 hw => ?_)
          obtain ⟨rfl, rfl, hi_15⟩ := hp_13
          rcases hi_15 with ⟨rfl, hi_15⟩ | ⟨rfl, hi_15⟩
          · skip
            refine lv_if_ne (tgt := 39) G.1 G.2.1 dX12_set_34 (by decide) (fun c_16 => ?_) (fun c_16 => ?_)
            · skip
              refine lv_aload_n G.1 G.2.1 dX12_set_39 rfl (lv_at hl 0 rfl) ?_
              refine lv_iload_n G.1 G.2.1 dX12_set_40 rfl (lv_at hl 1 rfl) ?_
              refine lv_if_ne (tgt := 48) G.1 G.2.1 dX12_set_41 (by decide) (fun c_17 => ?_) (fun c_17 => ?_)
              · skip
                refine lv_aload_n G.1 G.2.1 dX12_set_48 rfl (lv_at hl 0 rfl) ?_
                refine py_get (C := RX12) (T := TX12) (N := 54) (k := 32) (v := .int v32) G hw in_X12_set_X12 rfl hh (by decide) (by decide +kernel) hp32 dX12_set_49 ?_
                refine py_put (C := RX12) (T := TX12) (N := 54) (k := 32) (v := .int v32) (fs' := xs.set 32 (.int v32)) (ty0 := tyX12) G hw tyX12_ok nmX12 in_X12_set_X12 rfl hh (by decide) (by decide +kernel) rfl rfl rfl rfl (py_len hxs (by decide)) rfl dX12_set_52 (fun f_18 H_19 locs h_20 x_21 hw => ?_)
                obtain ⟨xs_22, exs_22⟩ : ∃ y, y = xs.set 32 (.int v32) := ⟨_, rfl⟩
                rw [← exs_22] at h_20
                have hl_23 : xs_22.length = 54 := by rw [exs_22, List.length_set]; exact hxs
                have hp_24 : xs_22[1]? = some (.ref tp) := by rw [exs_22, List.getElem?_set_ne (by decide)]; exact hp1
                have hp_25 : xs_22[2]? = some (.int 0) := by rw [exs_22, List.getElem?_set_ne (by decide)]; exact hp2
                have hp_26 : xs_22[8]? = some (.ref cd) := by rw [exs_22, List.getElem?_set_ne (by decide)]; exact hp8
                have hp_27 : xs_22[9]? = some (.ref cl) := by rw [exs_22, List.getElem?_set_ne (by decide)]; exact hp9
                have hp_28 : xs_22[13]? = some (.int 0) := by rw [exs_22, List.getElem?_set_ne (by decide)]; exact hp13
                have hp_29 : xs_22[24]? = some (.int 0) := by rw [exs_22, List.getElem?_set_ne (by decide)]; exact hp24
                have hp_30 : xs_22[25]? = some (.int 0) := by rw [exs_22, List.getElem?_set_ne (by decide)]; exact hp25
                have hp_31 : xs_22[29]? = some (.int 0) := by rw [exs_22, List.getElem?_set_ne (by decide)]; exact hp29
                have hp_32 : xs_22[31]? = some (.int (-1)) := by rw [exs_22, List.getElem?_set_ne (by decide)]; exact hp31
                have hp_33 : xs_22[43]? = some (.int 0) := by rw [exs_22, List.getElem?_set_ne (by decide)]; exact hp43
                have hp_34 : xs_22[53]? = some (.int 0) := by rw [exs_22, List.getElem?_set_ne (by decide)]; exact hp53
                have hp_35 : xs_22[33]? = some (.int v33) := by rw [exs_22, List.getElem?_set_ne (by decide)]; exact hp33
                have hp_36 : xs_22[34]? = some (.int v34) := by rw [exs_22, List.getElem?_set_ne (by decide)]; exact hp34
                have hp_37 : xs_22[32]? = some (.int v32) := by rw [exs_22, List.getElem?_set_self (by rw [hxs]; decide)]
                have htp := htp.ext x_21 (Ne.symm (py_ne_arr hh htp))
                have hcd := hcd.ext x_21 (Ne.symm (py_ne_arr hh hcd))
                have hcl := hcl.ext x_21 (Ne.symm (py_ne_arr hh hcl))
                refine lv_aload_n G.1 G.2.1 dX12_set_55 rfl (lv_at hl 0 rfl) ?_
                refine lv_iload_n G.1 G.2.1 dX12_set_56 rfl (lv_at hl 1 rfl) ?_
                refine lv_iconst (v := 1) G.1 G.2.1 dX12_set_57 (by decide) ?_
                refine lv_icmp_ne (tgt := 65) G.1 G.2.1 dX12_set_58 (by decide) (fun c_38 => ?_) (fun c_38 => ?_)
                · skip
                  refine lv_aload_n G.1 G.2.1 dX12_set_65 rfl (lv_at hl 0 rfl) ?_
                  refine py_get (C := RX12) (T := TX12) (N := 54) (k := 33) (v := .int v33) G hw in_X12_set_X12 rfl h_20 (by decide) (by decide +kernel) hp_35 dX12_set_66 ?_
                  refine py_put (C := RX12) (T := TX12) (N := 54) (k := 33) (v := .int v33) (fs' := xs_22.set 33 (.int v33)) (ty0 := tyX12) G hw tyX12_ok nmX12 in_X12_set_X12 rfl h_20 (by decide) (by decide +kernel) rfl rfl rfl rfl (py_len hl_23 (by decide)) rfl dX12_set_69 (fun f_39 H_40 locs h_41 x_42 hw => ?_)
                  obtain ⟨xs_43, exs_43⟩ : ∃ y, y = xs_22.set 33 (.int v33) := ⟨_, rfl⟩
                  rw [← exs_43] at h_41
                  have hl_44 : xs_43.length = 54 := by rw [exs_43, List.length_set]; exact hl_23
                  have hp_45 : xs_43[1]? = some (.ref tp) := by rw [exs_43, List.getElem?_set_ne (by decide)]; exact hp_24
                  have hp_46 : xs_43[2]? = some (.int 0) := by rw [exs_43, List.getElem?_set_ne (by decide)]; exact hp_25
                  have hp_47 : xs_43[8]? = some (.ref cd) := by rw [exs_43, List.getElem?_set_ne (by decide)]; exact hp_26
                  have hp_48 : xs_43[9]? = some (.ref cl) := by rw [exs_43, List.getElem?_set_ne (by decide)]; exact hp_27
                  have hp_49 : xs_43[13]? = some (.int 0) := by rw [exs_43, List.getElem?_set_ne (by decide)]; exact hp_28
                  have hp_50 : xs_43[24]? = some (.int 0) := by rw [exs_43, List.getElem?_set_ne (by decide)]; exact hp_29
                  have hp_51 : xs_43[25]? = some (.int 0) := by rw [exs_43, List.getElem?_set_ne (by decide)]; exact hp_30
                  have hp_52 : xs_43[29]? = some (.int 0) := by rw [exs_43, List.getElem?_set_ne (by decide)]; exact hp_31
                  have hp_53 : xs_43[31]? = some (.int (-1)) := by rw [exs_43, List.getElem?_set_ne (by decide)]; exact hp_32
                  have hp_54 : xs_43[43]? = some (.int 0) := by rw [exs_43, List.getElem?_set_ne (by decide)]; exact hp_33
                  have hp_55 : xs_43[53]? = some (.int 0) := by rw [exs_43, List.getElem?_set_ne (by decide)]; exact hp_34
                  have hp_56 : xs_43[34]? = some (.int v34) := by rw [exs_43, List.getElem?_set_ne (by decide)]; exact hp_36
                  have hp_57 : xs_43[32]? = some (.int v32) := by rw [exs_43, List.getElem?_set_ne (by decide)]; exact hp_37
                  have hp_58 : xs_43[33]? = some (.int v33) := by rw [exs_43, List.getElem?_set_self (by rw [hl_23]; decide)]
                  have htp := htp.ext x_42 (Ne.symm (py_ne_arr h_20 htp))
                  have hcd := hcd.ext x_42 (Ne.symm (py_ne_arr h_20 hcd))
                  have hcl := hcl.ext x_42 (Ne.symm (py_ne_arr h_20 hcl))
                  refine lv_aload_n G.1 G.2.1 dX12_set_72 rfl (lv_at hl 0 rfl) ?_
                  refine lv_iload_n G.1 G.2.1 dX12_set_73 rfl (lv_at hl 1 rfl) ?_
                  refine lv_iconst (v := 2) G.1 G.2.1 dX12_set_74 (by decide) ?_
                  refine lv_icmp_ne (tgt := 82) G.1 G.2.1 dX12_set_75 (by decide) (fun c_59 => ?_) (fun c_59 => ?_)
                  · skip
                    refine lv_aload_n G.1 G.2.1 dX12_set_82 rfl (lv_at hl 0 rfl) ?_
                    refine py_get (C := RX12) (T := TX12) (N := 54) (k := 34) (v := .int v34) G hw in_X12_set_X12 rfl h_41 (by decide) (by decide +kernel) hp_56 dX12_set_83 ?_
                    refine py_put (C := RX12) (T := TX12) (N := 54) (k := 34) (v := .int v34) (fs' := xs_43.set 34 (.int v34)) (ty0 := tyX12) G hw tyX12_ok nmX12 in_X12_set_X12 rfl h_41 (by decide) (by decide +kernel) rfl rfl rfl rfl (py_len hl_44 (by decide)) rfl dX12_set_86 (fun f_60 H_61 locs h_62 x_63 hw => ?_)
                    obtain ⟨xs_64, exs_64⟩ : ∃ y, y = xs_43.set 34 (.int v34) := ⟨_, rfl⟩
                    rw [← exs_64] at h_62
                    have hl_65 : xs_64.length = 54 := by rw [exs_64, List.length_set]; exact hl_44
                    have hp_66 : xs_64[1]? = some (.ref tp) := by rw [exs_64, List.getElem?_set_ne (by decide)]; exact hp_45
                    have hp_67 : xs_64[2]? = some (.int 0) := by rw [exs_64, List.getElem?_set_ne (by decide)]; exact hp_46
                    have hp_68 : xs_64[8]? = some (.ref cd) := by rw [exs_64, List.getElem?_set_ne (by decide)]; exact hp_47
                    have hp_69 : xs_64[9]? = some (.ref cl) := by rw [exs_64, List.getElem?_set_ne (by decide)]; exact hp_48
                    have hp_70 : xs_64[13]? = some (.int 0) := by rw [exs_64, List.getElem?_set_ne (by decide)]; exact hp_49
                    have hp_71 : xs_64[24]? = some (.int 0) := by rw [exs_64, List.getElem?_set_ne (by decide)]; exact hp_50
                    have hp_72 : xs_64[25]? = some (.int 0) := by rw [exs_64, List.getElem?_set_ne (by decide)]; exact hp_51
                    have hp_73 : xs_64[29]? = some (.int 0) := by rw [exs_64, List.getElem?_set_ne (by decide)]; exact hp_52
                    have hp_74 : xs_64[31]? = some (.int (-1)) := by rw [exs_64, List.getElem?_set_ne (by decide)]; exact hp_53
                    have hp_75 : xs_64[43]? = some (.int 0) := by rw [exs_64, List.getElem?_set_ne (by decide)]; exact hp_54
                    have hp_76 : xs_64[53]? = some (.int 0) := by rw [exs_64, List.getElem?_set_ne (by decide)]; exact hp_55
                    have hp_77 : xs_64[32]? = some (.int v32) := by rw [exs_64, List.getElem?_set_ne (by decide)]; exact hp_57
                    have hp_78 : xs_64[33]? = some (.int v33) := by rw [exs_64, List.getElem?_set_ne (by decide)]; exact hp_58
                    have hp_79 : xs_64[34]? = some (.int v34) := by rw [exs_64, List.getElem?_set_self (by rw [hl_44]; decide)]
                    have htp := htp.ext x_63 (Ne.symm (py_ne_arr h_41 htp))
                    have hcd := hcd.ext x_63 (Ne.symm (py_ne_arr h_41 hcd))
                    have hcl := hcl.ext x_63 (Ne.symm (py_ne_arr h_41 hcl))
                    refine lv_iconst (v := 1) G.1 G.2.1 dX12_set_89 (by decide) ?_
                    exact py_iret G hr rfl hlk hw (by first | (simp [sp_set, hi_6, c_7, c_8, c_9, hi_15, c_16, c_17, c_38, c_59]; done) | (first | decide | exact absurd rfl hi_6 | exact absurd rfl c_7 | exact absurd rfl c_8 | exact absurd rfl c_9 | exact absurd rfl hi_15 | exact absurd rfl c_16 | exact absurd rfl c_17 | exact absurd rfl c_38 | exact absurd rfl c_59 | (have h9 := Int32.not_lt.mp hi_6; simp [sp_set, h9, hi_6, c_7, c_8, c_9, hi_15, c_16, c_17, c_38, c_59]; done) | (have h9 := Int32.not_lt.mp c_7; simp [sp_set, h9, hi_6, c_7, c_8, c_9, hi_15, c_16, c_17, c_38, c_59]; done) | (have h9 := Int32.not_lt.mp c_8; simp [sp_set, h9, hi_6, c_7, c_8, c_9, hi_15, c_16, c_17, c_38, c_59]; done) | (have h9 := Int32.not_lt.mp c_9; simp [sp_set, h9, hi_6, c_7, c_8, c_9, hi_15, c_16, c_17, c_38, c_59]; done) | (have h9 := Int32.not_lt.mp hi_15; simp [sp_set, h9, hi_6, c_7, c_8, c_9, hi_15, c_16, c_17, c_38, c_59]; done) | (have h9 := Int32.not_lt.mp c_16; simp [sp_set, h9, hi_6, c_7, c_8, c_9, hi_15, c_16, c_17, c_38, c_59]; done) | (have h9 := Int32.not_lt.mp c_17; simp [sp_set, h9, hi_6, c_7, c_8, c_9, hi_15, c_16, c_17, c_38, c_59]; done) | (have h9 := Int32.not_lt.mp c_38; simp [sp_set, h9, hi_6, c_7, c_8, c_9, hi_15, c_16, c_17, c_38, c_59]; done) | (have h9 := Int32.not_lt.mp c_59; simp [sp_set, h9, hi_6, c_7, c_8, c_9, hi_15, c_16, c_17, c_38, c_59]; done) | (have z0 : (0 : Int32).toInt = 0 := rfl; have z1 : (1 : Int32).toInt = 1 := rfl; have z2 : (2 : Int32).toInt = 2 := rfl; have z3 : (99 : Int32).toInt = 99 := rfl; have z4 : (100 : Int32).toInt = 100 := rfl; simp only [sp_set, Int32.lt_iff_toInt_lt, Int32.le_iff_toInt_le, ← Int32.toInt_inj] at hi_6 c_7 c_8 c_9 hi_15 c_16 c_17 c_38 c_59 ⊢; split <;> first | rfl | omega))) dX12_set_90
                  · skip
                    subst c_59
                    refine lv_iload_n G.1 G.2.1 dX12_set_78 rfl (lv_at hl 2 rfl) ?_
                    refine lv_goto (tgt := 86) G.1 G.2.1 dX12_set_79 (by decide) ?_
                    refine py_put (C := RX12) (T := TX12) (N := 54) (k := 34) (v := .int b) (fs' := xs_43.set 34 (.int b)) (ty0 := tyX12) G hw tyX12_ok nmX12 in_X12_set_X12 rfl h_41 (by decide) (by decide +kernel) rfl rfl rfl rfl (py_len hl_44 (by decide)) rfl dX12_set_86 (fun f_80 H_81 locs h_82 x_83 hw => ?_)
                    obtain ⟨xs_84, exs_84⟩ : ∃ y, y = xs_43.set 34 (.int b) := ⟨_, rfl⟩
                    rw [← exs_84] at h_82
                    have hl_85 : xs_84.length = 54 := by rw [exs_84, List.length_set]; exact hl_44
                    have hp_86 : xs_84[1]? = some (.ref tp) := by rw [exs_84, List.getElem?_set_ne (by decide)]; exact hp_45
                    have hp_87 : xs_84[2]? = some (.int 0) := by rw [exs_84, List.getElem?_set_ne (by decide)]; exact hp_46
                    have hp_88 : xs_84[8]? = some (.ref cd) := by rw [exs_84, List.getElem?_set_ne (by decide)]; exact hp_47
                    have hp_89 : xs_84[9]? = some (.ref cl) := by rw [exs_84, List.getElem?_set_ne (by decide)]; exact hp_48
                    have hp_90 : xs_84[13]? = some (.int 0) := by rw [exs_84, List.getElem?_set_ne (by decide)]; exact hp_49
                    have hp_91 : xs_84[24]? = some (.int 0) := by rw [exs_84, List.getElem?_set_ne (by decide)]; exact hp_50
                    have hp_92 : xs_84[25]? = some (.int 0) := by rw [exs_84, List.getElem?_set_ne (by decide)]; exact hp_51
                    have hp_93 : xs_84[29]? = some (.int 0) := by rw [exs_84, List.getElem?_set_ne (by decide)]; exact hp_52
                    have hp_94 : xs_84[31]? = some (.int (-1)) := by rw [exs_84, List.getElem?_set_ne (by decide)]; exact hp_53
                    have hp_95 : xs_84[43]? = some (.int 0) := by rw [exs_84, List.getElem?_set_ne (by decide)]; exact hp_54
                    have hp_96 : xs_84[53]? = some (.int 0) := by rw [exs_84, List.getElem?_set_ne (by decide)]; exact hp_55
                    have hp_97 : xs_84[32]? = some (.int v32) := by rw [exs_84, List.getElem?_set_ne (by decide)]; exact hp_57
                    have hp_98 : xs_84[33]? = some (.int v33) := by rw [exs_84, List.getElem?_set_ne (by decide)]; exact hp_58
                    have hp_99 : xs_84[34]? = some (.int b) := by rw [exs_84, List.getElem?_set_self (by rw [hl_44]; decide)]
                    have htp := htp.ext x_83 (Ne.symm (py_ne_arr h_41 htp))
                    have hcd := hcd.ext x_83 (Ne.symm (py_ne_arr h_41 hcd))
                    have hcl := hcl.ext x_83 (Ne.symm (py_ne_arr h_41 hcl))
                    refine lv_iconst (v := 1) G.1 G.2.1 dX12_set_89 (by decide) ?_
                    exact py_iret G hr rfl hlk hw (by first | (simp [sp_set, hi_6, c_7, c_8, c_9, hi_15, c_16, c_17, c_38]; done) | (first | decide | exact absurd rfl hi_6 | exact absurd rfl c_7 | exact absurd rfl c_8 | exact absurd rfl c_9 | exact absurd rfl hi_15 | exact absurd rfl c_16 | exact absurd rfl c_17 | exact absurd rfl c_38 | (have h9 := Int32.not_lt.mp hi_6; simp [sp_set, h9, hi_6, c_7, c_8, c_9, hi_15, c_16, c_17, c_38]; done) | (have h9 := Int32.not_lt.mp c_7; simp [sp_set, h9, hi_6, c_7, c_8, c_9, hi_15, c_16, c_17, c_38]; done) | (have h9 := Int32.not_lt.mp c_8; simp [sp_set, h9, hi_6, c_7, c_8, c_9, hi_15, c_16, c_17, c_38]; done) | (have h9 := Int32.not_lt.mp c_9; simp [sp_set, h9, hi_6, c_7, c_8, c_9, hi_15, c_16, c_17, c_38]; done) | (have h9 := Int32.not_lt.mp hi_15; simp [sp_set, h9, hi_6, c_7, c_8, c_9, hi_15, c_16, c_17, c_38]; done) | (have h9 := Int32.not_lt.mp c_16; simp [sp_set, h9, hi_6, c_7, c_8, c_9, hi_15, c_16, c_17, c_38]; done) | (have h9 := Int32.not_lt.mp c_17; simp [sp_set, h9, hi_6, c_7, c_8, c_9, hi_15, c_16, c_17, c_38]; done) | (have h9 := Int32.not_lt.mp c_38; simp [sp_set, h9, hi_6, c_7, c_8, c_9, hi_15, c_16, c_17, c_38]; done) | (have z0 : (0 : Int32).toInt = 0 := rfl; have z1 : (1 : Int32).toInt = 1 := rfl; have z2 : (2 : Int32).toInt = 2 := rfl; have z3 : (99 : Int32).toInt = 99 := rfl; have z4 : (100 : Int32).toInt = 100 := rfl; simp only [sp_set, Int32.lt_iff_toInt_lt, Int32.le_iff_toInt_le, ← Int32.toInt_inj] at hi_6 c_7 c_8 c_9 hi_15 c_16 c_17 c_38 ⊢; split <;> first | rfl | omega))) dX12_set_90
                · skip
                  subst c_38
                  refine lv_iload_n G.1 G.2.1 dX12_set_61 rfl (lv_at hl 2 rfl) ?_
                  refine lv_goto (tgt := 69) G.1 G.2.1 dX12_set_62 (by decide) ?_
                  refine py_put (C := RX12) (T := TX12) (N := 54) (k := 33) (v := .int b) (fs' := xs_22.set 33 (.int b)) (ty0 := tyX12) G hw tyX12_ok nmX12 in_X12_set_X12 rfl h_20 (by decide) (by decide +kernel) rfl rfl rfl rfl (py_len hl_23 (by decide)) rfl dX12_set_69 (fun f_100 H_101 locs h_102 x_103 hw => ?_)
                  obtain ⟨xs_104, exs_104⟩ : ∃ y, y = xs_22.set 33 (.int b) := ⟨_, rfl⟩
                  rw [← exs_104] at h_102
                  have hl_105 : xs_104.length = 54 := by rw [exs_104, List.length_set]; exact hl_23
                  have hp_106 : xs_104[1]? = some (.ref tp) := by rw [exs_104, List.getElem?_set_ne (by decide)]; exact hp_24
                  have hp_107 : xs_104[2]? = some (.int 0) := by rw [exs_104, List.getElem?_set_ne (by decide)]; exact hp_25
                  have hp_108 : xs_104[8]? = some (.ref cd) := by rw [exs_104, List.getElem?_set_ne (by decide)]; exact hp_26
                  have hp_109 : xs_104[9]? = some (.ref cl) := by rw [exs_104, List.getElem?_set_ne (by decide)]; exact hp_27
                  have hp_110 : xs_104[13]? = some (.int 0) := by rw [exs_104, List.getElem?_set_ne (by decide)]; exact hp_28
                  have hp_111 : xs_104[24]? = some (.int 0) := by rw [exs_104, List.getElem?_set_ne (by decide)]; exact hp_29
                  have hp_112 : xs_104[25]? = some (.int 0) := by rw [exs_104, List.getElem?_set_ne (by decide)]; exact hp_30
                  have hp_113 : xs_104[29]? = some (.int 0) := by rw [exs_104, List.getElem?_set_ne (by decide)]; exact hp_31
                  have hp_114 : xs_104[31]? = some (.int (-1)) := by rw [exs_104, List.getElem?_set_ne (by decide)]; exact hp_32
                  have hp_115 : xs_104[43]? = some (.int 0) := by rw [exs_104, List.getElem?_set_ne (by decide)]; exact hp_33
                  have hp_116 : xs_104[53]? = some (.int 0) := by rw [exs_104, List.getElem?_set_ne (by decide)]; exact hp_34
                  have hp_117 : xs_104[34]? = some (.int v34) := by rw [exs_104, List.getElem?_set_ne (by decide)]; exact hp_36
                  have hp_118 : xs_104[32]? = some (.int v32) := by rw [exs_104, List.getElem?_set_ne (by decide)]; exact hp_37
                  have hp_119 : xs_104[33]? = some (.int b) := by rw [exs_104, List.getElem?_set_self (by rw [hl_23]; decide)]
                  have htp := htp.ext x_103 (Ne.symm (py_ne_arr h_20 htp))
                  have hcd := hcd.ext x_103 (Ne.symm (py_ne_arr h_20 hcd))
                  have hcl := hcl.ext x_103 (Ne.symm (py_ne_arr h_20 hcl))
                  refine lv_aload_n G.1 G.2.1 dX12_set_72 rfl (lv_at hl 0 rfl) ?_
                  refine lv_iload_n G.1 G.2.1 dX12_set_73 rfl (lv_at hl 1 rfl) ?_
                  refine lv_iconst (v := 2) G.1 G.2.1 dX12_set_74 (by decide) ?_
                  refine lv_icmp_ne (tgt := 82) G.1 G.2.1 dX12_set_75 (by decide) (fun c_120 => ?_) (fun c_120 => ?_)
                  · skip
                    refine lv_aload_n G.1 G.2.1 dX12_set_82 rfl (lv_at hl 0 rfl) ?_
                    refine py_get (C := RX12) (T := TX12) (N := 54) (k := 34) (v := .int v34) G hw in_X12_set_X12 rfl h_102 (by decide) (by decide +kernel) hp_117 dX12_set_83 ?_
                    refine py_put (C := RX12) (T := TX12) (N := 54) (k := 34) (v := .int v34) (fs' := xs_104.set 34 (.int v34)) (ty0 := tyX12) G hw tyX12_ok nmX12 in_X12_set_X12 rfl h_102 (by decide) (by decide +kernel) rfl rfl rfl rfl (py_len hl_105 (by decide)) rfl dX12_set_86 (fun f_121 H_122 locs h_123 x_124 hw => ?_)
                    obtain ⟨xs_125, exs_125⟩ : ∃ y, y = xs_104.set 34 (.int v34) := ⟨_, rfl⟩
                    rw [← exs_125] at h_123
                    have hl_126 : xs_125.length = 54 := by rw [exs_125, List.length_set]; exact hl_105
                    have hp_127 : xs_125[1]? = some (.ref tp) := by rw [exs_125, List.getElem?_set_ne (by decide)]; exact hp_106
                    have hp_128 : xs_125[2]? = some (.int 0) := by rw [exs_125, List.getElem?_set_ne (by decide)]; exact hp_107
                    have hp_129 : xs_125[8]? = some (.ref cd) := by rw [exs_125, List.getElem?_set_ne (by decide)]; exact hp_108
                    have hp_130 : xs_125[9]? = some (.ref cl) := by rw [exs_125, List.getElem?_set_ne (by decide)]; exact hp_109
                    have hp_131 : xs_125[13]? = some (.int 0) := by rw [exs_125, List.getElem?_set_ne (by decide)]; exact hp_110
                    have hp_132 : xs_125[24]? = some (.int 0) := by rw [exs_125, List.getElem?_set_ne (by decide)]; exact hp_111
                    have hp_133 : xs_125[25]? = some (.int 0) := by rw [exs_125, List.getElem?_set_ne (by decide)]; exact hp_112
                    have hp_134 : xs_125[29]? = some (.int 0) := by rw [exs_125, List.getElem?_set_ne (by decide)]; exact hp_113
                    have hp_135 : xs_125[31]? = some (.int (-1)) := by rw [exs_125, List.getElem?_set_ne (by decide)]; exact hp_114
                    have hp_136 : xs_125[43]? = some (.int 0) := by rw [exs_125, List.getElem?_set_ne (by decide)]; exact hp_115
                    have hp_137 : xs_125[53]? = some (.int 0) := by rw [exs_125, List.getElem?_set_ne (by decide)]; exact hp_116
                    have hp_138 : xs_125[32]? = some (.int v32) := by rw [exs_125, List.getElem?_set_ne (by decide)]; exact hp_118
                    have hp_139 : xs_125[33]? = some (.int b) := by rw [exs_125, List.getElem?_set_ne (by decide)]; exact hp_119
                    have hp_140 : xs_125[34]? = some (.int v34) := by rw [exs_125, List.getElem?_set_self (by rw [hl_105]; decide)]
                    have htp := htp.ext x_124 (Ne.symm (py_ne_arr h_102 htp))
                    have hcd := hcd.ext x_124 (Ne.symm (py_ne_arr h_102 hcd))
                    have hcl := hcl.ext x_124 (Ne.symm (py_ne_arr h_102 hcl))
                    refine lv_iconst (v := 1) G.1 G.2.1 dX12_set_89 (by decide) ?_
                    exact py_iret G hr rfl hlk hw (by first | (simp [sp_set, hi_6, c_7, c_8, c_9, hi_15, c_16, c_17, c_120]; done) | (first | decide | exact absurd rfl hi_6 | exact absurd rfl c_7 | exact absurd rfl c_8 | exact absurd rfl c_9 | exact absurd rfl hi_15 | exact absurd rfl c_16 | exact absurd rfl c_17 | exact absurd rfl c_120 | (have h9 := Int32.not_lt.mp hi_6; simp [sp_set, h9, hi_6, c_7, c_8, c_9, hi_15, c_16, c_17, c_120]; done) | (have h9 := Int32.not_lt.mp c_7; simp [sp_set, h9, hi_6, c_7, c_8, c_9, hi_15, c_16, c_17, c_120]; done) | (have h9 := Int32.not_lt.mp c_8; simp [sp_set, h9, hi_6, c_7, c_8, c_9, hi_15, c_16, c_17, c_120]; done) | (have h9 := Int32.not_lt.mp c_9; simp [sp_set, h9, hi_6, c_7, c_8, c_9, hi_15, c_16, c_17, c_120]; done) | (have h9 := Int32.not_lt.mp hi_15; simp [sp_set, h9, hi_6, c_7, c_8, c_9, hi_15, c_16, c_17, c_120]; done) | (have h9 := Int32.not_lt.mp c_16; simp [sp_set, h9, hi_6, c_7, c_8, c_9, hi_15, c_16, c_17, c_120]; done) | (have h9 := Int32.not_lt.mp c_17; simp [sp_set, h9, hi_6, c_7, c_8, c_9, hi_15, c_16, c_17, c_120]; done) | (have h9 := Int32.not_lt.mp c_120; simp [sp_set, h9, hi_6, c_7, c_8, c_9, hi_15, c_16, c_17, c_120]; done) | (have z0 : (0 : Int32).toInt = 0 := rfl; have z1 : (1 : Int32).toInt = 1 := rfl; have z2 : (2 : Int32).toInt = 2 := rfl; have z3 : (99 : Int32).toInt = 99 := rfl; have z4 : (100 : Int32).toInt = 100 := rfl; simp only [sp_set, Int32.lt_iff_toInt_lt, Int32.le_iff_toInt_le, ← Int32.toInt_inj] at hi_6 c_7 c_8 c_9 hi_15 c_16 c_17 c_120 ⊢; split <;> first | rfl | omega))) dX12_set_90
                  · skip
                    exact absurd c_120 (by decide)
              · skip
                subst c_17
                refine lv_iload_n G.1 G.2.1 dX12_set_44 rfl (lv_at hl 2 rfl) ?_
                refine lv_goto (tgt := 52) G.1 G.2.1 dX12_set_45 (by decide) ?_
                refine py_put (C := RX12) (T := TX12) (N := 54) (k := 32) (v := .int b) (fs' := xs.set 32 (.int b)) (ty0 := tyX12) G hw tyX12_ok nmX12 in_X12_set_X12 rfl hh (by decide) (by decide +kernel) rfl rfl rfl rfl (py_len hxs (by decide)) rfl dX12_set_52 (fun f_141 H_142 locs h_143 x_144 hw => ?_)
                obtain ⟨xs_145, exs_145⟩ : ∃ y, y = xs.set 32 (.int b) := ⟨_, rfl⟩
                rw [← exs_145] at h_143
                have hl_146 : xs_145.length = 54 := by rw [exs_145, List.length_set]; exact hxs
                have hp_147 : xs_145[1]? = some (.ref tp) := by rw [exs_145, List.getElem?_set_ne (by decide)]; exact hp1
                have hp_148 : xs_145[2]? = some (.int 0) := by rw [exs_145, List.getElem?_set_ne (by decide)]; exact hp2
                have hp_149 : xs_145[8]? = some (.ref cd) := by rw [exs_145, List.getElem?_set_ne (by decide)]; exact hp8
                have hp_150 : xs_145[9]? = some (.ref cl) := by rw [exs_145, List.getElem?_set_ne (by decide)]; exact hp9
                have hp_151 : xs_145[13]? = some (.int 0) := by rw [exs_145, List.getElem?_set_ne (by decide)]; exact hp13
                have hp_152 : xs_145[24]? = some (.int 0) := by rw [exs_145, List.getElem?_set_ne (by decide)]; exact hp24
                have hp_153 : xs_145[25]? = some (.int 0) := by rw [exs_145, List.getElem?_set_ne (by decide)]; exact hp25
                have hp_154 : xs_145[29]? = some (.int 0) := by rw [exs_145, List.getElem?_set_ne (by decide)]; exact hp29
                have hp_155 : xs_145[31]? = some (.int (-1)) := by rw [exs_145, List.getElem?_set_ne (by decide)]; exact hp31
                have hp_156 : xs_145[43]? = some (.int 0) := by rw [exs_145, List.getElem?_set_ne (by decide)]; exact hp43
                have hp_157 : xs_145[53]? = some (.int 0) := by rw [exs_145, List.getElem?_set_ne (by decide)]; exact hp53
                have hp_158 : xs_145[33]? = some (.int v33) := by rw [exs_145, List.getElem?_set_ne (by decide)]; exact hp33
                have hp_159 : xs_145[34]? = some (.int v34) := by rw [exs_145, List.getElem?_set_ne (by decide)]; exact hp34
                have hp_160 : xs_145[32]? = some (.int b) := by rw [exs_145, List.getElem?_set_self (by rw [hxs]; decide)]
                have htp := htp.ext x_144 (Ne.symm (py_ne_arr hh htp))
                have hcd := hcd.ext x_144 (Ne.symm (py_ne_arr hh hcd))
                have hcl := hcl.ext x_144 (Ne.symm (py_ne_arr hh hcl))
                refine lv_aload_n G.1 G.2.1 dX12_set_55 rfl (lv_at hl 0 rfl) ?_
                refine lv_iload_n G.1 G.2.1 dX12_set_56 rfl (lv_at hl 1 rfl) ?_
                refine lv_iconst (v := 1) G.1 G.2.1 dX12_set_57 (by decide) ?_
                refine lv_icmp_ne (tgt := 65) G.1 G.2.1 dX12_set_58 (by decide) (fun c_161 => ?_) (fun c_161 => ?_)
                · skip
                  refine lv_aload_n G.1 G.2.1 dX12_set_65 rfl (lv_at hl 0 rfl) ?_
                  refine py_get (C := RX12) (T := TX12) (N := 54) (k := 33) (v := .int v33) G hw in_X12_set_X12 rfl h_143 (by decide) (by decide +kernel) hp_158 dX12_set_66 ?_
                  refine py_put (C := RX12) (T := TX12) (N := 54) (k := 33) (v := .int v33) (fs' := xs_145.set 33 (.int v33)) (ty0 := tyX12) G hw tyX12_ok nmX12 in_X12_set_X12 rfl h_143 (by decide) (by decide +kernel) rfl rfl rfl rfl (py_len hl_146 (by decide)) rfl dX12_set_69 (fun f_162 H_163 locs h_164 x_165 hw => ?_)
                  obtain ⟨xs_166, exs_166⟩ : ∃ y, y = xs_145.set 33 (.int v33) := ⟨_, rfl⟩
                  rw [← exs_166] at h_164
                  have hl_167 : xs_166.length = 54 := by rw [exs_166, List.length_set]; exact hl_146
                  have hp_168 : xs_166[1]? = some (.ref tp) := by rw [exs_166, List.getElem?_set_ne (by decide)]; exact hp_147
                  have hp_169 : xs_166[2]? = some (.int 0) := by rw [exs_166, List.getElem?_set_ne (by decide)]; exact hp_148
                  have hp_170 : xs_166[8]? = some (.ref cd) := by rw [exs_166, List.getElem?_set_ne (by decide)]; exact hp_149
                  have hp_171 : xs_166[9]? = some (.ref cl) := by rw [exs_166, List.getElem?_set_ne (by decide)]; exact hp_150
                  have hp_172 : xs_166[13]? = some (.int 0) := by rw [exs_166, List.getElem?_set_ne (by decide)]; exact hp_151
                  have hp_173 : xs_166[24]? = some (.int 0) := by rw [exs_166, List.getElem?_set_ne (by decide)]; exact hp_152
                  have hp_174 : xs_166[25]? = some (.int 0) := by rw [exs_166, List.getElem?_set_ne (by decide)]; exact hp_153
                  have hp_175 : xs_166[29]? = some (.int 0) := by rw [exs_166, List.getElem?_set_ne (by decide)]; exact hp_154
                  have hp_176 : xs_166[31]? = some (.int (-1)) := by rw [exs_166, List.getElem?_set_ne (by decide)]; exact hp_155
                  have hp_177 : xs_166[43]? = some (.int 0) := by rw [exs_166, List.getElem?_set_ne (by decide)]; exact hp_156
                  have hp_178 : xs_166[53]? = some (.int 0) := by rw [exs_166, List.getElem?_set_ne (by decide)]; exact hp_157
                  have hp_179 : xs_166[34]? = some (.int v34) := by rw [exs_166, List.getElem?_set_ne (by decide)]; exact hp_159
                  have hp_180 : xs_166[32]? = some (.int b) := by rw [exs_166, List.getElem?_set_ne (by decide)]; exact hp_160
                  have hp_181 : xs_166[33]? = some (.int v33) := by rw [exs_166, List.getElem?_set_self (by rw [hl_146]; decide)]
                  have htp := htp.ext x_165 (Ne.symm (py_ne_arr h_143 htp))
                  have hcd := hcd.ext x_165 (Ne.symm (py_ne_arr h_143 hcd))
                  have hcl := hcl.ext x_165 (Ne.symm (py_ne_arr h_143 hcl))
                  refine lv_aload_n G.1 G.2.1 dX12_set_72 rfl (lv_at hl 0 rfl) ?_
                  refine lv_iload_n G.1 G.2.1 dX12_set_73 rfl (lv_at hl 1 rfl) ?_
                  refine lv_iconst (v := 2) G.1 G.2.1 dX12_set_74 (by decide) ?_
                  refine lv_icmp_ne (tgt := 82) G.1 G.2.1 dX12_set_75 (by decide) (fun c_182 => ?_) (fun c_182 => ?_)
                  · skip
                    refine lv_aload_n G.1 G.2.1 dX12_set_82 rfl (lv_at hl 0 rfl) ?_
                    refine py_get (C := RX12) (T := TX12) (N := 54) (k := 34) (v := .int v34) G hw in_X12_set_X12 rfl h_164 (by decide) (by decide +kernel) hp_179 dX12_set_83 ?_
                    refine py_put (C := RX12) (T := TX12) (N := 54) (k := 34) (v := .int v34) (fs' := xs_166.set 34 (.int v34)) (ty0 := tyX12) G hw tyX12_ok nmX12 in_X12_set_X12 rfl h_164 (by decide) (by decide +kernel) rfl rfl rfl rfl (py_len hl_167 (by decide)) rfl dX12_set_86 (fun f_183 H_184 locs h_185 x_186 hw => ?_)
                    obtain ⟨xs_187, exs_187⟩ : ∃ y, y = xs_166.set 34 (.int v34) := ⟨_, rfl⟩
                    rw [← exs_187] at h_185
                    have hl_188 : xs_187.length = 54 := by rw [exs_187, List.length_set]; exact hl_167
                    have hp_189 : xs_187[1]? = some (.ref tp) := by rw [exs_187, List.getElem?_set_ne (by decide)]; exact hp_168
                    have hp_190 : xs_187[2]? = some (.int 0) := by rw [exs_187, List.getElem?_set_ne (by decide)]; exact hp_169
                    have hp_191 : xs_187[8]? = some (.ref cd) := by rw [exs_187, List.getElem?_set_ne (by decide)]; exact hp_170
                    have hp_192 : xs_187[9]? = some (.ref cl) := by rw [exs_187, List.getElem?_set_ne (by decide)]; exact hp_171
                    have hp_193 : xs_187[13]? = some (.int 0) := by rw [exs_187, List.getElem?_set_ne (by decide)]; exact hp_172
                    have hp_194 : xs_187[24]? = some (.int 0) := by rw [exs_187, List.getElem?_set_ne (by decide)]; exact hp_173
                    have hp_195 : xs_187[25]? = some (.int 0) := by rw [exs_187, List.getElem?_set_ne (by decide)]; exact hp_174
                    have hp_196 : xs_187[29]? = some (.int 0) := by rw [exs_187, List.getElem?_set_ne (by decide)]; exact hp_175
                    have hp_197 : xs_187[31]? = some (.int (-1)) := by rw [exs_187, List.getElem?_set_ne (by decide)]; exact hp_176
                    have hp_198 : xs_187[43]? = some (.int 0) := by rw [exs_187, List.getElem?_set_ne (by decide)]; exact hp_177
                    have hp_199 : xs_187[53]? = some (.int 0) := by rw [exs_187, List.getElem?_set_ne (by decide)]; exact hp_178
                    have hp_200 : xs_187[32]? = some (.int b) := by rw [exs_187, List.getElem?_set_ne (by decide)]; exact hp_180
                    have hp_201 : xs_187[33]? = some (.int v33) := by rw [exs_187, List.getElem?_set_ne (by decide)]; exact hp_181
                    have hp_202 : xs_187[34]? = some (.int v34) := by rw [exs_187, List.getElem?_set_self (by rw [hl_167]; decide)]
                    have htp := htp.ext x_186 (Ne.symm (py_ne_arr h_164 htp))
                    have hcd := hcd.ext x_186 (Ne.symm (py_ne_arr h_164 hcd))
                    have hcl := hcl.ext x_186 (Ne.symm (py_ne_arr h_164 hcl))
                    refine lv_iconst (v := 1) G.1 G.2.1 dX12_set_89 (by decide) ?_
                    exact py_iret G hr rfl hlk hw (by first | (simp [sp_set, hi_6, c_7, c_8, c_9, hi_15, c_16, c_161, c_182]; done) | (first | decide | exact absurd rfl hi_6 | exact absurd rfl c_7 | exact absurd rfl c_8 | exact absurd rfl c_9 | exact absurd rfl hi_15 | exact absurd rfl c_16 | exact absurd rfl c_161 | exact absurd rfl c_182 | (have h9 := Int32.not_lt.mp hi_6; simp [sp_set, h9, hi_6, c_7, c_8, c_9, hi_15, c_16, c_161, c_182]; done) | (have h9 := Int32.not_lt.mp c_7; simp [sp_set, h9, hi_6, c_7, c_8, c_9, hi_15, c_16, c_161, c_182]; done) | (have h9 := Int32.not_lt.mp c_8; simp [sp_set, h9, hi_6, c_7, c_8, c_9, hi_15, c_16, c_161, c_182]; done) | (have h9 := Int32.not_lt.mp c_9; simp [sp_set, h9, hi_6, c_7, c_8, c_9, hi_15, c_16, c_161, c_182]; done) | (have h9 := Int32.not_lt.mp hi_15; simp [sp_set, h9, hi_6, c_7, c_8, c_9, hi_15, c_16, c_161, c_182]; done) | (have h9 := Int32.not_lt.mp c_16; simp [sp_set, h9, hi_6, c_7, c_8, c_9, hi_15, c_16, c_161, c_182]; done) | (have h9 := Int32.not_lt.mp c_161; simp [sp_set, h9, hi_6, c_7, c_8, c_9, hi_15, c_16, c_161, c_182]; done) | (have h9 := Int32.not_lt.mp c_182; simp [sp_set, h9, hi_6, c_7, c_8, c_9, hi_15, c_16, c_161, c_182]; done) | (have z0 : (0 : Int32).toInt = 0 := rfl; have z1 : (1 : Int32).toInt = 1 := rfl; have z2 : (2 : Int32).toInt = 2 := rfl; have z3 : (99 : Int32).toInt = 99 := rfl; have z4 : (100 : Int32).toInt = 100 := rfl; simp only [sp_set, Int32.lt_iff_toInt_lt, Int32.le_iff_toInt_le, ← Int32.toInt_inj] at hi_6 c_7 c_8 c_9 hi_15 c_16 c_161 c_182 ⊢; split <;> first | rfl | omega))) dX12_set_90
                  · skip
                    exact absurd c_182 (by decide)
                · skip
                  exact absurd c_161 (by decide)
            · skip
              exact absurd c_16 (by decide)
          · skip
            refine lv_if_ne (tgt := 39) G.1 G.2.1 dX12_set_34 (by decide) (fun c_203 => ?_) (fun c_203 => ?_)
            · skip
              exact absurd c_203 (by decide)
            · skip
              refine lv_iconst (v := 0) G.1 G.2.1 dX12_set_37 (by decide) ?_
              exact py_iret G hr rfl hlk hw (by first | (simp [sp_set, hi_6, c_7, c_8, c_9, hi_15, c_203]; done) | (first | decide | exact absurd rfl hi_6 | exact absurd rfl c_7 | exact absurd rfl c_8 | exact absurd rfl c_9 | exact absurd rfl hi_15 | exact absurd rfl c_203 | (have h9 := Int32.not_lt.mp hi_6; simp [sp_set, h9, hi_6, c_7, c_8, c_9, hi_15, c_203]; done) | (have h9 := Int32.not_lt.mp c_7; simp [sp_set, h9, hi_6, c_7, c_8, c_9, hi_15, c_203]; done) | (have h9 := Int32.not_lt.mp c_8; simp [sp_set, h9, hi_6, c_7, c_8, c_9, hi_15, c_203]; done) | (have h9 := Int32.not_lt.mp c_9; simp [sp_set, h9, hi_6, c_7, c_8, c_9, hi_15, c_203]; done) | (have h9 := Int32.not_lt.mp hi_15; simp [sp_set, h9, hi_6, c_7, c_8, c_9, hi_15, c_203]; done) | (have h9 := Int32.not_lt.mp c_203; simp [sp_set, h9, hi_6, c_7, c_8, c_9, hi_15, c_203]; done) | (have z0 : (0 : Int32).toInt = 0 := rfl; have z1 : (1 : Int32).toInt = 1 := rfl; have z2 : (2 : Int32).toInt = 2 := rfl; have z3 : (99 : Int32).toInt = 99 := rfl; have z4 : (100 : Int32).toInt = 100 := rfl; simp only [sp_set, Int32.lt_iff_toInt_lt, Int32.le_iff_toInt_le, ← Int32.toInt_inj] at hi_6 c_7 c_8 c_9 hi_15 c_203 ⊢; split <;> first | rfl | omega))) dX12_set_38
        · skip
          subst c_9
          refine lv_iconst (v := 1) G.1 G.2.1 dX12_set_25 (by decide) ?_
          refine lv_goto (tgt := 31) G.1 G.2.1 dX12_set_26 (by decide) ?_
          refine py_calli hw (va_runS (As := [.int b, .int 0, .int 1]) (rest := []) G (c_X12_in l E L f H_3.size b 0 1) (va_cwS 3 G.2.2.2.2 g_X12_set_X12_in_232 rfl rfl rfl (by decide +kernel) ⟨(Nat.le_of_ble_eq_true rfl), (Nat.le_of_ble_eq_true rfl)⟩) (py_preS hw) rfl rfl hl.1 rfl (lv_room (Nat.le_of_ble_eq_true rfl)) dX12_set_31 ⟨(Nat.le_of_ble_eq_true rfl), (Nat.le_of_ble_eq_true rfl)⟩) (fun r_208 L_204 f_205 H_206 locs hp_207 hw => ?_)
          obtain ⟨rfl, rfl, hi_209⟩ := hp_207
          rcases hi_209 with ⟨rfl, hi_209⟩ | ⟨rfl, hi_209⟩
          · skip
            refine lv_if_ne (tgt := 39) G.1 G.2.1 dX12_set_34 (by decide) (fun c_210 => ?_) (fun c_210 => ?_)
            · skip
              refine lv_aload_n G.1 G.2.1 dX12_set_39 rfl (lv_at hl 0 rfl) ?_
              refine lv_iload_n G.1 G.2.1 dX12_set_40 rfl (lv_at hl 1 rfl) ?_
              refine lv_if_ne (tgt := 48) G.1 G.2.1 dX12_set_41 (by decide) (fun c_211 => ?_) (fun c_211 => ?_)
              · skip
                refine lv_aload_n G.1 G.2.1 dX12_set_48 rfl (lv_at hl 0 rfl) ?_
                refine py_get (C := RX12) (T := TX12) (N := 54) (k := 32) (v := .int v32) G hw in_X12_set_X12 rfl hh (by decide) (by decide +kernel) hp32 dX12_set_49 ?_
                refine py_put (C := RX12) (T := TX12) (N := 54) (k := 32) (v := .int v32) (fs' := xs.set 32 (.int v32)) (ty0 := tyX12) G hw tyX12_ok nmX12 in_X12_set_X12 rfl hh (by decide) (by decide +kernel) rfl rfl rfl rfl (py_len hxs (by decide)) rfl dX12_set_52 (fun f_212 H_213 locs h_214 x_215 hw => ?_)
                obtain ⟨xs_216, exs_216⟩ : ∃ y, y = xs.set 32 (.int v32) := ⟨_, rfl⟩
                rw [← exs_216] at h_214
                have hl_217 : xs_216.length = 54 := by rw [exs_216, List.length_set]; exact hxs
                have hp_218 : xs_216[1]? = some (.ref tp) := by rw [exs_216, List.getElem?_set_ne (by decide)]; exact hp1
                have hp_219 : xs_216[2]? = some (.int 0) := by rw [exs_216, List.getElem?_set_ne (by decide)]; exact hp2
                have hp_220 : xs_216[8]? = some (.ref cd) := by rw [exs_216, List.getElem?_set_ne (by decide)]; exact hp8
                have hp_221 : xs_216[9]? = some (.ref cl) := by rw [exs_216, List.getElem?_set_ne (by decide)]; exact hp9
                have hp_222 : xs_216[13]? = some (.int 0) := by rw [exs_216, List.getElem?_set_ne (by decide)]; exact hp13
                have hp_223 : xs_216[24]? = some (.int 0) := by rw [exs_216, List.getElem?_set_ne (by decide)]; exact hp24
                have hp_224 : xs_216[25]? = some (.int 0) := by rw [exs_216, List.getElem?_set_ne (by decide)]; exact hp25
                have hp_225 : xs_216[29]? = some (.int 0) := by rw [exs_216, List.getElem?_set_ne (by decide)]; exact hp29
                have hp_226 : xs_216[31]? = some (.int (-1)) := by rw [exs_216, List.getElem?_set_ne (by decide)]; exact hp31
                have hp_227 : xs_216[43]? = some (.int 0) := by rw [exs_216, List.getElem?_set_ne (by decide)]; exact hp43
                have hp_228 : xs_216[53]? = some (.int 0) := by rw [exs_216, List.getElem?_set_ne (by decide)]; exact hp53
                have hp_229 : xs_216[33]? = some (.int v33) := by rw [exs_216, List.getElem?_set_ne (by decide)]; exact hp33
                have hp_230 : xs_216[34]? = some (.int v34) := by rw [exs_216, List.getElem?_set_ne (by decide)]; exact hp34
                have hp_231 : xs_216[32]? = some (.int v32) := by rw [exs_216, List.getElem?_set_self (by rw [hxs]; decide)]
                have htp := htp.ext x_215 (Ne.symm (py_ne_arr hh htp))
                have hcd := hcd.ext x_215 (Ne.symm (py_ne_arr hh hcd))
                have hcl := hcl.ext x_215 (Ne.symm (py_ne_arr hh hcl))
                refine lv_aload_n G.1 G.2.1 dX12_set_55 rfl (lv_at hl 0 rfl) ?_
                refine lv_iload_n G.1 G.2.1 dX12_set_56 rfl (lv_at hl 1 rfl) ?_
                refine lv_iconst (v := 1) G.1 G.2.1 dX12_set_57 (by decide) ?_
                refine lv_icmp_ne (tgt := 65) G.1 G.2.1 dX12_set_58 (by decide) (fun c_232 => ?_) (fun c_232 => ?_)
                · skip
                  exact absurd c_232 (by decide)
                · skip
                  refine lv_iload_n G.1 G.2.1 dX12_set_61 rfl (lv_at hl 2 rfl) ?_
                  refine lv_goto (tgt := 69) G.1 G.2.1 dX12_set_62 (by decide) ?_
                  refine py_put (C := RX12) (T := TX12) (N := 54) (k := 33) (v := .int b) (fs' := xs_216.set 33 (.int b)) (ty0 := tyX12) G hw tyX12_ok nmX12 in_X12_set_X12 rfl h_214 (by decide) (by decide +kernel) rfl rfl rfl rfl (py_len hl_217 (by decide)) rfl dX12_set_69 (fun f_233 H_234 locs h_235 x_236 hw => ?_)
                  obtain ⟨xs_237, exs_237⟩ : ∃ y, y = xs_216.set 33 (.int b) := ⟨_, rfl⟩
                  rw [← exs_237] at h_235
                  have hl_238 : xs_237.length = 54 := by rw [exs_237, List.length_set]; exact hl_217
                  have hp_239 : xs_237[1]? = some (.ref tp) := by rw [exs_237, List.getElem?_set_ne (by decide)]; exact hp_218
                  have hp_240 : xs_237[2]? = some (.int 0) := by rw [exs_237, List.getElem?_set_ne (by decide)]; exact hp_219
                  have hp_241 : xs_237[8]? = some (.ref cd) := by rw [exs_237, List.getElem?_set_ne (by decide)]; exact hp_220
                  have hp_242 : xs_237[9]? = some (.ref cl) := by rw [exs_237, List.getElem?_set_ne (by decide)]; exact hp_221
                  have hp_243 : xs_237[13]? = some (.int 0) := by rw [exs_237, List.getElem?_set_ne (by decide)]; exact hp_222
                  have hp_244 : xs_237[24]? = some (.int 0) := by rw [exs_237, List.getElem?_set_ne (by decide)]; exact hp_223
                  have hp_245 : xs_237[25]? = some (.int 0) := by rw [exs_237, List.getElem?_set_ne (by decide)]; exact hp_224
                  have hp_246 : xs_237[29]? = some (.int 0) := by rw [exs_237, List.getElem?_set_ne (by decide)]; exact hp_225
                  have hp_247 : xs_237[31]? = some (.int (-1)) := by rw [exs_237, List.getElem?_set_ne (by decide)]; exact hp_226
                  have hp_248 : xs_237[43]? = some (.int 0) := by rw [exs_237, List.getElem?_set_ne (by decide)]; exact hp_227
                  have hp_249 : xs_237[53]? = some (.int 0) := by rw [exs_237, List.getElem?_set_ne (by decide)]; exact hp_228
                  have hp_250 : xs_237[34]? = some (.int v34) := by rw [exs_237, List.getElem?_set_ne (by decide)]; exact hp_230
                  have hp_251 : xs_237[32]? = some (.int v32) := by rw [exs_237, List.getElem?_set_ne (by decide)]; exact hp_231
                  have hp_252 : xs_237[33]? = some (.int b) := by rw [exs_237, List.getElem?_set_self (by rw [hl_217]; decide)]
                  have htp := htp.ext x_236 (Ne.symm (py_ne_arr h_214 htp))
                  have hcd := hcd.ext x_236 (Ne.symm (py_ne_arr h_214 hcd))
                  have hcl := hcl.ext x_236 (Ne.symm (py_ne_arr h_214 hcl))
                  refine lv_aload_n G.1 G.2.1 dX12_set_72 rfl (lv_at hl 0 rfl) ?_
                  refine lv_iload_n G.1 G.2.1 dX12_set_73 rfl (lv_at hl 1 rfl) ?_
                  refine lv_iconst (v := 2) G.1 G.2.1 dX12_set_74 (by decide) ?_
                  refine lv_icmp_ne (tgt := 82) G.1 G.2.1 dX12_set_75 (by decide) (fun c_253 => ?_) (fun c_253 => ?_)
                  · skip
                    refine lv_aload_n G.1 G.2.1 dX12_set_82 rfl (lv_at hl 0 rfl) ?_
                    refine py_get (C := RX12) (T := TX12) (N := 54) (k := 34) (v := .int v34) G hw in_X12_set_X12 rfl h_235 (by decide) (by decide +kernel) hp_250 dX12_set_83 ?_
                    refine py_put (C := RX12) (T := TX12) (N := 54) (k := 34) (v := .int v34) (fs' := xs_237.set 34 (.int v34)) (ty0 := tyX12) G hw tyX12_ok nmX12 in_X12_set_X12 rfl h_235 (by decide) (by decide +kernel) rfl rfl rfl rfl (py_len hl_238 (by decide)) rfl dX12_set_86 (fun f_254 H_255 locs h_256 x_257 hw => ?_)
                    obtain ⟨xs_258, exs_258⟩ : ∃ y, y = xs_237.set 34 (.int v34) := ⟨_, rfl⟩
                    rw [← exs_258] at h_256
                    have hl_259 : xs_258.length = 54 := by rw [exs_258, List.length_set]; exact hl_238
                    have hp_260 : xs_258[1]? = some (.ref tp) := by rw [exs_258, List.getElem?_set_ne (by decide)]; exact hp_239
                    have hp_261 : xs_258[2]? = some (.int 0) := by rw [exs_258, List.getElem?_set_ne (by decide)]; exact hp_240
                    have hp_262 : xs_258[8]? = some (.ref cd) := by rw [exs_258, List.getElem?_set_ne (by decide)]; exact hp_241
                    have hp_263 : xs_258[9]? = some (.ref cl) := by rw [exs_258, List.getElem?_set_ne (by decide)]; exact hp_242
                    have hp_264 : xs_258[13]? = some (.int 0) := by rw [exs_258, List.getElem?_set_ne (by decide)]; exact hp_243
                    have hp_265 : xs_258[24]? = some (.int 0) := by rw [exs_258, List.getElem?_set_ne (by decide)]; exact hp_244
                    have hp_266 : xs_258[25]? = some (.int 0) := by rw [exs_258, List.getElem?_set_ne (by decide)]; exact hp_245
                    have hp_267 : xs_258[29]? = some (.int 0) := by rw [exs_258, List.getElem?_set_ne (by decide)]; exact hp_246
                    have hp_268 : xs_258[31]? = some (.int (-1)) := by rw [exs_258, List.getElem?_set_ne (by decide)]; exact hp_247
                    have hp_269 : xs_258[43]? = some (.int 0) := by rw [exs_258, List.getElem?_set_ne (by decide)]; exact hp_248
                    have hp_270 : xs_258[53]? = some (.int 0) := by rw [exs_258, List.getElem?_set_ne (by decide)]; exact hp_249
                    have hp_271 : xs_258[32]? = some (.int v32) := by rw [exs_258, List.getElem?_set_ne (by decide)]; exact hp_251
                    have hp_272 : xs_258[33]? = some (.int b) := by rw [exs_258, List.getElem?_set_ne (by decide)]; exact hp_252
                    have hp_273 : xs_258[34]? = some (.int v34) := by rw [exs_258, List.getElem?_set_self (by rw [hl_238]; decide)]
                    have htp := htp.ext x_257 (Ne.symm (py_ne_arr h_235 htp))
                    have hcd := hcd.ext x_257 (Ne.symm (py_ne_arr h_235 hcd))
                    have hcl := hcl.ext x_257 (Ne.symm (py_ne_arr h_235 hcl))
                    refine lv_iconst (v := 1) G.1 G.2.1 dX12_set_89 (by decide) ?_
                    exact py_iret G hr rfl hlk hw (by first | (simp [sp_set, hi_6, c_7, c_8, hi_209, c_210, c_211, c_232, c_253]; done) | (first | decide | exact absurd rfl hi_6 | exact absurd rfl c_7 | exact absurd rfl c_8 | exact absurd rfl hi_209 | exact absurd rfl c_210 | exact absurd rfl c_211 | exact absurd rfl c_232 | exact absurd rfl c_253 | (have h9 := Int32.not_lt.mp hi_6; simp [sp_set, h9, hi_6, c_7, c_8, hi_209, c_210, c_211, c_232, c_253]; done) | (have h9 := Int32.not_lt.mp c_7; simp [sp_set, h9, hi_6, c_7, c_8, hi_209, c_210, c_211, c_232, c_253]; done) | (have h9 := Int32.not_lt.mp c_8; simp [sp_set, h9, hi_6, c_7, c_8, hi_209, c_210, c_211, c_232, c_253]; done) | (have h9 := Int32.not_lt.mp hi_209; simp [sp_set, h9, hi_6, c_7, c_8, hi_209, c_210, c_211, c_232, c_253]; done) | (have h9 := Int32.not_lt.mp c_210; simp [sp_set, h9, hi_6, c_7, c_8, hi_209, c_210, c_211, c_232, c_253]; done) | (have h9 := Int32.not_lt.mp c_211; simp [sp_set, h9, hi_6, c_7, c_8, hi_209, c_210, c_211, c_232, c_253]; done) | (have h9 := Int32.not_lt.mp c_232; simp [sp_set, h9, hi_6, c_7, c_8, hi_209, c_210, c_211, c_232, c_253]; done) | (have h9 := Int32.not_lt.mp c_253; simp [sp_set, h9, hi_6, c_7, c_8, hi_209, c_210, c_211, c_232, c_253]; done) | (have z0 : (0 : Int32).toInt = 0 := rfl; have z1 : (1 : Int32).toInt = 1 := rfl; have z2 : (2 : Int32).toInt = 2 := rfl; have z3 : (99 : Int32).toInt = 99 := rfl; have z4 : (100 : Int32).toInt = 100 := rfl; simp only [sp_set, Int32.lt_iff_toInt_lt, Int32.le_iff_toInt_le, ← Int32.toInt_inj] at hi_6 c_7 c_8 hi_209 c_210 c_211 c_232 c_253 ⊢; split <;> first | rfl | omega))) dX12_set_90
                  · skip
                    exact absurd c_253 (by decide)
              · skip
                exact absurd c_211 (by decide)
            · skip
              exact absurd c_210 (by decide)
          · skip
            refine lv_if_ne (tgt := 39) G.1 G.2.1 dX12_set_34 (by decide) (fun c_274 => ?_) (fun c_274 => ?_)
            · skip
              exact absurd c_274 (by decide)
            · skip
              refine lv_iconst (v := 0) G.1 G.2.1 dX12_set_37 (by decide) ?_
              exact py_iret G hr rfl hlk hw (by first | (simp [sp_set, hi_6, c_7, c_8, hi_209, c_274]; done) | (first | decide | exact absurd rfl hi_6 | exact absurd rfl c_7 | exact absurd rfl c_8 | exact absurd rfl hi_209 | exact absurd rfl c_274 | (have h9 := Int32.not_lt.mp hi_6; simp [sp_set, h9, hi_6, c_7, c_8, hi_209, c_274]; done) | (have h9 := Int32.not_lt.mp c_7; simp [sp_set, h9, hi_6, c_7, c_8, hi_209, c_274]; done) | (have h9 := Int32.not_lt.mp c_8; simp [sp_set, h9, hi_6, c_7, c_8, hi_209, c_274]; done) | (have h9 := Int32.not_lt.mp hi_209; simp [sp_set, h9, hi_6, c_7, c_8, hi_209, c_274]; done) | (have h9 := Int32.not_lt.mp c_274; simp [sp_set, h9, hi_6, c_7, c_8, hi_209, c_274]; done) | (have z0 : (0 : Int32).toInt = 0 := rfl; have z1 : (1 : Int32).toInt = 1 := rfl; have z2 : (2 : Int32).toInt = 2 := rfl; have z3 : (99 : Int32).toInt = 99 := rfl; have z4 : (100 : Int32).toInt = 100 := rfl; simp only [sp_set, Int32.lt_iff_toInt_lt, Int32.le_iff_toInt_le, ← Int32.toInt_inj] at hi_6 c_7 c_8 hi_209 c_274 ⊢; split <;> first | rfl | omega))) dX12_set_38
      · skip
        subst c_8
        refine lv_bipush (v := 100) G.1 G.2.1 dX12_set_15 (by decide) ?_
        refine lv_goto (tgt := 31) G.1 G.2.1 dX12_set_17 (by decide) ?_
        refine py_calli hw (va_runS (As := [.int b, .int 0, .int 100]) (rest := []) G (c_X12_in l E L f H_3.size b 0 100) (va_cwS 3 G.2.2.2.2 g_X12_set_X12_in_232 rfl rfl rfl (by decide +kernel) ⟨(Nat.le_of_ble_eq_true rfl), (Nat.le_of_ble_eq_true rfl)⟩) (py_preS hw) rfl rfl hl.1 rfl (lv_room (Nat.le_of_ble_eq_true rfl)) dX12_set_31 ⟨(Nat.le_of_ble_eq_true rfl), (Nat.le_of_ble_eq_true rfl)⟩) (fun r_279 L_275 f_276 H_277 locs hp_278 hw => ?_)
        obtain ⟨rfl, rfl, hi_280⟩ := hp_278
        rcases hi_280 with ⟨rfl, hi_280⟩ | ⟨rfl, hi_280⟩
        · skip
          refine lv_if_ne (tgt := 39) G.1 G.2.1 dX12_set_34 (by decide) (fun c_281 => ?_) (fun c_281 => ?_)
          · skip
            refine lv_aload_n G.1 G.2.1 dX12_set_39 rfl (lv_at hl 0 rfl) ?_
            refine lv_iload_n G.1 G.2.1 dX12_set_40 rfl (lv_at hl 1 rfl) ?_
            refine lv_if_ne (tgt := 48) G.1 G.2.1 dX12_set_41 (by decide) (fun c_282 => ?_) (fun c_282 => ?_)
            · skip
              exact absurd c_282 (by decide)
            · skip
              refine lv_iload_n G.1 G.2.1 dX12_set_44 rfl (lv_at hl 2 rfl) ?_
              refine lv_goto (tgt := 52) G.1 G.2.1 dX12_set_45 (by decide) ?_
              refine py_put (C := RX12) (T := TX12) (N := 54) (k := 32) (v := .int b) (fs' := xs.set 32 (.int b)) (ty0 := tyX12) G hw tyX12_ok nmX12 in_X12_set_X12 rfl hh (by decide) (by decide +kernel) rfl rfl rfl rfl (py_len hxs (by decide)) rfl dX12_set_52 (fun f_283 H_284 locs h_285 x_286 hw => ?_)
              obtain ⟨xs_287, exs_287⟩ : ∃ y, y = xs.set 32 (.int b) := ⟨_, rfl⟩
              rw [← exs_287] at h_285
              have hl_288 : xs_287.length = 54 := by rw [exs_287, List.length_set]; exact hxs
              have hp_289 : xs_287[1]? = some (.ref tp) := by rw [exs_287, List.getElem?_set_ne (by decide)]; exact hp1
              have hp_290 : xs_287[2]? = some (.int 0) := by rw [exs_287, List.getElem?_set_ne (by decide)]; exact hp2
              have hp_291 : xs_287[8]? = some (.ref cd) := by rw [exs_287, List.getElem?_set_ne (by decide)]; exact hp8
              have hp_292 : xs_287[9]? = some (.ref cl) := by rw [exs_287, List.getElem?_set_ne (by decide)]; exact hp9
              have hp_293 : xs_287[13]? = some (.int 0) := by rw [exs_287, List.getElem?_set_ne (by decide)]; exact hp13
              have hp_294 : xs_287[24]? = some (.int 0) := by rw [exs_287, List.getElem?_set_ne (by decide)]; exact hp24
              have hp_295 : xs_287[25]? = some (.int 0) := by rw [exs_287, List.getElem?_set_ne (by decide)]; exact hp25
              have hp_296 : xs_287[29]? = some (.int 0) := by rw [exs_287, List.getElem?_set_ne (by decide)]; exact hp29
              have hp_297 : xs_287[31]? = some (.int (-1)) := by rw [exs_287, List.getElem?_set_ne (by decide)]; exact hp31
              have hp_298 : xs_287[43]? = some (.int 0) := by rw [exs_287, List.getElem?_set_ne (by decide)]; exact hp43
              have hp_299 : xs_287[53]? = some (.int 0) := by rw [exs_287, List.getElem?_set_ne (by decide)]; exact hp53
              have hp_300 : xs_287[33]? = some (.int v33) := by rw [exs_287, List.getElem?_set_ne (by decide)]; exact hp33
              have hp_301 : xs_287[34]? = some (.int v34) := by rw [exs_287, List.getElem?_set_ne (by decide)]; exact hp34
              have hp_302 : xs_287[32]? = some (.int b) := by rw [exs_287, List.getElem?_set_self (by rw [hxs]; decide)]
              have htp := htp.ext x_286 (Ne.symm (py_ne_arr hh htp))
              have hcd := hcd.ext x_286 (Ne.symm (py_ne_arr hh hcd))
              have hcl := hcl.ext x_286 (Ne.symm (py_ne_arr hh hcl))
              refine lv_aload_n G.1 G.2.1 dX12_set_55 rfl (lv_at hl 0 rfl) ?_
              refine lv_iload_n G.1 G.2.1 dX12_set_56 rfl (lv_at hl 1 rfl) ?_
              refine lv_iconst (v := 1) G.1 G.2.1 dX12_set_57 (by decide) ?_
              refine lv_icmp_ne (tgt := 65) G.1 G.2.1 dX12_set_58 (by decide) (fun c_303 => ?_) (fun c_303 => ?_)
              · skip
                refine lv_aload_n G.1 G.2.1 dX12_set_65 rfl (lv_at hl 0 rfl) ?_
                refine py_get (C := RX12) (T := TX12) (N := 54) (k := 33) (v := .int v33) G hw in_X12_set_X12 rfl h_285 (by decide) (by decide +kernel) hp_300 dX12_set_66 ?_
                refine py_put (C := RX12) (T := TX12) (N := 54) (k := 33) (v := .int v33) (fs' := xs_287.set 33 (.int v33)) (ty0 := tyX12) G hw tyX12_ok nmX12 in_X12_set_X12 rfl h_285 (by decide) (by decide +kernel) rfl rfl rfl rfl (py_len hl_288 (by decide)) rfl dX12_set_69 (fun f_304 H_305 locs h_306 x_307 hw => ?_)
                obtain ⟨xs_308, exs_308⟩ : ∃ y, y = xs_287.set 33 (.int v33) := ⟨_, rfl⟩
                rw [← exs_308] at h_306
                have hl_309 : xs_308.length = 54 := by rw [exs_308, List.length_set]; exact hl_288
                have hp_310 : xs_308[1]? = some (.ref tp) := by rw [exs_308, List.getElem?_set_ne (by decide)]; exact hp_289
                have hp_311 : xs_308[2]? = some (.int 0) := by rw [exs_308, List.getElem?_set_ne (by decide)]; exact hp_290
                have hp_312 : xs_308[8]? = some (.ref cd) := by rw [exs_308, List.getElem?_set_ne (by decide)]; exact hp_291
                have hp_313 : xs_308[9]? = some (.ref cl) := by rw [exs_308, List.getElem?_set_ne (by decide)]; exact hp_292
                have hp_314 : xs_308[13]? = some (.int 0) := by rw [exs_308, List.getElem?_set_ne (by decide)]; exact hp_293
                have hp_315 : xs_308[24]? = some (.int 0) := by rw [exs_308, List.getElem?_set_ne (by decide)]; exact hp_294
                have hp_316 : xs_308[25]? = some (.int 0) := by rw [exs_308, List.getElem?_set_ne (by decide)]; exact hp_295
                have hp_317 : xs_308[29]? = some (.int 0) := by rw [exs_308, List.getElem?_set_ne (by decide)]; exact hp_296
                have hp_318 : xs_308[31]? = some (.int (-1)) := by rw [exs_308, List.getElem?_set_ne (by decide)]; exact hp_297
                have hp_319 : xs_308[43]? = some (.int 0) := by rw [exs_308, List.getElem?_set_ne (by decide)]; exact hp_298
                have hp_320 : xs_308[53]? = some (.int 0) := by rw [exs_308, List.getElem?_set_ne (by decide)]; exact hp_299
                have hp_321 : xs_308[34]? = some (.int v34) := by rw [exs_308, List.getElem?_set_ne (by decide)]; exact hp_301
                have hp_322 : xs_308[32]? = some (.int b) := by rw [exs_308, List.getElem?_set_ne (by decide)]; exact hp_302
                have hp_323 : xs_308[33]? = some (.int v33) := by rw [exs_308, List.getElem?_set_self (by rw [hl_288]; decide)]
                have htp := htp.ext x_307 (Ne.symm (py_ne_arr h_285 htp))
                have hcd := hcd.ext x_307 (Ne.symm (py_ne_arr h_285 hcd))
                have hcl := hcl.ext x_307 (Ne.symm (py_ne_arr h_285 hcl))
                refine lv_aload_n G.1 G.2.1 dX12_set_72 rfl (lv_at hl 0 rfl) ?_
                refine lv_iload_n G.1 G.2.1 dX12_set_73 rfl (lv_at hl 1 rfl) ?_
                refine lv_iconst (v := 2) G.1 G.2.1 dX12_set_74 (by decide) ?_
                refine lv_icmp_ne (tgt := 82) G.1 G.2.1 dX12_set_75 (by decide) (fun c_324 => ?_) (fun c_324 => ?_)
                · skip
                  refine lv_aload_n G.1 G.2.1 dX12_set_82 rfl (lv_at hl 0 rfl) ?_
                  refine py_get (C := RX12) (T := TX12) (N := 54) (k := 34) (v := .int v34) G hw in_X12_set_X12 rfl h_306 (by decide) (by decide +kernel) hp_321 dX12_set_83 ?_
                  refine py_put (C := RX12) (T := TX12) (N := 54) (k := 34) (v := .int v34) (fs' := xs_308.set 34 (.int v34)) (ty0 := tyX12) G hw tyX12_ok nmX12 in_X12_set_X12 rfl h_306 (by decide) (by decide +kernel) rfl rfl rfl rfl (py_len hl_309 (by decide)) rfl dX12_set_86 (fun f_325 H_326 locs h_327 x_328 hw => ?_)
                  obtain ⟨xs_329, exs_329⟩ : ∃ y, y = xs_308.set 34 (.int v34) := ⟨_, rfl⟩
                  rw [← exs_329] at h_327
                  have hl_330 : xs_329.length = 54 := by rw [exs_329, List.length_set]; exact hl_309
                  have hp_331 : xs_329[1]? = some (.ref tp) := by rw [exs_329, List.getElem?_set_ne (by decide)]; exact hp_310
                  have hp_332 : xs_329[2]? = some (.int 0) := by rw [exs_329, List.getElem?_set_ne (by decide)]; exact hp_311
                  have hp_333 : xs_329[8]? = some (.ref cd) := by rw [exs_329, List.getElem?_set_ne (by decide)]; exact hp_312
                  have hp_334 : xs_329[9]? = some (.ref cl) := by rw [exs_329, List.getElem?_set_ne (by decide)]; exact hp_313
                  have hp_335 : xs_329[13]? = some (.int 0) := by rw [exs_329, List.getElem?_set_ne (by decide)]; exact hp_314
                  have hp_336 : xs_329[24]? = some (.int 0) := by rw [exs_329, List.getElem?_set_ne (by decide)]; exact hp_315
                  have hp_337 : xs_329[25]? = some (.int 0) := by rw [exs_329, List.getElem?_set_ne (by decide)]; exact hp_316
                  have hp_338 : xs_329[29]? = some (.int 0) := by rw [exs_329, List.getElem?_set_ne (by decide)]; exact hp_317
                  have hp_339 : xs_329[31]? = some (.int (-1)) := by rw [exs_329, List.getElem?_set_ne (by decide)]; exact hp_318
                  have hp_340 : xs_329[43]? = some (.int 0) := by rw [exs_329, List.getElem?_set_ne (by decide)]; exact hp_319
                  have hp_341 : xs_329[53]? = some (.int 0) := by rw [exs_329, List.getElem?_set_ne (by decide)]; exact hp_320
                  have hp_342 : xs_329[32]? = some (.int b) := by rw [exs_329, List.getElem?_set_ne (by decide)]; exact hp_322
                  have hp_343 : xs_329[33]? = some (.int v33) := by rw [exs_329, List.getElem?_set_ne (by decide)]; exact hp_323
                  have hp_344 : xs_329[34]? = some (.int v34) := by rw [exs_329, List.getElem?_set_self (by rw [hl_309]; decide)]
                  have htp := htp.ext x_328 (Ne.symm (py_ne_arr h_306 htp))
                  have hcd := hcd.ext x_328 (Ne.symm (py_ne_arr h_306 hcd))
                  have hcl := hcl.ext x_328 (Ne.symm (py_ne_arr h_306 hcl))
                  refine lv_iconst (v := 1) G.1 G.2.1 dX12_set_89 (by decide) ?_
                  exact py_iret G hr rfl hlk hw (by first | (simp [sp_set, hi_6, c_7, hi_280, c_281, c_282, c_303, c_324]; done) | (first | decide | exact absurd rfl hi_6 | exact absurd rfl c_7 | exact absurd rfl hi_280 | exact absurd rfl c_281 | exact absurd rfl c_282 | exact absurd rfl c_303 | exact absurd rfl c_324 | (have h9 := Int32.not_lt.mp hi_6; simp [sp_set, h9, hi_6, c_7, hi_280, c_281, c_282, c_303, c_324]; done) | (have h9 := Int32.not_lt.mp c_7; simp [sp_set, h9, hi_6, c_7, hi_280, c_281, c_282, c_303, c_324]; done) | (have h9 := Int32.not_lt.mp hi_280; simp [sp_set, h9, hi_6, c_7, hi_280, c_281, c_282, c_303, c_324]; done) | (have h9 := Int32.not_lt.mp c_281; simp [sp_set, h9, hi_6, c_7, hi_280, c_281, c_282, c_303, c_324]; done) | (have h9 := Int32.not_lt.mp c_282; simp [sp_set, h9, hi_6, c_7, hi_280, c_281, c_282, c_303, c_324]; done) | (have h9 := Int32.not_lt.mp c_303; simp [sp_set, h9, hi_6, c_7, hi_280, c_281, c_282, c_303, c_324]; done) | (have h9 := Int32.not_lt.mp c_324; simp [sp_set, h9, hi_6, c_7, hi_280, c_281, c_282, c_303, c_324]; done) | (have z0 : (0 : Int32).toInt = 0 := rfl; have z1 : (1 : Int32).toInt = 1 := rfl; have z2 : (2 : Int32).toInt = 2 := rfl; have z3 : (99 : Int32).toInt = 99 := rfl; have z4 : (100 : Int32).toInt = 100 := rfl; simp only [sp_set, Int32.lt_iff_toInt_lt, Int32.le_iff_toInt_le, ← Int32.toInt_inj] at hi_6 c_7 hi_280 c_281 c_282 c_303 c_324 ⊢; split <;> first | rfl | omega))) dX12_set_90
                · skip
                  exact absurd c_324 (by decide)
              · skip
                exact absurd c_303 (by decide)
          · skip
            exact absurd c_281 (by decide)
        · skip
          refine lv_if_ne (tgt := 39) G.1 G.2.1 dX12_set_34 (by decide) (fun c_345 => ?_) (fun c_345 => ?_)
          · skip
            exact absurd c_345 (by decide)
          · skip
            refine lv_iconst (v := 0) G.1 G.2.1 dX12_set_37 (by decide) ?_
            exact py_iret G hr rfl hlk hw (by first | (simp [sp_set, hi_6, c_7, hi_280, c_345]; done) | (first | decide | exact absurd rfl hi_6 | exact absurd rfl c_7 | exact absurd rfl hi_280 | exact absurd rfl c_345 | (have h9 := Int32.not_lt.mp hi_6; simp [sp_set, h9, hi_6, c_7, hi_280, c_345]; done) | (have h9 := Int32.not_lt.mp c_7; simp [sp_set, h9, hi_6, c_7, hi_280, c_345]; done) | (have h9 := Int32.not_lt.mp hi_280; simp [sp_set, h9, hi_6, c_7, hi_280, c_345]; done) | (have h9 := Int32.not_lt.mp c_345; simp [sp_set, h9, hi_6, c_7, hi_280, c_345]; done) | (have z0 : (0 : Int32).toInt = 0 := rfl; have z1 : (1 : Int32).toInt = 1 := rfl; have z2 : (2 : Int32).toInt = 2 := rfl; have z3 : (99 : Int32).toInt = 99 := rfl; have z4 : (100 : Int32).toInt = 100 := rfl; simp only [sp_set, Int32.lt_iff_toInt_lt, Int32.le_iff_toInt_le, ← Int32.toInt_inj] at hi_6 c_7 hi_280 c_345 ⊢; split <;> first | rfl | omega))) dX12_set_38
  · skip
    refine lv_if_eq (tgt := 37) G.1 G.2.1 dX12_set_6 (by decide) (fun c_346 => ?_) (fun c_346 => ?_)
    · skip
      refine lv_iconst (v := 0) G.1 G.2.1 dX12_set_37 (by decide) ?_
      exact py_iret G hr rfl hlk hw (by first | (simp [sp_set, hi_6, c_346]; done) | (first | decide | exact absurd rfl hi_6 | exact absurd rfl c_346 | (have h9 := Int32.not_lt.mp hi_6; simp [sp_set, h9, hi_6, c_346]; done) | (have h9 := Int32.not_lt.mp c_346; simp [sp_set, h9, hi_6, c_346]; done) | (have z0 : (0 : Int32).toInt = 0 := rfl; have z1 : (1 : Int32).toInt = 1 := rfl; have z2 : (2 : Int32).toInt = 2 := rfl; have z3 : (99 : Int32).toInt = 99 := rfl; have z4 : (100 : Int32).toInt = 100 := rfl; simp only [sp_set, Int32.lt_iff_toInt_lt, Int32.le_iff_toInt_le, ← Int32.toInt_inj] at hi_6 c_346 ⊢; split <;> first | rfl | omega))) dX12_set_38
    · skip
      exact absurd c_346 (by decide)

def w_X12_count : List Cond := .code yX12_count cX12_count 2 (some .int) :: ([Cond.fieldLink RX12 302 "HeadYearModel" "levels" "I", Cond.fieldLink RX12 290 "HeadYearModel" "families" "I", Cond.fieldLink RX12 322 "HeadYearModel" "laws" "I", Cond.fieldLink RX12 124 "HeadYearModel" "size" "I", Cond.fieldLink RX12 309 "HeadYearModel" "years" "I", Cond.fieldLink RX12 64 "HeadYearModel" "holding" "I", Cond.fieldLink RX12 312 "HeadYearModel" "buys" "I", Cond.methodLink RX12 463 yX12_gones, Cond.instanceMethod yX12_gones, Cond.selects RX12 yX12_gones yX12_gones, Cond.initialized RX12, Cond.constant RX12 350 (-1000000)] ++ (u_ws RX12 TX12 54 ++ (w_X12_gones ++ ([]))))
theorem in_X12_count_X12 : ∀ w ∈ u_ws RX12 TX12 54, w ∈ w_X12_count := fun _ h => List.mem_cons_of_mem _ (List.mem_append_right _ (List.mem_append_left _ h))
theorem gg_X12_count_X12_gones : GoodIn w_X12_count w_X12_gones := goodIn_sub (fun _ h => List.mem_cons_of_mem _ (List.mem_append_right _ (List.mem_append_right _ (List.mem_append_left _ h)))) (by decide +kernel)
theorem g_X12_count_X12_gones_463 : GoodIn w_X12_count (wsV RX12 463 RX12 yX12_gones w_X12_gones) := goodIn_app (goodIn_of _ (by decide +kernel)) gg_X12_count_X12_gones
set_option maxHeartbeats 4000000 in
set_option maxRecDepth 100000 in
theorem c_X12_count (l : Launch) (E : py_E) (L : List Nat) (f : py_F) (sz : Nat) (h : Nat) (a : Int32) (hM : fr_M E L f h) : Met l yX12_count w_X12_count ({ frames := 1, cells := 0, slots := 0, locals := 22 }) (py_Pc E [.ref h, .int a] L f sz) (py_Qi E L f sz (fun r _ _ => r = sp_count a)) 0 0 (va_A (va_pl L f) sz) := by
  refine Met.ofW (cc := cX12_count) (maxL := 2) (ret := (some .int)) (by decide) rfl ?_
  intro p e s m args below meth c s₁ B hml hv
  obtain ⟨rfl, rfl, hw⟩ := py_start hv
  have G : CallFix p m c cX12_count 2 s _ w_X12_count RX12 := ⟨B.exec, B.bytes, hml, findClass_of_methodNamed B.named, atoms_spec (ws := w_X12_count) B.pre⟩
  have hr := B.returns
  have hlk := B.notSynchronized
  have hl := lv_entry ([.ref h, .int a]) (n := 2) (Nat.le_of_ble_eq_true rfl)
  rw [lg_entry_eq]
  generalize (lg_sl ([.ref h, .int a]) ++ List.replicate (2 - (lg_sl ([.ref h, .int a])).length) Slot.unset).toArray = ls at hl ⊢
  have hl : lv_has ls 2 [(0, .ref h), (1, .int a)] := hl
  obtain ⟨tp, cd, cl, g1, g2, g3, xs, v32, v33, v34, hh, hxs, hp1, hp2, hp8, hp9, hp13, hp24, hp25, hp29, hp31, hp43, hp53, ⟨hp32, hp33, hp34⟩, htp, hcd, hcl⟩ := id hM
  refine lv_iload_n G.1 G.2.1 dX12_count_0 rfl (lv_at hl 1 rfl) ?_
  rcases py_sw8 a with e_sw | e_sw | e_sw | e_sw | e_sw | e_sw | e_sw | e_sw | e_sw
  · skip
    subst e_sw
    refine lv_tableIn (tgt := 48) G.1 G.2.1 dX12_count_1 (by decide) (by decide) rfl (by decide) ?_
    refine lv_aload_n G.1 G.2.1 dX12_count_48 rfl (lv_at hl 0 rfl) ?_
    refine py_get (C := RX12) (T := TX12) (N := 54) (k := 24) (v := .int 0) G hw in_X12_count_X12 rfl hh (by decide) (by decide +kernel) hp24 dX12_count_49 ?_
    exact py_iret G hr rfl hlk hw (by decide) dX12_count_52
  · skip
    subst e_sw
    refine lv_tableIn (tgt := 53) G.1 G.2.1 dX12_count_1 (by decide) (by decide) rfl (by decide) ?_
    refine lv_aload_n G.1 G.2.1 dX12_count_53 rfl (lv_at hl 0 rfl) ?_
    refine py_get (C := RX12) (T := TX12) (N := 54) (k := 25) (v := .int 0) G hw in_X12_count_X12 rfl hh (by decide) (by decide +kernel) hp25 dX12_count_54 ?_
    exact py_iret G hr rfl hlk hw (by decide) dX12_count_57
  · skip
    subst e_sw
    refine lv_tableIn (tgt := 58) G.1 G.2.1 dX12_count_1 (by decide) (by decide) rfl (by decide) ?_
    refine lv_aload_n G.1 G.2.1 dX12_count_58 rfl (lv_at hl 0 rfl) ?_
    refine py_get (C := RX12) (T := TX12) (N := 54) (k := 13) (v := .int 0) G hw in_X12_count_X12 rfl hh (by decide) (by decide +kernel) hp13 dX12_count_59 ?_
    exact py_iret G hr rfl hlk hw (by decide) dX12_count_62
  · skip
    subst e_sw
    refine lv_tableIn (tgt := 63) G.1 G.2.1 dX12_count_1 (by decide) (by decide) rfl (by decide) ?_
    refine lv_aload_n G.1 G.2.1 dX12_count_63 rfl (lv_at hl 0 rfl) ?_
    refine py_get (C := RX12) (T := TX12) (N := 54) (k := 2) (v := .int 0) G hw in_X12_count_X12 rfl hh (by decide) (by decide +kernel) hp2 dX12_count_64 ?_
    exact py_iret G hr rfl hlk hw (by decide) dX12_count_67
  · skip
    subst e_sw
    refine lv_tableIn (tgt := 68) G.1 G.2.1 dX12_count_1 (by decide) (by decide) rfl (by decide) ?_
    refine lv_aload_n G.1 G.2.1 dX12_count_68 rfl (lv_at hl 0 rfl) ?_
    refine py_get (C := RX12) (T := TX12) (N := 54) (k := 29) (v := .int 0) G hw in_X12_count_X12 rfl hh (by decide) (by decide +kernel) hp29 dX12_count_69 ?_
    exact py_iret G hr rfl hlk hw (by decide) dX12_count_72
  · skip
    subst e_sw
    refine lv_tableIn (tgt := 73) G.1 G.2.1 dX12_count_1 (by decide) (by decide) rfl (by decide) ?_
    refine lv_aload_n G.1 G.2.1 dX12_count_73 rfl (lv_at hl 0 rfl) ?_
    refine py_get (C := RX12) (T := TX12) (N := 54) (k := 31) (v := .int (-1)) G hw in_X12_count_X12 rfl hh (by decide) (by decide +kernel) hp31 dX12_count_74 ?_
    exact py_iret G hr rfl hlk hw (by decide) dX12_count_77
  · skip
    subst e_sw
    refine lv_tableIn (tgt := 78) G.1 G.2.1 dX12_count_1 (by decide) (by decide) rfl (by decide) ?_
    refine lv_aload_n G.1 G.2.1 dX12_count_78 rfl (lv_at hl 0 rfl) ?_
    refine py_get (C := RX12) (T := TX12) (N := 54) (k := 43) (v := .int 0) G hw in_X12_count_X12 rfl hh (by decide) (by decide +kernel) hp43 dX12_count_79 ?_
    exact py_iret G hr rfl hlk hw (by decide) dX12_count_82
  · skip
    subst e_sw
    refine lv_tableIn (tgt := 83) G.1 G.2.1 dX12_count_1 (by decide) (by decide) rfl (by decide) ?_
    refine lv_aload_n G.1 G.2.1 dX12_count_83 rfl (lv_at hl 0 rfl) ?_
    refine py_calli hw (va_runV (As := []) (rest := []) G (c_X12_gones l E L f s.heap.size h hM) (cwV 0 G.2.2.2.2 g_X12_count_X12_gones_463 rfl rfl rfl (by decide +kernel) ⟨(Nat.le_of_ble_eq_true rfl), (Nat.le_of_ble_eq_true rfl)⟩) (py_preV hw (C := RX12) (T := TX12) (N := 54) rfl hh) rfl rfl hl.1 rfl (lv_room (Nat.le_of_ble_eq_true rfl)) dX12_count_84 ⟨(Nat.le_of_ble_eq_true rfl), (Nat.le_of_ble_eq_true rfl)⟩) (fun r_5 L_1 f_2 H_3 locs hp_4 hw => ?_)
    obtain ⟨rfl, rfl, rfl⟩ := hp_4
    exact py_iret G hr rfl hlk hw (by decide) dX12_count_87
  · skip
    refine lv_tableOut (tgt := 88) G.1 G.2.1 dX12_count_1 e_sw (by decide) ?_
    refine lv_ldcw (v := (-1000000)) G.1 G.2.1 G.2.2.2.1 (G.2.2.2.2 (Cond.constant RX12 350 (-1000000)) (by decide +kernel)) dX12_count_88 ?_
    exact py_iret G hr rfl hlk hw (by have n0 := py_out8 e_sw; simp [sp_count, n0]) dX12_count_91
end
section
theorem dX12_atEnd_0 : decode cX12_atEnd 0 = .ok (.aload_n 0, 1) := by decide +kernel
theorem dX12_atEnd_1 : decode cX12_atEnd 1 = .ok (.getfield 134, 3) := by decide +kernel
theorem dX12_atEnd_4 : decode cX12_atEnd 4 = .ok (.iconst (-1), 1) := by decide +kernel
theorem dX12_atEnd_5 : decode cX12_atEnd 5 = .ok (.if_icmp .ne 15, 3) := by decide +kernel
theorem dX12_atEnd_20 : decode cX12_atEnd 20 = .ok (.aload_n 0, 1) := by decide +kernel
theorem dX12_atEnd_21 : decode cX12_atEnd 21 = .ok (.getfield 134, 3) := by decide +kernel
theorem dX12_atEnd_24 : decode cX12_atEnd 24 = .ok (.ireturn, 1) := by decide +kernel
theorem dX12_bad_0 : decode cX12_bad 0 = .ok (.aload_n 0, 1) := by decide +kernel
theorem dX12_bad_1 : decode cX12_bad 1 = .ok (.aload_n 0, 1) := by decide +kernel
theorem dX12_bad_2 : decode cX12_bad 2 = .ok (.getfield 134, 3) := by decide +kernel
theorem dX12_bad_5 : decode cX12_bad 5 = .ok (.iconst (-1), 1) := by decide +kernel
theorem dX12_bad_6 : decode cX12_bad 6 = .ok (.if_icmp .ne 10, 3) := by decide +kernel
theorem dX12_bad_9 : decode cX12_bad 9 = .ok (.aload_n 0, 1) := by decide +kernel
theorem dX12_bad_10 : decode cX12_bad 10 = .ok (.getfield 127, 3) := by decide +kernel
theorem dX12_bad_13 : decode cX12_bad 13 = .ok (.goto 7, 3) := by decide +kernel
theorem dX12_bad_20 : decode cX12_bad 20 = .ok (.putfield 134, 3) := by decide +kernel
theorem dX12_bad_23 : decode cX12_bad 23 = .ok (.return_, 1) := by decide +kernel
theorem dX12_clause_0 : decode cX12_clause 0 = .ok (.bipush 90, 2) := by decide +kernel
theorem dX12_clause_2 : decode cX12_clause 2 = .ok (.aload_n 0, 1) := by decide +kernel
theorem dX12_clause_3 : decode cX12_clause 3 = .ok (.getfield 137, 3) := by decide +kernel
theorem dX12_clause_6 : decode cX12_clause 6 = .ok (.imul, 1) := by decide +kernel
theorem dX12_clause_7 : decode cX12_clause 7 = .ok (.aload_n 0, 1) := by decide +kernel
theorem dX12_clause_8 : decode cX12_clause 8 = .ok (.getfield 22, 3) := by decide +kernel
theorem dX12_clause_11 : decode cX12_clause 11 = .ok (.aload_n 0, 1) := by decide +kernel
theorem dX12_clause_12 : decode cX12_clause 12 = .ok (.getfield 137, 3) := by decide +kernel
theorem dX12_clause_15 : decode cX12_clause 15 = .ok (.iaload, 1) := by decide +kernel
theorem dX12_clause_16 : decode cX12_clause 16 = .ok (.iadd, 1) := by decide +kernel
theorem dX12_clause_17 : decode cX12_clause 17 = .ok (.istore_n 1, 1) := by decide +kernel
theorem dX12_clause_18 : decode cX12_clause 18 = .ok (.aload_n 0, 1) := by decide +kernel
theorem dX12_clause_19 : decode cX12_clause 19 = .ok (.getfield 134, 3) := by decide +kernel
theorem dX12_clause_22 : decode cX12_clause 22 = .ok (.iconst (-1), 1) := by decide +kernel
theorem dX12_clause_23 : decode cX12_clause 23 = .ok (.if_icmp .ne 16, 3) := by decide +kernel
theorem dX12_clause_26 : decode cX12_clause 26 = .ok (.aload_n 0, 1) := by decide +kernel
theorem dX12_clause_27 : decode cX12_clause 27 = .ok (.invokevirtual 146, 3) := by decide +kernel
theorem dX12_clause_30 : decode cX12_clause 30 = .ok (.bipush 121, 2) := by decide +kernel
theorem dX12_clause_32 : decode cX12_clause 32 = .ok (.if_icmp .eq 7, 3) := by decide +kernel
theorem dX12_clause_35 : decode cX12_clause 35 = .ok (.aload_n 0, 1) := by decide +kernel
theorem dX12_clause_36 : decode cX12_clause 36 = .ok (.invokevirtual 143, 3) := by decide +kernel
theorem dX12_clause_39 : decode cX12_clause 39 = .ok (.aload_n 0, 1) := by decide +kernel
theorem dX12_clause_40 : decode cX12_clause 40 = .ok (.dup, 1) := by decide +kernel
theorem dX12_clause_41 : decode cX12_clause 41 = .ok (.getfield 127, 3) := by decide +kernel
theorem dX12_clause_44 : decode cX12_clause 44 = .ok (.iconst 1, 1) := by decide +kernel
theorem dX12_clause_45 : decode cX12_clause 45 = .ok (.iadd, 1) := by decide +kernel
theorem dX12_clause_46 : decode cX12_clause 46 = .ok (.putfield 127, 3) := by decide +kernel
theorem dX12_clause_49 : decode cX12_clause 49 = .ok (.aload_n 0, 1) := by decide +kernel
theorem dX12_clause_50 : decode cX12_clause 50 = .ok (.getfield 134, 3) := by decide +kernel
theorem dX12_clause_53 : decode cX12_clause 53 = .ok (.iconst (-1), 1) := by decide +kernel
theorem dX12_clause_54 : decode cX12_clause 54 = .ok (.if_icmp .ne 16, 3) := by decide +kernel
theorem dX12_clause_70 : decode cX12_clause 70 = .ok (.aload_n 0, 1) := by decide +kernel
theorem dX12_clause_71 : decode cX12_clause 71 = .ok (.dup, 1) := by decide +kernel
theorem dX12_clause_72 : decode cX12_clause 72 = .ok (.getfield 127, 3) := by decide +kernel
theorem dX12_clause_75 : decode cX12_clause 75 = .ok (.iconst 1, 1) := by decide +kernel
theorem dX12_clause_76 : decode cX12_clause 76 = .ok (.iadd, 1) := by decide +kernel
theorem dX12_clause_77 : decode cX12_clause 77 = .ok (.putfield 127, 3) := by decide +kernel
theorem dX12_clause_80 : decode cX12_clause 80 = .ok (.aload_n 0, 1) := by decide +kernel
theorem dX12_clause_81 : decode cX12_clause 81 = .ok (.getfield 134, 3) := by decide +kernel
theorem dX12_clause_84 : decode cX12_clause 84 = .ok (.iconst (-1), 1) := by decide +kernel
theorem dX12_clause_85 : decode cX12_clause 85 = .ok (.if_icmp .eq 4, 3) := by decide +kernel
theorem dX12_clause_88 : decode cX12_clause 88 = .ok (.return_, 1) := by decide +kernel
theorem dX12_clauseText_0 : decode cX12_clauseText 0 = .ok (.aload_n 0, 1) := by decide +kernel
theorem dX12_clauseText_1 : decode cX12_clauseText 1 = .ok (.invokevirtual 146, 3) := by decide +kernel
theorem dX12_clauseText_4 : decode cX12_clauseText 4 = .ok (.istore_n 1, 1) := by decide +kernel
theorem dX12_clauseText_5 : decode cX12_clauseText 5 = .ok (.iload_n 1, 1) := by decide +kernel
theorem dX12_clauseText_6 : decode cX12_clauseText 6 = .ok (.bipush 108, 2) := by decide +kernel
theorem dX12_clauseText_8 : decode cX12_clauseText 8 = .ok (.if_icmp .ne 7, 3) := by decide +kernel
theorem dX12_clauseText_15 : decode cX12_clauseText 15 = .ok (.iconst 0, 1) := by decide +kernel
theorem dX12_clauseText_16 : decode cX12_clauseText 16 = .ok (.istore_n 2, 1) := by decide +kernel
theorem dX12_clauseText_17 : decode cX12_clauseText 17 = .ok (.iload_n 2, 1) := by decide +kernel
theorem dX12_clauseText_18 : decode cX12_clauseText 18 = .ok (.ifCond .ne 9, 3) := by decide +kernel
theorem dX12_clauseText_21 : decode cX12_clauseText 21 = .ok (.iload_n 1, 1) := by decide +kernel
theorem dX12_clauseText_22 : decode cX12_clauseText 22 = .ok (.bipush 107, 2) := by decide +kernel
theorem dX12_clauseText_24 : decode cX12_clauseText 24 = .ok (.if_icmp .ne 28, 3) := by decide +kernel
theorem dX12_clauseText_52 : decode cX12_clauseText 52 = .ok (.aload_n 0, 1) := by decide +kernel
theorem dX12_clauseText_53 : decode cX12_clauseText 53 = .ok (.invokevirtual 143, 3) := by decide +kernel
theorem dX12_clauseText_56 : decode cX12_clauseText 56 = .ok (.return_, 1) := by decide +kernel
theorem dX12_fault_0 : decode cX12_fault 0 = .ok (.iload_n 1, 1) := by decide +kernel
theorem dX12_fault_1 : decode cX12_fault 1 = .ok (.ifCond .ne 10, 3) := by decide +kernel
theorem dX12_fault_4 : decode cX12_fault 4 = .ok (.aload_n 0, 1) := by decide +kernel
theorem dX12_fault_5 : decode cX12_fault 5 = .ok (.invokevirtual 281, 3) := by decide +kernel
theorem dX12_fault_8 : decode cX12_fault 8 = .ok (.goto 18, 3) := by decide +kernel
theorem dX12_fault_11 : decode cX12_fault 11 = .ok (.iload_n 1, 1) := by decide +kernel
theorem dX12_fault_12 : decode cX12_fault 12 = .ok (.iconst 1, 1) := by decide +kernel
theorem dX12_fault_13 : decode cX12_fault 13 = .ok (.if_icmp .ne 11, 3) := by decide +kernel
theorem dX12_fault_16 : decode cX12_fault 16 = .ok (.aload_n 0, 1) := by decide +kernel
theorem dX12_fault_17 : decode cX12_fault 17 = .ok (.iconst 4, 1) := by decide +kernel
theorem dX12_fault_18 : decode cX12_fault 18 = .ok (.invokevirtual 284, 3) := by decide +kernel
theorem dX12_fault_21 : decode cX12_fault 21 = .ok (.goto 5, 3) := by decide +kernel
theorem dX12_fault_24 : decode cX12_fault 24 = .ok (.bipush (-2), 2) := by decide +kernel
theorem dX12_fault_26 : decode cX12_fault 26 = .ok (.ireturn, 1) := by decide +kernel
theorem dX12_here_0 : decode cX12_here 0 = .ok (.aload_n 0, 1) := by decide +kernel
theorem dX12_here_1 : decode cX12_here 1 = .ok (.getfield 127, 3) := by decide +kernel
theorem dX12_here_4 : decode cX12_here 4 = .ok (.aload_n 0, 1) := by decide +kernel
theorem dX12_here_5 : decode cX12_here 5 = .ok (.getfield 124, 3) := by decide +kernel
theorem dX12_here_8 : decode cX12_here 8 = .ok (.if_icmp .ge 15, 3) := by decide +kernel
theorem dX12_here_23 : decode cX12_here 23 = .ok (.iconst (-1), 1) := by decide +kernel
theorem dX12_here_24 : decode cX12_here 24 = .ok (.ireturn, 1) := by decide +kernel
theorem dX12_level_0 : decode cX12_level 0 = .ok (.aload_n 0, 1) := by decide +kernel
theorem dX12_level_1 : decode cX12_level 1 = .ok (.aload_n 0, 1) := by decide +kernel
theorem dX12_level_2 : decode cX12_level 2 = .ok (.iload_n 1, 1) := by decide +kernel
theorem dX12_level_3 : decode cX12_level 3 = .ok (.invokevirtual 330, 3) := by decide +kernel
theorem dX12_level_6 : decode cX12_level 6 = .ok (.ifCond .eq 17, 3) := by decide +kernel
theorem dX12_level_23 : decode cX12_level 23 = .ok (.iconst 1, 1) := by decide +kernel
theorem dX12_level_24 : decode cX12_level 24 = .ok (.putfield 117, 3) := by decide +kernel
theorem dX12_level_27 : decode cX12_level 27 = .ok (.aload_n 0, 1) := by decide +kernel
theorem dX12_level_28 : decode cX12_level 28 = .ok (.getfield 117, 3) := by decide +kernel
theorem dX12_level_31 : decode cX12_level 31 = .ok (.iconst 1, 1) := by decide +kernel
theorem dX12_level_32 : decode cX12_level 32 = .ok (.if_icmp .ne 5, 3) := by decide +kernel
theorem dX12_level_35 : decode cX12_level 35 = .ok (.iconst 0, 1) := by decide +kernel
theorem dX12_level_36 : decode cX12_level 36 = .ok (.ireturn, 1) := by decide +kernel
theorem dX12_look_0 : decode cX12_look 0 = .ok (.aload_n 0, 1) := by decide +kernel
theorem dX12_look_1 : decode cX12_look 1 = .ok (.invokevirtual 130, 3) := by decide +kernel
theorem dX12_look_4 : decode cX12_look 4 = .ok (.bipush 32, 2) := by decide +kernel
theorem dX12_look_6 : decode cX12_look 6 = .ok (.if_icmp .ne 16, 3) := by decide +kernel
theorem dX12_look_22 : decode cX12_look 22 = .ok (.aload_n 0, 1) := by decide +kernel
theorem dX12_look_23 : decode cX12_look 23 = .ok (.invokevirtual 130, 3) := by decide +kernel
theorem dX12_look_26 : decode cX12_look 26 = .ok (.ireturn, 1) := by decide +kernel
theorem dX12_open_0 : decode cX12_open 0 = .ok (.aload_n 0, 1) := by decide +kernel
theorem dX12_open_1 : decode cX12_open 1 = .ok (.iload_n 1, 1) := by decide +kernel
theorem dX12_open_2 : decode cX12_open 2 = .ok (.putfield 137, 3) := by decide +kernel
theorem dX12_open_5 : decode cX12_open 5 = .ok (.aload_n 0, 1) := by decide +kernel
theorem dX12_open_6 : decode cX12_open 6 = .ok (.iconst 0, 1) := by decide +kernel
theorem dX12_open_7 : decode cX12_open 7 = .ok (.putfield 127, 3) := by decide +kernel
theorem dX12_open_10 : decode cX12_open 10 = .ok (.aload_n 0, 1) := by decide +kernel
theorem dX12_open_11 : decode cX12_open 11 = .ok (.iconst (-1), 1) := by decide +kernel
theorem dX12_open_12 : decode cX12_open 12 = .ok (.putfield 134, 3) := by decide +kernel
theorem dX12_open_15 : decode cX12_open 15 = .ok (.aload_n 0, 1) := by decide +kernel
theorem dX12_open_16 : decode cX12_open 16 = .ok (.iconst 0, 1) := by decide +kernel
theorem dX12_open_17 : decode cX12_open 17 = .ok (.putfield 140, 3) := by decide +kernel
theorem dX12_open_20 : decode cX12_open 20 = .ok (.aload_n 0, 1) := by decide +kernel
theorem dX12_open_21 : decode cX12_open 21 = .ok (.getfield 19, 3) := by decide +kernel
theorem dX12_open_24 : decode cX12_open 24 = .ok (.iload_n 1, 1) := by decide +kernel
theorem dX12_open_25 : decode cX12_open 25 = .ok (.iconst 0, 1) := by decide +kernel
theorem dX12_open_26 : decode cX12_open 26 = .ok (.iastore, 1) := by decide +kernel
theorem dX12_open_27 : decode cX12_open 27 = .ok (.aload_n 0, 1) := by decide +kernel
theorem dX12_open_28 : decode cX12_open 28 = .ok (.getfield 22, 3) := by decide +kernel
theorem dX12_open_31 : decode cX12_open 31 = .ok (.iload_n 1, 1) := by decide +kernel
theorem dX12_open_32 : decode cX12_open 32 = .ok (.iconst 0, 1) := by decide +kernel
theorem dX12_open_33 : decode cX12_open 33 = .ok (.iastore, 1) := by decide +kernel
theorem dX12_open_34 : decode cX12_open 34 = .ok (.return_, 1) := by decide +kernel
theorem dX12_readLaw_0 : decode cX12_readLaw 0 = .ok (.aload_n 0, 1) := by decide +kernel
theorem dX12_readLaw_1 : decode cX12_readLaw 1 = .ok (.iload_n 1, 1) := by decide +kernel
theorem dX12_readLaw_2 : decode cX12_readLaw 2 = .ok (.invokevirtual 198, 3) := by decide +kernel
theorem dX12_readLaw_5 : decode cX12_readLaw 5 = .ok (.aload_n 0, 1) := by decide +kernel
theorem dX12_readLaw_6 : decode cX12_readLaw 6 = .ok (.invokevirtual 201, 3) := by decide +kernel
theorem dX12_readLaw_9 : decode cX12_readLaw 9 = .ok (.aload_n 0, 1) := by decide +kernel
theorem dX12_readLaw_10 : decode cX12_readLaw 10 = .ok (.getfield 134, 3) := by decide +kernel
theorem dX12_readLaw_13 : decode cX12_readLaw 13 = .ok (.iconst (-1), 1) := by decide +kernel
theorem dX12_readLaw_14 : decode cX12_readLaw 14 = .ok (.if_icmp .ne 29, 3) := by decide +kernel
theorem dX12_readLaw_43 : decode cX12_readLaw 43 = .ok (.aload_n 0, 1) := by decide +kernel
theorem dX12_readLaw_44 : decode cX12_readLaw 44 = .ok (.invokevirtual 204, 3) := by decide +kernel
theorem dX12_readLaw_47 : decode cX12_readLaw 47 = .ok (.ireturn, 1) := by decide +kernel
theorem dX12_readValley_0 : decode cX12_readValley 0 = .ok (.aload_n 0, 1) := by decide +kernel
theorem dX12_readValley_1 : decode cX12_readValley 1 = .ok (.iconst 0, 1) := by decide +kernel
theorem dX12_readValley_2 : decode cX12_readValley 2 = .ok (.putfield 127, 3) := by decide +kernel
theorem dX12_readValley_5 : decode cX12_readValley 5 = .ok (.aload_n 0, 1) := by decide +kernel
theorem dX12_readValley_6 : decode cX12_readValley 6 = .ok (.iconst (-1), 1) := by decide +kernel
theorem dX12_readValley_7 : decode cX12_readValley 7 = .ok (.putfield 134, 3) := by decide +kernel
theorem dX12_readValley_10 : decode cX12_readValley 10 = .ok (.aload_n 0, 1) := by decide +kernel
theorem dX12_readValley_11 : decode cX12_readValley 11 = .ok (.iconst 0, 1) := by decide +kernel
theorem dX12_readValley_12 : decode cX12_readValley 12 = .ok (.putfield 264, 3) := by decide +kernel
theorem dX12_readValley_15 : decode cX12_readValley 15 = .ok (.aload_n 0, 1) := by decide +kernel
theorem dX12_readValley_16 : decode cX12_readValley 16 = .ok (.iconst 0, 1) := by decide +kernel
theorem dX12_readValley_17 : decode cX12_readValley 17 = .ok (.putfield 267, 3) := by decide +kernel
theorem dX12_readValley_20 : decode cX12_readValley 20 = .ok (.iconst 1, 1) := by decide +kernel
theorem dX12_readValley_21 : decode cX12_readValley 21 = .ok (.istore_n 1, 1) := by decide +kernel
theorem dX12_readValley_22 : decode cX12_readValley 22 = .ok (.iload_n 1, 1) := by decide +kernel
theorem dX12_readValley_23 : decode cX12_readValley 23 = .ok (.ifCond .eq 59, 3) := by decide +kernel
theorem dX12_readValley_26 : decode cX12_readValley 26 = .ok (.aload_n 0, 1) := by decide +kernel
theorem dX12_readValley_27 : decode cX12_readValley 27 = .ok (.getfield 134, 3) := by decide +kernel
theorem dX12_readValley_30 : decode cX12_readValley 30 = .ok (.iconst (-1), 1) := by decide +kernel
theorem dX12_readValley_31 : decode cX12_readValley 31 = .ok (.if_icmp .ne 51, 3) := by decide +kernel
theorem dX12_readValley_34 : decode cX12_readValley 34 = .ok (.aload_n 0, 1) := by decide +kernel
theorem dX12_readValley_35 : decode cX12_readValley 35 = .ok (.invokevirtual 274, 3) := by decide +kernel
theorem dX12_readValley_38 : decode cX12_readValley 38 = .ok (.aload_n 0, 1) := by decide +kernel
theorem dX12_readValley_39 : decode cX12_readValley 39 = .ok (.getfield 134, 3) := by decide +kernel
theorem dX12_readValley_42 : decode cX12_readValley 42 = .ok (.iconst (-1), 1) := by decide +kernel
theorem dX12_readValley_43 : decode cX12_readValley 43 = .ok (.if_icmp .ne 16, 3) := by decide +kernel
theorem dX12_readValley_59 : decode cX12_readValley 59 = .ok (.iconst 0, 1) := by decide +kernel
theorem dX12_readValley_60 : decode cX12_readValley 60 = .ok (.istore_n 1, 1) := by decide +kernel
theorem dX12_readValley_61 : decode cX12_readValley 61 = .ok (.aload_n 0, 1) := by decide +kernel
theorem dX12_readValley_62 : decode cX12_readValley 62 = .ok (.dup, 1) := by decide +kernel
theorem dX12_readValley_63 : decode cX12_readValley 63 = .ok (.getfield 127, 3) := by decide +kernel
theorem dX12_readValley_66 : decode cX12_readValley 66 = .ok (.iload_n 1, 1) := by decide +kernel
theorem dX12_readValley_67 : decode cX12_readValley 67 = .ok (.ifCond .eq 7, 3) := by decide +kernel
theorem dX12_readValley_74 : decode cX12_readValley 74 = .ok (.iconst 0, 1) := by decide +kernel
theorem dX12_readValley_75 : decode cX12_readValley 75 = .ok (.iadd, 1) := by decide +kernel
theorem dX12_readValley_76 : decode cX12_readValley 76 = .ok (.putfield 127, 3) := by decide +kernel
theorem dX12_readValley_79 : decode cX12_readValley 79 = .ok (.goto (-57), 3) := by decide +kernel
theorem dX12_readValley_82 : decode cX12_readValley 82 = .ok (.aload_n 0, 1) := by decide +kernel
theorem dX12_readValley_83 : decode cX12_readValley 83 = .ok (.getfield 134, 3) := by decide +kernel
theorem dX12_readValley_86 : decode cX12_readValley 86 = .ok (.iconst (-1), 1) := by decide +kernel
theorem dX12_readValley_87 : decode cX12_readValley 87 = .ok (.if_icmp .ne 37, 3) := by decide +kernel
theorem dX12_readValley_124 : decode cX12_readValley 124 = .ok (.aload_n 0, 1) := by decide +kernel
theorem dX12_readValley_125 : decode cX12_readValley 125 = .ok (.getfield 134, 3) := by decide +kernel
theorem dX12_readValley_128 : decode cX12_readValley 128 = .ok (.ireturn, 1) := by decide +kernel
theorem dX12_text_0 : decode cX12_text 0 = .ok (.iload_n 1, 1) := by decide +kernel
theorem dX12_text_1 : decode cX12_text 1 = .ok (.ifCond .ne 21, 3) := by decide +kernel
theorem dX12_text_4 : decode cX12_text 4 = .ok (.aload_n 0, 1) := by decide +kernel
theorem dX12_text_5 : decode cX12_text 5 = .ok (.invokevirtual 281, 3) := by decide +kernel
theorem dX12_text_8 : decode cX12_text 8 = .ok (.iconst (-1), 1) := by decide +kernel
theorem dX12_text_9 : decode cX12_text 9 = .ok (.if_icmp .ne 13, 3) := by decide +kernel
theorem dX12_text_22 : decode cX12_text 22 = .ok (.iload_n 1, 1) := by decide +kernel
theorem dX12_text_23 : decode cX12_text 23 = .ok (.iconst 1, 1) := by decide +kernel
theorem dX12_text_24 : decode cX12_text 24 = .ok (.if_icmp .ne 45, 3) := by decide +kernel
theorem dX12_text_27 : decode cX12_text 27 = .ok (.aload_n 0, 1) := by decide +kernel
theorem dX12_text_28 : decode cX12_text 28 = .ok (.getfield 322, 3) := by decide +kernel
theorem dX12_text_31 : decode cX12_text 31 = .ok (.iconst 4, 1) := by decide +kernel
theorem dX12_text_32 : decode cX12_text 32 = .ok (.if_icmp .ge 37, 3) := by decide +kernel
theorem dX12_text_35 : decode cX12_text 35 = .ok (.aload_n 0, 1) := by decide +kernel
theorem dX12_text_36 : decode cX12_text 36 = .ok (.aload_n 0, 1) := by decide +kernel
theorem dX12_text_37 : decode cX12_text 37 = .ok (.getfield 322, 3) := by decide +kernel
theorem dX12_text_40 : decode cX12_text 40 = .ok (.invokevirtual 284, 3) := by decide +kernel
theorem dX12_text_43 : decode cX12_text 43 = .ok (.iconst (-1), 1) := by decide +kernel
theorem dX12_text_44 : decode cX12_text 44 = .ok (.if_icmp .ne 25, 3) := by decide +kernel
theorem dX12_text_69 : decode cX12_text 69 = .ok (.iconst (-1), 1) := by decide +kernel
theorem dX12_text_70 : decode cX12_text 70 = .ok (.ireturn, 1) := by decide +kernel
theorem dX12_thrown_0 : decode cX12_thrown 0 = .ok (.aload_n 0, 1) := by decide +kernel
theorem dX12_thrown_1 : decode cX12_thrown 1 = .ok (.getfield 117, 3) := by decide +kernel
theorem dX12_thrown_4 : decode cX12_thrown 4 = .ok (.ireturn, 1) := by decide +kernel
def w_X12_here : List Cond := .code yX12_here cX12_here 1 (some .int) :: ([Cond.fieldLink RX12 127 "HeadYearModel" "at" "I", Cond.fieldLink RX12 124 "HeadYearModel" "size" "I"] ++ (u_ws RX12 TX12 54 ++ ([])))
theorem in_X12_here_X12 : ∀ w ∈ u_ws RX12 TX12 54, w ∈ w_X12_here := fun _ h => List.mem_cons_of_mem _ (List.mem_append_right _ (List.mem_append_left _ h))
set_option maxHeartbeats 4000000 in
set_option maxRecDepth 100000 in
theorem c_X12_here (l : Launch) (E : py_E) (L : List Nat) (f : py_F) (sz : Nat) (h : Nat) (xs : List Value) (hh : py_at L f h (.inr (12, xs))) (hxs : xs.length = 54) (hp2 : xs[2]? = some (.int 0)) (hp3 : xs[3]? = some (.int 0)) : Met l yX12_here w_X12_here ({ frames := 0, cells := 0, slots := 0, locals := 0 }) (py_Pc E [.ref h] L f sz) (py_Qi E L f sz (fun r L1 f1 => r = -1 ∧ L = L1 ∧ f = f1)) 0 0 (va_A (va_pl L f) sz) := by
  refine Met.ofW (cc := cX12_here) (maxL := 1) (ret := (some .int)) (by decide) rfl ?_
  intro p e s m args below meth c s₁ B hml hv
  obtain ⟨rfl, rfl, hw⟩ := py_start hv
  have G : CallFix p m c cX12_here 1 s _ w_X12_here RX12 := ⟨B.exec, B.bytes, hml, findClass_of_methodNamed B.named, atoms_spec (ws := w_X12_here) B.pre⟩
  have hr := B.returns
  have hlk := B.notSynchronized
  have hl := lv_entry ([.ref h]) (n := 1) (Nat.le_of_ble_eq_true rfl)
  rw [lg_entry_eq]
  generalize (lg_sl ([.ref h]) ++ List.replicate (1 - (lg_sl ([.ref h])).length) Slot.unset).toArray = ls at hl ⊢
  have hl : lv_has ls 1 [(0, .ref h)] := hl
  refine lv_aload_n G.1 G.2.1 dX12_here_0 rfl (lv_at hl 0 rfl) ?_
  refine py_get (C := RX12) (T := TX12) (N := 54) (k := 3) (v := .int 0) G hw in_X12_here_X12 rfl hh (by decide) (by decide +kernel) hp3 dX12_here_1 ?_
  refine lv_aload_n G.1 G.2.1 dX12_here_4 rfl (lv_at hl 0 rfl) ?_
  refine py_get (C := RX12) (T := TX12) (N := 54) (k := 2) (v := .int 0) G hw in_X12_here_X12 rfl hh (by decide) (by decide +kernel) hp2 dX12_here_5 ?_
  refine lv_icmp_ge (tgt := 23) G.1 G.2.1 dX12_here_8 (by decide) (fun c_1 => ?_) (fun c_1 => ?_)
  · skip
    refine lv_iconst (v := (-1)) G.1 G.2.1 dX12_here_23 (by decide) ?_
    exact py_iret G hr rfl hlk hw ⟨rfl, rfl, rfl⟩ dX12_here_24
  · skip
    exact absurd c_1 (by decide)

def w_X12_look : List Cond := .code yX12_look cX12_look 1 (some .int) :: ([Cond.methodLink RX12 130 yX12_here, Cond.instanceMethod yX12_here, Cond.selects RX12 yX12_here yX12_here, Cond.initialized RX12] ++ (w_X12_here ++ ([])))
theorem gg_X12_look_X12_here : GoodIn w_X12_look w_X12_here := goodIn_sub (fun _ h => List.mem_cons_of_mem _ (List.mem_append_right _ (List.mem_append_left _ h))) (by decide +kernel)
theorem g_X12_look_X12_here_130 : GoodIn w_X12_look (wsV RX12 130 RX12 yX12_here w_X12_here) := goodIn_app (goodIn_of _ (by decide +kernel)) gg_X12_look_X12_here
set_option maxHeartbeats 4000000 in
set_option maxRecDepth 100000 in
theorem c_X12_look (l : Launch) (E : py_E) (L : List Nat) (f : py_F) (sz : Nat) (h : Nat) (xs : List Value) (hh : py_at L f h (.inr (12, xs))) (hxs : xs.length = 54) (hp2 : xs[2]? = some (.int 0)) (hp3 : xs[3]? = some (.int 0)) : Met l yX12_look w_X12_look ({ frames := 1, cells := 0, slots := 0, locals := 20 }) (py_Pc E [.ref h] L f sz) (py_Qi E L f sz (fun r L1 f1 => r = -1 ∧ L = L1 ∧ f = f1)) 0 0 (va_A (va_pl L f) sz) := by
  refine Met.ofW (cc := cX12_look) (maxL := 1) (ret := (some .int)) (by decide) rfl ?_
  intro p e s m args below meth c s₁ B hml hv
  obtain ⟨rfl, rfl, hw⟩ := py_start hv
  have G : CallFix p m c cX12_look 1 s _ w_X12_look RX12 := ⟨B.exec, B.bytes, hml, findClass_of_methodNamed B.named, atoms_spec (ws := w_X12_look) B.pre⟩
  have hr := B.returns
  have hlk := B.notSynchronized
  have hl := lv_entry ([.ref h]) (n := 1) (Nat.le_of_ble_eq_true rfl)
  rw [lg_entry_eq]
  generalize (lg_sl ([.ref h]) ++ List.replicate (1 - (lg_sl ([.ref h])).length) Slot.unset).toArray = ls at hl ⊢
  have hl : lv_has ls 1 [(0, .ref h)] := hl
  refine lv_aload_n G.1 G.2.1 dX12_look_0 rfl (lv_at hl 0 rfl) ?_
  refine py_calli hw (va_runV (As := []) (rest := []) G (c_X12_here l E L f s.heap.size h xs hh hxs hp2 hp3) (cwV 0 G.2.2.2.2 g_X12_look_X12_here_130 rfl rfl rfl (by decide +kernel) ⟨(Nat.le_of_ble_eq_true rfl), (Nat.le_of_ble_eq_true rfl)⟩) (py_preV hw (C := RX12) (T := TX12) (N := 54) rfl hh) rfl rfl hl.1 rfl (lv_room (Nat.le_of_ble_eq_true rfl)) dX12_look_1 ⟨(Nat.le_of_ble_eq_true rfl), (Nat.le_of_ble_eq_true rfl)⟩) (fun r_5 L_1 f_2 H_3 locs hp_4 hw => ?_)
  obtain ⟨rfl, rfl, rfl⟩ := hp_4
  refine lv_bipush (v := 32) G.1 G.2.1 dX12_look_4 (by decide) ?_
  refine lv_icmp_ne (tgt := 22) G.1 G.2.1 dX12_look_6 (by decide) (fun c_6 => ?_) (fun c_6 => ?_)
  · skip
    refine lv_aload_n G.1 G.2.1 dX12_look_22 rfl (lv_at hl 0 rfl) ?_
    refine py_calli hw (va_runV (As := []) (rest := []) G (c_X12_here l E L f H_3.size h xs hh hxs hp2 hp3) (cwV 0 G.2.2.2.2 g_X12_look_X12_here_130 rfl rfl rfl (by decide +kernel) ⟨(Nat.le_of_ble_eq_true rfl), (Nat.le_of_ble_eq_true rfl)⟩) (py_preV hw (C := RX12) (T := TX12) (N := 54) rfl hh) rfl rfl hl.1 rfl (lv_room (Nat.le_of_ble_eq_true rfl)) dX12_look_23 ⟨(Nat.le_of_ble_eq_true rfl), (Nat.le_of_ble_eq_true rfl)⟩) (fun r_11 L_7 f_8 H_9 locs hp_10 hw => ?_)
    obtain ⟨rfl, rfl, rfl⟩ := hp_10
    exact py_iret G hr rfl hlk hw ⟨rfl, rfl, rfl⟩ dX12_look_26
  · skip
    exact absurd c_6 (by decide)

def w_X12_bad : List Cond := .code yX12_bad cX12_bad 1 none :: ([Cond.fieldLink RX12 134 "HeadYearModel" "wrong" "I", Cond.fieldLink RX12 127 "HeadYearModel" "at" "I"] ++ (u_ws RX12 TX12 54 ++ ([])))
theorem in_X12_bad_X12 : ∀ w ∈ u_ws RX12 TX12 54, w ∈ w_X12_bad := fun _ h => List.mem_cons_of_mem _ (List.mem_append_right _ (List.mem_append_left _ h))
set_option maxHeartbeats 4000000 in
set_option maxRecDepth 100000 in
theorem c_X12_bad (l : Launch) (E : py_E) (L : List Nat) (f : py_F) (sz : Nat) (h : Nat) (xs : List Value) (hh : py_at L f h (.inr (12, xs))) (hxs : xs.length = 54) (hp3 : xs[3]? = some (.int 0)) (hp4 : xs[4]? = some (.int (-1))) : Met l yX12_bad w_X12_bad ({ frames := 0, cells := 0, slots := 0, locals := 0 }) (py_Pc E [.ref h] L f sz) (py_Qv E L f sz (fun L1 f1 => ∃ ys : List Value, py_at L1 f1 h (.inr (12, ys)) ∧ ys.length = 54 ∧ (ys[4]? = some (.int 0) ∧ ∀ k : Nat, k ≠ 4 → ys[k]? = xs[k]?) ∧ py_ext L f L1 f1 h)) 0 0 (va_A (va_pl L f) sz) := by
  refine Met.ofW (cc := cX12_bad) (maxL := 1) (ret := none) (by decide) rfl ?_
  intro p e s m args below meth c s₁ B hml hv
  obtain ⟨rfl, rfl, hw⟩ := py_start hv
  have G : CallFix p m c cX12_bad 1 s _ w_X12_bad RX12 := ⟨B.exec, B.bytes, hml, findClass_of_methodNamed B.named, atoms_spec (ws := w_X12_bad) B.pre⟩
  have hr := B.returns
  have hlk := B.notSynchronized
  have hl := lv_entry ([.ref h]) (n := 1) (Nat.le_of_ble_eq_true rfl)
  rw [lg_entry_eq]
  generalize (lg_sl ([.ref h]) ++ List.replicate (1 - (lg_sl ([.ref h])).length) Slot.unset).toArray = ls at hl ⊢
  have hl : lv_has ls 1 [(0, .ref h)] := hl
  refine lv_aload_n G.1 G.2.1 dX12_bad_0 rfl (lv_at hl 0 rfl) ?_
  refine lv_aload_n G.1 G.2.1 dX12_bad_1 rfl (lv_at hl 0 rfl) ?_
  refine py_get (C := RX12) (T := TX12) (N := 54) (k := 4) (v := .int (-1)) G hw in_X12_bad_X12 rfl hh (by decide) (by decide +kernel) hp4 dX12_bad_2 ?_
  refine lv_iconst (v := (-1)) G.1 G.2.1 dX12_bad_5 (by decide) ?_
  refine lv_icmp_ne (tgt := 16) G.1 G.2.1 dX12_bad_6 (by decide) (fun c_1 => ?_) (fun c_1 => ?_)
  · skip
    exact absurd c_1 (by decide)
  · skip
    refine lv_aload_n G.1 G.2.1 dX12_bad_9 rfl (lv_at hl 0 rfl) ?_
    refine py_get (C := RX12) (T := TX12) (N := 54) (k := 3) (v := .int 0) G hw in_X12_bad_X12 rfl hh (by decide) (by decide +kernel) hp3 dX12_bad_10 ?_
    refine lv_goto (tgt := 20) G.1 G.2.1 dX12_bad_13 (by decide) ?_
    refine py_put (C := RX12) (T := TX12) (N := 54) (k := 4) (v := .int 0) (fs' := xs.set 4 (.int 0)) (ty0 := tyX12) G hw tyX12_ok nmX12 in_X12_bad_X12 rfl hh (by decide) (by decide +kernel) rfl rfl rfl rfl (py_len hxs (by decide)) rfl dX12_bad_20 (fun f_2 H_3 locs h_4 x_5 hw => ?_)
    obtain ⟨xs_6, exs_6⟩ : ∃ y, y = xs.set 4 (.int 0) := ⟨_, rfl⟩
    rw [← exs_6] at h_4
    have hl_7 : xs_6.length = 54 := by rw [exs_6, List.length_set]; exact hxs
    have hp_8 : xs_6[3]? = some (.int 0) := by rw [exs_6, List.getElem?_set_ne (by decide)]; exact hp3
    have hp_9 : xs_6[4]? = some (.int 0) := by rw [exs_6, List.getElem?_set_self (by rw [hxs]; decide)]
    have xt_10 : py_ext L f L f_2 h := fun b hb hn => by
      obtain ⟨m1, e1⟩ := x_5 b hb hn
      exact ⟨m1, e1.trans (rfl)⟩
    exact py_vret G hr hlk hw ⟨_, h_4, hl_7, ⟨hp_9, fun k hk => by rw [exs_6, List.getElem?_set_ne (Ne.symm hk)]⟩, xt_10⟩ dX12_bad_23

def w_X12_clauseText : List Cond := .code yX12_clauseText cX12_clauseText 3 none :: ([Cond.methodLink RX12 146 yX12_look, Cond.instanceMethod yX12_look, Cond.selects RX12 yX12_look yX12_look, Cond.initialized RX12, Cond.methodLink RX12 143 yX12_bad, Cond.instanceMethod yX12_bad, Cond.selects RX12 yX12_bad yX12_bad] ++ (w_X12_look ++ (w_X12_bad ++ ([]))))
theorem gg_X12_clauseText_X12_look : GoodIn w_X12_clauseText w_X12_look := goodIn_sub (fun _ h => List.mem_cons_of_mem _ (List.mem_append_right _ (List.mem_append_left _ h))) (by decide +kernel)
theorem gg_X12_clauseText_X12_bad : GoodIn w_X12_clauseText w_X12_bad := goodIn_sub (fun _ h => List.mem_cons_of_mem _ (List.mem_append_right _ (List.mem_append_right _ (List.mem_append_left _ h)))) (by decide +kernel)
theorem g_X12_clauseText_X12_bad_143 : GoodIn w_X12_clauseText (wsV RX12 143 RX12 yX12_bad w_X12_bad) := goodIn_app (goodIn_of _ (by decide +kernel)) gg_X12_clauseText_X12_bad
theorem g_X12_clauseText_X12_look_146 : GoodIn w_X12_clauseText (wsV RX12 146 RX12 yX12_look w_X12_look) := goodIn_app (goodIn_of _ (by decide +kernel)) gg_X12_clauseText_X12_look
set_option maxHeartbeats 4000000 in
set_option maxRecDepth 100000 in
theorem c_X12_clauseText (l : Launch) (E : py_E) (L : List Nat) (f : py_F) (sz : Nat) (h : Nat) (xs : List Value) (hh : py_at L f h (.inr (12, xs))) (hxs : xs.length = 54) (hp2 : xs[2]? = some (.int 0)) (hp3 : xs[3]? = some (.int 0)) (hp4 : xs[4]? = some (.int (-1))) : Met l yX12_clauseText w_X12_clauseText ({ frames := 2, cells := 0, slots := 0, locals := 40 }) (py_Pc E [.ref h] L f sz) (py_Qv E L f sz (fun L1 f1 => ∃ ys : List Value, py_at L1 f1 h (.inr (12, ys)) ∧ ys.length = 54 ∧ (ys[4]? = some (.int 0) ∧ ∀ k : Nat, k ≠ 4 → ys[k]? = xs[k]?) ∧ py_ext L f L1 f1 h)) 0 0 (va_A (va_pl L f) sz) := by
  refine Met.ofW (cc := cX12_clauseText) (maxL := 3) (ret := none) (by decide) rfl ?_
  intro p e s m args below meth c s₁ B hml hv
  obtain ⟨rfl, rfl, hw⟩ := py_start hv
  have G : CallFix p m c cX12_clauseText 3 s _ w_X12_clauseText RX12 := ⟨B.exec, B.bytes, hml, findClass_of_methodNamed B.named, atoms_spec (ws := w_X12_clauseText) B.pre⟩
  have hr := B.returns
  have hlk := B.notSynchronized
  have hl := lv_entry ([.ref h]) (n := 3) (Nat.le_of_ble_eq_true rfl)
  rw [lg_entry_eq]
  generalize (lg_sl ([.ref h]) ++ List.replicate (3 - (lg_sl ([.ref h])).length) Slot.unset).toArray = ls at hl ⊢
  have hl : lv_has ls 3 [(0, .ref h)] := hl
  refine lv_aload_n G.1 G.2.1 dX12_clauseText_0 rfl (lv_at hl 0 rfl) ?_
  refine py_calli hw (va_runV (As := []) (rest := []) G (c_X12_look l E L f s.heap.size h xs hh hxs hp2 hp3) (cwV 0 G.2.2.2.2 g_X12_clauseText_X12_look_146 rfl rfl rfl (by decide +kernel) ⟨(Nat.le_of_ble_eq_true rfl), (Nat.le_of_ble_eq_true rfl)⟩) (py_preV hw (C := RX12) (T := TX12) (N := 54) rfl hh) rfl rfl hl.1 rfl (lv_room (Nat.le_of_ble_eq_true rfl)) dX12_clauseText_1 ⟨(Nat.le_of_ble_eq_true rfl), (Nat.le_of_ble_eq_true rfl)⟩) (fun r_5 L_1 f_2 H_3 locs hp_4 hw => ?_)
  obtain ⟨rfl, rfl, rfl⟩ := hp_4
  refine lv_istore_n (lv' := [(1, .int (-1)), (0, .ref h)]) G.1 G.2.1 dX12_clauseText_4 rfl hl (by decide) rfl (fun ls hl => ?_)
  refine lv_iload_n G.1 G.2.1 dX12_clauseText_5 rfl (lv_at hl 0 rfl) ?_
  refine lv_bipush (v := 108) G.1 G.2.1 dX12_clauseText_6 (by decide) ?_
  refine lv_icmp_ne (tgt := 15) G.1 G.2.1 dX12_clauseText_8 (by decide) (fun c_6 => ?_) (fun c_6 => ?_)
  · skip
    refine lv_iconst (v := 0) G.1 G.2.1 dX12_clauseText_15 (by decide) ?_
    refine lv_istore_n (lv' := [(2, .int 0), (1, .int (-1)), (0, .ref h)]) G.1 G.2.1 dX12_clauseText_16 rfl hl (by decide) rfl (fun ls hl => ?_)
    refine lv_iload_n G.1 G.2.1 dX12_clauseText_17 rfl (lv_at hl 0 rfl) ?_
    refine lv_if_ne (tgt := 27) G.1 G.2.1 dX12_clauseText_18 (by decide) (fun c_7 => ?_) (fun c_7 => ?_)
    · skip
      exact absurd c_7 (by decide)
    · skip
      refine lv_iload_n G.1 G.2.1 dX12_clauseText_21 rfl (lv_at hl 1 rfl) ?_
      refine lv_bipush (v := 107) G.1 G.2.1 dX12_clauseText_22 (by decide) ?_
      refine lv_icmp_ne (tgt := 52) G.1 G.2.1 dX12_clauseText_24 (by decide) (fun c_8 => ?_) (fun c_8 => ?_)
      · skip
        refine lv_aload_n G.1 G.2.1 dX12_clauseText_52 rfl (lv_at hl 2 rfl) ?_
        refine py_callv hw (va_runV (As := []) (rest := []) G (c_X12_bad l E L f H_3.size h xs hh hxs hp3 hp4) (cwV 0 G.2.2.2.2 g_X12_clauseText_X12_bad_143 rfl rfl rfl (by decide +kernel) ⟨(Nat.le_of_ble_eq_true rfl), (Nat.le_of_ble_eq_true rfl)⟩) (py_preV hw (C := RX12) (T := TX12) (N := 54) rfl hh) rfl rfl hl.1 rfl (lv_room (Nat.le_of_ble_eq_true rfl)) dX12_clauseText_53 ⟨(Nat.le_of_ble_eq_true rfl), (Nat.le_of_ble_eq_true rfl)⟩) (fun L_9 f_10 H_11 locs hp_12 hw => ?_)
        obtain ⟨xs_14, h_15, hl_16, hk_17, x_18⟩ := hp_12
        have hp_20 : xs_14[2]? = some (.int 0) := (hk_17.2 2 (by decide)).trans hp2
        have hp_21 : xs_14[3]? = some (.int 0) := (hk_17.2 3 (by decide)).trans hp3
        have xt_22 : py_ext L f L_9 f_10 h := fun b hb hn => by
          obtain ⟨m1, e1⟩ := x_18 b hb hn
          exact ⟨m1, e1.trans (rfl)⟩
        exact py_vret G hr hlk hw ⟨_, h_15, hl_16, hk_17, xt_22⟩ dX12_clauseText_56
      · skip
        exact absurd c_8 (by decide)
  · skip
    exact absurd c_6 (by decide)

def w_X12_readValley : List Cond := .code yX12_readValley cX12_readValley 2 (some .int) :: ([Cond.fieldLink RX12 127 "HeadYearModel" "at" "I", Cond.fieldLink RX12 134 "HeadYearModel" "wrong" "I", Cond.fieldLink RX12 264 "HeadYearModel" "readLevels" "I", Cond.fieldLink RX12 267 "HeadYearModel" "readFamilies" "I", Cond.methodLink RX12 274 yX12_clauseText, Cond.instanceMethod yX12_clauseText, Cond.selects RX12 yX12_clauseText yX12_clauseText, Cond.initialized RX12] ++ (u_ws RX12 TX12 54 ++ (w_X12_clauseText ++ ([]))))
theorem in_X12_readValley_X12 : ∀ w ∈ u_ws RX12 TX12 54, w ∈ w_X12_readValley := fun _ h => List.mem_cons_of_mem _ (List.mem_append_right _ (List.mem_append_left _ h))
theorem gg_X12_readValley_X12_clauseText : GoodIn w_X12_readValley w_X12_clauseText := goodIn_sub (fun _ h => List.mem_cons_of_mem _ (List.mem_append_right _ (List.mem_append_right _ (List.mem_append_left _ h)))) (by decide +kernel)
theorem g_X12_readValley_X12_clauseText_274 : GoodIn w_X12_readValley (wsV RX12 274 RX12 yX12_clauseText w_X12_clauseText) := goodIn_app (goodIn_of _ (by decide +kernel)) gg_X12_readValley_X12_clauseText
set_option maxHeartbeats 4000000 in
set_option maxRecDepth 100000 in
theorem c_X12_readValley (l : Launch) (E : py_E) (L : List Nat) (f : py_F) (sz : Nat) (h : Nat) (hM : fr_M E L f h) : Met l yX12_readValley w_X12_readValley ({ frames := 3, cells := 0, slots := 0, locals := 62 }) (py_Pc E [.ref h] L f sz) (py_Qi E L f sz (fun r _ _ => r = 0)) 0 0 (va_A (va_pl L f) sz) := by
  refine Met.ofW (cc := cX12_readValley) (maxL := 2) (ret := (some .int)) (by decide) rfl ?_
  intro p e s m args below meth c s₁ B hml hv
  obtain ⟨rfl, rfl, hw⟩ := py_start hv
  have G : CallFix p m c cX12_readValley 2 s _ w_X12_readValley RX12 := ⟨B.exec, B.bytes, hml, findClass_of_methodNamed B.named, atoms_spec (ws := w_X12_readValley) B.pre⟩
  have hr := B.returns
  have hlk := B.notSynchronized
  have hl := lv_entry ([.ref h]) (n := 2) (Nat.le_of_ble_eq_true rfl)
  rw [lg_entry_eq]
  generalize (lg_sl ([.ref h]) ++ List.replicate (2 - (lg_sl ([.ref h])).length) Slot.unset).toArray = ls at hl ⊢
  have hl : lv_has ls 2 [(0, .ref h)] := hl
  obtain ⟨tp, cd, cl, g1, g2, g3, xs, v32, v33, v34, hh, hxs, hp1, hp2, hp8, hp9, hp13, hp24, hp25, hp29, hp31, hp43, hp53, ⟨hp32, hp33, hp34⟩, htp, hcd, hcl⟩ := id hM
  refine lv_aload_n G.1 G.2.1 dX12_readValley_0 rfl (lv_at hl 0 rfl) ?_
  refine lv_iconst (v := 0) G.1 G.2.1 dX12_readValley_1 (by decide) ?_
  refine py_put (C := RX12) (T := TX12) (N := 54) (k := 3) (v := .int 0) (fs' := xs.set 3 (.int 0)) (ty0 := tyX12) G hw tyX12_ok nmX12 in_X12_readValley_X12 rfl hh (by decide) (by decide +kernel) rfl rfl rfl rfl (py_len hxs (by decide)) rfl dX12_readValley_2 (fun f_1 H_2 locs h_3 x_4 hw => ?_)
  obtain ⟨xs_5, exs_5⟩ : ∃ y, y = xs.set 3 (.int 0) := ⟨_, rfl⟩
  rw [← exs_5] at h_3
  have hl_6 : xs_5.length = 54 := by rw [exs_5, List.length_set]; exact hxs
  have hp_7 : xs_5[1]? = some (.ref tp) := by rw [exs_5, List.getElem?_set_ne (by decide)]; exact hp1
  have hp_8 : xs_5[2]? = some (.int 0) := by rw [exs_5, List.getElem?_set_ne (by decide)]; exact hp2
  have hp_9 : xs_5[8]? = some (.ref cd) := by rw [exs_5, List.getElem?_set_ne (by decide)]; exact hp8
  have hp_10 : xs_5[9]? = some (.ref cl) := by rw [exs_5, List.getElem?_set_ne (by decide)]; exact hp9
  have hp_11 : xs_5[13]? = some (.int 0) := by rw [exs_5, List.getElem?_set_ne (by decide)]; exact hp13
  have hp_12 : xs_5[24]? = some (.int 0) := by rw [exs_5, List.getElem?_set_ne (by decide)]; exact hp24
  have hp_13 : xs_5[25]? = some (.int 0) := by rw [exs_5, List.getElem?_set_ne (by decide)]; exact hp25
  have hp_14 : xs_5[29]? = some (.int 0) := by rw [exs_5, List.getElem?_set_ne (by decide)]; exact hp29
  have hp_15 : xs_5[31]? = some (.int (-1)) := by rw [exs_5, List.getElem?_set_ne (by decide)]; exact hp31
  have hp_16 : xs_5[43]? = some (.int 0) := by rw [exs_5, List.getElem?_set_ne (by decide)]; exact hp43
  have hp_17 : xs_5[53]? = some (.int 0) := by rw [exs_5, List.getElem?_set_ne (by decide)]; exact hp53
  have hp_18 : xs_5[32]? = some (.int v32) := by rw [exs_5, List.getElem?_set_ne (by decide)]; exact hp32
  have hp_19 : xs_5[33]? = some (.int v33) := by rw [exs_5, List.getElem?_set_ne (by decide)]; exact hp33
  have hp_20 : xs_5[34]? = some (.int v34) := by rw [exs_5, List.getElem?_set_ne (by decide)]; exact hp34
  have hp_21 : xs_5[3]? = some (.int 0) := by rw [exs_5, List.getElem?_set_self (by rw [hxs]; decide)]
  have htp := htp.ext x_4 (Ne.symm (py_ne_arr hh htp))
  have hcd := hcd.ext x_4 (Ne.symm (py_ne_arr hh hcd))
  have hcl := hcl.ext x_4 (Ne.symm (py_ne_arr hh hcl))
  refine lv_aload_n G.1 G.2.1 dX12_readValley_5 rfl (lv_at hl 0 rfl) ?_
  refine lv_iconst (v := (-1)) G.1 G.2.1 dX12_readValley_6 (by decide) ?_
  refine py_put (C := RX12) (T := TX12) (N := 54) (k := 4) (v := .int (-1)) (fs' := xs_5.set 4 (.int (-1))) (ty0 := tyX12) G hw tyX12_ok nmX12 in_X12_readValley_X12 rfl h_3 (by decide) (by decide +kernel) rfl rfl rfl rfl (py_len hl_6 (by decide)) rfl dX12_readValley_7 (fun f_22 H_23 locs h_24 x_25 hw => ?_)
  obtain ⟨xs_26, exs_26⟩ : ∃ y, y = xs_5.set 4 (.int (-1)) := ⟨_, rfl⟩
  rw [← exs_26] at h_24
  have hl_27 : xs_26.length = 54 := by rw [exs_26, List.length_set]; exact hl_6
  have hp_28 : xs_26[1]? = some (.ref tp) := by rw [exs_26, List.getElem?_set_ne (by decide)]; exact hp_7
  have hp_29 : xs_26[2]? = some (.int 0) := by rw [exs_26, List.getElem?_set_ne (by decide)]; exact hp_8
  have hp_30 : xs_26[8]? = some (.ref cd) := by rw [exs_26, List.getElem?_set_ne (by decide)]; exact hp_9
  have hp_31 : xs_26[9]? = some (.ref cl) := by rw [exs_26, List.getElem?_set_ne (by decide)]; exact hp_10
  have hp_32 : xs_26[13]? = some (.int 0) := by rw [exs_26, List.getElem?_set_ne (by decide)]; exact hp_11
  have hp_33 : xs_26[24]? = some (.int 0) := by rw [exs_26, List.getElem?_set_ne (by decide)]; exact hp_12
  have hp_34 : xs_26[25]? = some (.int 0) := by rw [exs_26, List.getElem?_set_ne (by decide)]; exact hp_13
  have hp_35 : xs_26[29]? = some (.int 0) := by rw [exs_26, List.getElem?_set_ne (by decide)]; exact hp_14
  have hp_36 : xs_26[31]? = some (.int (-1)) := by rw [exs_26, List.getElem?_set_ne (by decide)]; exact hp_15
  have hp_37 : xs_26[43]? = some (.int 0) := by rw [exs_26, List.getElem?_set_ne (by decide)]; exact hp_16
  have hp_38 : xs_26[53]? = some (.int 0) := by rw [exs_26, List.getElem?_set_ne (by decide)]; exact hp_17
  have hp_39 : xs_26[32]? = some (.int v32) := by rw [exs_26, List.getElem?_set_ne (by decide)]; exact hp_18
  have hp_40 : xs_26[33]? = some (.int v33) := by rw [exs_26, List.getElem?_set_ne (by decide)]; exact hp_19
  have hp_41 : xs_26[34]? = some (.int v34) := by rw [exs_26, List.getElem?_set_ne (by decide)]; exact hp_20
  have hp_42 : xs_26[3]? = some (.int 0) := by rw [exs_26, List.getElem?_set_ne (by decide)]; exact hp_21
  have hp_43 : xs_26[4]? = some (.int (-1)) := by rw [exs_26, List.getElem?_set_self (by rw [hl_6]; decide)]
  have htp := htp.ext x_25 (Ne.symm (py_ne_arr h_3 htp))
  have hcd := hcd.ext x_25 (Ne.symm (py_ne_arr h_3 hcd))
  have hcl := hcl.ext x_25 (Ne.symm (py_ne_arr h_3 hcl))
  refine lv_aload_n G.1 G.2.1 dX12_readValley_10 rfl (lv_at hl 0 rfl) ?_
  refine lv_iconst (v := 0) G.1 G.2.1 dX12_readValley_11 (by decide) ?_
  refine py_put (C := RX12) (T := TX12) (N := 54) (k := 19) (v := .int 0) (fs' := xs_26.set 19 (.int 0)) (ty0 := tyX12) G hw tyX12_ok nmX12 in_X12_readValley_X12 rfl h_24 (by decide) (by decide +kernel) rfl rfl rfl rfl (py_len hl_27 (by decide)) rfl dX12_readValley_12 (fun f_44 H_45 locs h_46 x_47 hw => ?_)
  obtain ⟨xs_48, exs_48⟩ : ∃ y, y = xs_26.set 19 (.int 0) := ⟨_, rfl⟩
  rw [← exs_48] at h_46
  have hl_49 : xs_48.length = 54 := by rw [exs_48, List.length_set]; exact hl_27
  have hp_50 : xs_48[1]? = some (.ref tp) := by rw [exs_48, List.getElem?_set_ne (by decide)]; exact hp_28
  have hp_51 : xs_48[2]? = some (.int 0) := by rw [exs_48, List.getElem?_set_ne (by decide)]; exact hp_29
  have hp_52 : xs_48[8]? = some (.ref cd) := by rw [exs_48, List.getElem?_set_ne (by decide)]; exact hp_30
  have hp_53 : xs_48[9]? = some (.ref cl) := by rw [exs_48, List.getElem?_set_ne (by decide)]; exact hp_31
  have hp_54 : xs_48[13]? = some (.int 0) := by rw [exs_48, List.getElem?_set_ne (by decide)]; exact hp_32
  have hp_55 : xs_48[24]? = some (.int 0) := by rw [exs_48, List.getElem?_set_ne (by decide)]; exact hp_33
  have hp_56 : xs_48[25]? = some (.int 0) := by rw [exs_48, List.getElem?_set_ne (by decide)]; exact hp_34
  have hp_57 : xs_48[29]? = some (.int 0) := by rw [exs_48, List.getElem?_set_ne (by decide)]; exact hp_35
  have hp_58 : xs_48[31]? = some (.int (-1)) := by rw [exs_48, List.getElem?_set_ne (by decide)]; exact hp_36
  have hp_59 : xs_48[43]? = some (.int 0) := by rw [exs_48, List.getElem?_set_ne (by decide)]; exact hp_37
  have hp_60 : xs_48[53]? = some (.int 0) := by rw [exs_48, List.getElem?_set_ne (by decide)]; exact hp_38
  have hp_61 : xs_48[32]? = some (.int v32) := by rw [exs_48, List.getElem?_set_ne (by decide)]; exact hp_39
  have hp_62 : xs_48[33]? = some (.int v33) := by rw [exs_48, List.getElem?_set_ne (by decide)]; exact hp_40
  have hp_63 : xs_48[34]? = some (.int v34) := by rw [exs_48, List.getElem?_set_ne (by decide)]; exact hp_41
  have hp_64 : xs_48[3]? = some (.int 0) := by rw [exs_48, List.getElem?_set_ne (by decide)]; exact hp_42
  have hp_65 : xs_48[4]? = some (.int (-1)) := by rw [exs_48, List.getElem?_set_ne (by decide)]; exact hp_43
  have hp_66 : xs_48[19]? = some (.int 0) := by rw [exs_48, List.getElem?_set_self (by rw [hl_27]; decide)]
  have htp := htp.ext x_47 (Ne.symm (py_ne_arr h_24 htp))
  have hcd := hcd.ext x_47 (Ne.symm (py_ne_arr h_24 hcd))
  have hcl := hcl.ext x_47 (Ne.symm (py_ne_arr h_24 hcl))
  refine lv_aload_n G.1 G.2.1 dX12_readValley_15 rfl (lv_at hl 0 rfl) ?_
  refine lv_iconst (v := 0) G.1 G.2.1 dX12_readValley_16 (by decide) ?_
  refine py_put (C := RX12) (T := TX12) (N := 54) (k := 20) (v := .int 0) (fs' := xs_48.set 20 (.int 0)) (ty0 := tyX12) G hw tyX12_ok nmX12 in_X12_readValley_X12 rfl h_46 (by decide) (by decide +kernel) rfl rfl rfl rfl (py_len hl_49 (by decide)) rfl dX12_readValley_17 (fun f_67 H_68 locs h_69 x_70 hw => ?_)
  obtain ⟨xs_71, exs_71⟩ : ∃ y, y = xs_48.set 20 (.int 0) := ⟨_, rfl⟩
  rw [← exs_71] at h_69
  have hl_72 : xs_71.length = 54 := by rw [exs_71, List.length_set]; exact hl_49
  have hp_73 : xs_71[1]? = some (.ref tp) := by rw [exs_71, List.getElem?_set_ne (by decide)]; exact hp_50
  have hp_74 : xs_71[2]? = some (.int 0) := by rw [exs_71, List.getElem?_set_ne (by decide)]; exact hp_51
  have hp_75 : xs_71[8]? = some (.ref cd) := by rw [exs_71, List.getElem?_set_ne (by decide)]; exact hp_52
  have hp_76 : xs_71[9]? = some (.ref cl) := by rw [exs_71, List.getElem?_set_ne (by decide)]; exact hp_53
  have hp_77 : xs_71[13]? = some (.int 0) := by rw [exs_71, List.getElem?_set_ne (by decide)]; exact hp_54
  have hp_78 : xs_71[24]? = some (.int 0) := by rw [exs_71, List.getElem?_set_ne (by decide)]; exact hp_55
  have hp_79 : xs_71[25]? = some (.int 0) := by rw [exs_71, List.getElem?_set_ne (by decide)]; exact hp_56
  have hp_80 : xs_71[29]? = some (.int 0) := by rw [exs_71, List.getElem?_set_ne (by decide)]; exact hp_57
  have hp_81 : xs_71[31]? = some (.int (-1)) := by rw [exs_71, List.getElem?_set_ne (by decide)]; exact hp_58
  have hp_82 : xs_71[43]? = some (.int 0) := by rw [exs_71, List.getElem?_set_ne (by decide)]; exact hp_59
  have hp_83 : xs_71[53]? = some (.int 0) := by rw [exs_71, List.getElem?_set_ne (by decide)]; exact hp_60
  have hp_84 : xs_71[32]? = some (.int v32) := by rw [exs_71, List.getElem?_set_ne (by decide)]; exact hp_61
  have hp_85 : xs_71[33]? = some (.int v33) := by rw [exs_71, List.getElem?_set_ne (by decide)]; exact hp_62
  have hp_86 : xs_71[34]? = some (.int v34) := by rw [exs_71, List.getElem?_set_ne (by decide)]; exact hp_63
  have hp_87 : xs_71[3]? = some (.int 0) := by rw [exs_71, List.getElem?_set_ne (by decide)]; exact hp_64
  have hp_88 : xs_71[4]? = some (.int (-1)) := by rw [exs_71, List.getElem?_set_ne (by decide)]; exact hp_65
  have hp_89 : xs_71[19]? = some (.int 0) := by rw [exs_71, List.getElem?_set_ne (by decide)]; exact hp_66
  have hp_90 : xs_71[20]? = some (.int 0) := by rw [exs_71, List.getElem?_set_self (by rw [hl_49]; decide)]
  have htp := htp.ext x_70 (Ne.symm (py_ne_arr h_46 htp))
  have hcd := hcd.ext x_70 (Ne.symm (py_ne_arr h_46 hcd))
  have hcl := hcl.ext x_70 (Ne.symm (py_ne_arr h_46 hcl))
  refine lv_iconst (v := 1) G.1 G.2.1 dX12_readValley_20 (by decide) ?_
  refine lv_istore_n (lv' := [(1, .int 1), (0, .ref h)]) G.1 G.2.1 dX12_readValley_21 rfl hl (by decide) rfl (fun ls hl => ?_)
  refine lv_iload_n G.1 G.2.1 dX12_readValley_22 rfl (lv_at hl 0 rfl) ?_
  refine lv_if_eq (tgt := 82) G.1 G.2.1 dX12_readValley_23 (by decide) (fun c_91 => ?_) (fun c_91 => ?_)
  · skip
    exact absurd c_91 (by decide)
  · skip
    refine lv_aload_n G.1 G.2.1 dX12_readValley_26 rfl (lv_at hl 1 rfl) ?_
    refine py_get (C := RX12) (T := TX12) (N := 54) (k := 4) (v := .int (-1)) G hw in_X12_readValley_X12 rfl h_69 (by decide) (by decide +kernel) hp_88 dX12_readValley_27 ?_
    refine lv_iconst (v := (-1)) G.1 G.2.1 dX12_readValley_30 (by decide) ?_
    refine lv_icmp_ne (tgt := 82) G.1 G.2.1 dX12_readValley_31 (by decide) (fun c_92 => ?_) (fun c_92 => ?_)
    · skip
      exact absurd c_92 (by decide)
    · skip
      refine lv_aload_n G.1 G.2.1 dX12_readValley_34 rfl (lv_at hl 1 rfl) ?_
      refine py_callv hw (va_runV (As := []) (rest := []) G (c_X12_clauseText l E L f_67 H_68.size h xs_71 h_69 hl_72 hp_74 hp_87 hp_88) (cwV 0 G.2.2.2.2 g_X12_readValley_X12_clauseText_274 rfl rfl rfl (by decide +kernel) ⟨(Nat.le_of_ble_eq_true rfl), (Nat.le_of_ble_eq_true rfl)⟩) (py_preV hw (C := RX12) (T := TX12) (N := 54) rfl h_69) rfl rfl hl.1 rfl (lv_room (Nat.le_of_ble_eq_true rfl)) dX12_readValley_35 ⟨(Nat.le_of_ble_eq_true rfl), (Nat.le_of_ble_eq_true rfl)⟩) (fun L_93 f_94 H_95 locs hp_96 hw => ?_)
      obtain ⟨xs_98, h_99, hl_100, hk_101, x_102⟩ := hp_96
      have hp_104 : xs_98[1]? = some (.ref tp) := (hk_101.2 1 (by decide)).trans hp_73
      have hp_105 : xs_98[2]? = some (.int 0) := (hk_101.2 2 (by decide)).trans hp_74
      have hp_106 : xs_98[8]? = some (.ref cd) := (hk_101.2 8 (by decide)).trans hp_75
      have hp_107 : xs_98[9]? = some (.ref cl) := (hk_101.2 9 (by decide)).trans hp_76
      have hp_108 : xs_98[13]? = some (.int 0) := (hk_101.2 13 (by decide)).trans hp_77
      have hp_109 : xs_98[24]? = some (.int 0) := (hk_101.2 24 (by decide)).trans hp_78
      have hp_110 : xs_98[25]? = some (.int 0) := (hk_101.2 25 (by decide)).trans hp_79
      have hp_111 : xs_98[29]? = some (.int 0) := (hk_101.2 29 (by decide)).trans hp_80
      have hp_112 : xs_98[31]? = some (.int (-1)) := (hk_101.2 31 (by decide)).trans hp_81
      have hp_113 : xs_98[43]? = some (.int 0) := (hk_101.2 43 (by decide)).trans hp_82
      have hp_114 : xs_98[53]? = some (.int 0) := (hk_101.2 53 (by decide)).trans hp_83
      have hp_115 : xs_98[32]? = some (.int v32) := (hk_101.2 32 (by decide)).trans hp_84
      have hp_116 : xs_98[33]? = some (.int v33) := (hk_101.2 33 (by decide)).trans hp_85
      have hp_117 : xs_98[34]? = some (.int v34) := (hk_101.2 34 (by decide)).trans hp_86
      have hp_118 : xs_98[3]? = some (.int 0) := (hk_101.2 3 (by decide)).trans hp_87
      have hp_119 : xs_98[19]? = some (.int 0) := (hk_101.2 19 (by decide)).trans hp_89
      have hp_120 : xs_98[20]? = some (.int 0) := (hk_101.2 20 (by decide)).trans hp_90
      have htp := htp.ext x_102 (Ne.symm (py_ne_arr h_69 htp))
      have hcd := hcd.ext x_102 (Ne.symm (py_ne_arr h_69 hcd))
      have hcl := hcl.ext x_102 (Ne.symm (py_ne_arr h_69 hcl))
      refine lv_aload_n G.1 G.2.1 dX12_readValley_38 rfl (lv_at hl 1 rfl) ?_
      refine py_get (C := RX12) (T := TX12) (N := 54) (k := 4) (v := .int 0) G hw in_X12_readValley_X12 rfl h_99 (by decide) (by decide +kernel) hk_101.1 dX12_readValley_39 ?_
      refine lv_iconst (v := (-1)) G.1 G.2.1 dX12_readValley_42 (by decide) ?_
      refine lv_icmp_ne (tgt := 59) G.1 G.2.1 dX12_readValley_43 (by decide) (fun c_121 => ?_) (fun c_121 => ?_)
      · skip
        refine lv_iconst (v := 0) G.1 G.2.1 dX12_readValley_59 (by decide) ?_
        refine lv_istore_n (lv' := [(1, .int 0), (0, .ref h)]) G.1 G.2.1 dX12_readValley_60 rfl hl (by decide) rfl (fun ls hl => ?_)
        refine lv_aload_n G.1 G.2.1 dX12_readValley_61 rfl (lv_at hl 1 rfl) ?_
        refine lv_dup G.1 G.2.1 dX12_readValley_62 rfl ?_
        refine py_get (C := RX12) (T := TX12) (N := 54) (k := 3) (v := .int 0) G hw in_X12_readValley_X12 rfl h_99 (by decide) (by decide +kernel) hp_118 dX12_readValley_63 ?_
        refine lv_iload_n G.1 G.2.1 dX12_readValley_66 rfl (lv_at hl 0 rfl) ?_
        refine lv_if_eq (tgt := 74) G.1 G.2.1 dX12_readValley_67 (by decide) (fun c_122 => ?_) (fun c_122 => ?_)
        · skip
          refine lv_iconst (v := 0) G.1 G.2.1 dX12_readValley_74 (by decide) ?_
          refine lv_iadd G.1 G.2.1 dX12_readValley_75 ?_
          rw [show 0 + 0 = (0 : Int32) by decide]
          refine py_put (C := RX12) (T := TX12) (N := 54) (k := 3) (v := .int 0) (fs' := xs_98.set 3 (.int 0)) (ty0 := tyX12) G hw tyX12_ok nmX12 in_X12_readValley_X12 rfl h_99 (by decide) (by decide +kernel) rfl rfl rfl rfl (py_len hl_100 (by decide)) rfl dX12_readValley_76 (fun f_123 H_124 locs h_125 x_126 hw => ?_)
          obtain ⟨xs_127, exs_127⟩ : ∃ y, y = xs_98.set 3 (.int 0) := ⟨_, rfl⟩
          rw [← exs_127] at h_125
          have hl_128 : xs_127.length = 54 := by rw [exs_127, List.length_set]; exact hl_100
          have hp_129 : xs_127[1]? = some (.ref tp) := by rw [exs_127, List.getElem?_set_ne (by decide)]; exact hp_104
          have hp_130 : xs_127[2]? = some (.int 0) := by rw [exs_127, List.getElem?_set_ne (by decide)]; exact hp_105
          have hp_131 : xs_127[8]? = some (.ref cd) := by rw [exs_127, List.getElem?_set_ne (by decide)]; exact hp_106
          have hp_132 : xs_127[9]? = some (.ref cl) := by rw [exs_127, List.getElem?_set_ne (by decide)]; exact hp_107
          have hp_133 : xs_127[13]? = some (.int 0) := by rw [exs_127, List.getElem?_set_ne (by decide)]; exact hp_108
          have hp_134 : xs_127[24]? = some (.int 0) := by rw [exs_127, List.getElem?_set_ne (by decide)]; exact hp_109
          have hp_135 : xs_127[25]? = some (.int 0) := by rw [exs_127, List.getElem?_set_ne (by decide)]; exact hp_110
          have hp_136 : xs_127[29]? = some (.int 0) := by rw [exs_127, List.getElem?_set_ne (by decide)]; exact hp_111
          have hp_137 : xs_127[31]? = some (.int (-1)) := by rw [exs_127, List.getElem?_set_ne (by decide)]; exact hp_112
          have hp_138 : xs_127[43]? = some (.int 0) := by rw [exs_127, List.getElem?_set_ne (by decide)]; exact hp_113
          have hp_139 : xs_127[53]? = some (.int 0) := by rw [exs_127, List.getElem?_set_ne (by decide)]; exact hp_114
          have hp_140 : xs_127[32]? = some (.int v32) := by rw [exs_127, List.getElem?_set_ne (by decide)]; exact hp_115
          have hp_141 : xs_127[33]? = some (.int v33) := by rw [exs_127, List.getElem?_set_ne (by decide)]; exact hp_116
          have hp_142 : xs_127[34]? = some (.int v34) := by rw [exs_127, List.getElem?_set_ne (by decide)]; exact hp_117
          have hp_143 : xs_127[19]? = some (.int 0) := by rw [exs_127, List.getElem?_set_ne (by decide)]; exact hp_119
          have hp_144 : xs_127[20]? = some (.int 0) := by rw [exs_127, List.getElem?_set_ne (by decide)]; exact hp_120
          have hp_145 : xs_127[4]? = some (.int 0) := by rw [exs_127, List.getElem?_set_ne (by decide)]; exact hk_101.1
          have hp_146 : xs_127[3]? = some (.int 0) := by rw [exs_127, List.getElem?_set_self (by rw [hl_100]; decide)]
          have htp := htp.ext x_126 (Ne.symm (py_ne_arr h_99 htp))
          have hcd := hcd.ext x_126 (Ne.symm (py_ne_arr h_99 hcd))
          have hcl := hcl.ext x_126 (Ne.symm (py_ne_arr h_99 hcl))
          refine lv_goto (tgt := 22) G.1 G.2.1 dX12_readValley_79 (by decide) ?_
          refine lv_iload_n G.1 G.2.1 dX12_readValley_22 rfl (lv_at hl 0 rfl) ?_
          refine lv_if_eq (tgt := 82) G.1 G.2.1 dX12_readValley_23 (by decide) (fun c_147 => ?_) (fun c_147 => ?_)
          · skip
            refine lv_aload_n G.1 G.2.1 dX12_readValley_82 rfl (lv_at hl 1 rfl) ?_
            refine py_get (C := RX12) (T := TX12) (N := 54) (k := 4) (v := .int 0) G hw in_X12_readValley_X12 rfl h_125 (by decide) (by decide +kernel) hp_145 dX12_readValley_83 ?_
            refine lv_iconst (v := (-1)) G.1 G.2.1 dX12_readValley_86 (by decide) ?_
            refine lv_icmp_ne (tgt := 124) G.1 G.2.1 dX12_readValley_87 (by decide) (fun c_148 => ?_) (fun c_148 => ?_)
            · skip
              refine lv_aload_n G.1 G.2.1 dX12_readValley_124 rfl (lv_at hl 1 rfl) ?_
              refine py_get (C := RX12) (T := TX12) (N := 54) (k := 4) (v := .int 0) G hw in_X12_readValley_X12 rfl h_125 (by decide) (by decide +kernel) hp_145 dX12_readValley_125 ?_
              exact py_iret G hr rfl hlk hw rfl dX12_readValley_128
            · skip
              exact absurd c_148 (by decide)
          · skip
            exact absurd c_147 (by decide)
        · skip
          exact absurd c_122 (by decide)
      · skip
        exact absurd c_121 (by decide)

def w_X12_open : List Cond := .code yX12_open cX12_open 2 none :: ([Cond.fieldLink RX12 137 "HeadYearModel" "text" "I", Cond.fieldLink RX12 127 "HeadYearModel" "at" "I", Cond.fieldLink RX12 134 "HeadYearModel" "wrong" "I", Cond.fieldLink RX12 140 "HeadYearModel" "deep" "I", Cond.fieldLink RX12 19 "HeadYearModel" "codes" "[I", Cond.fieldLink RX12 22 "HeadYearModel" "clauses" "[I"] ++ (u_ws RX12 TX12 54 ++ ([])))
theorem in_X12_open_X12 : ∀ w ∈ u_ws RX12 TX12 54, w ∈ w_X12_open := fun _ h => List.mem_cons_of_mem _ (List.mem_append_right _ (List.mem_append_left _ h))
set_option maxHeartbeats 4000000 in
set_option maxRecDepth 100000 in
theorem c_X12_open (l : Launch) (E : py_E) (L : List Nat) (f : py_F) (sz : Nat) (h : Nat) (n : Int32) (hM : fr_M E L f h) (hn : vp_in n 5) : Met l yX12_open w_X12_open ({ frames := 0, cells := 0, slots := 0, locals := 0 }) (py_Pc E [.ref h, .int n] L f sz) (py_Qv E L f sz (fun L1 f1 => ∃ (ys : List Value) (cl : Nat) (g : Nat → Int32), py_at L1 f1 h (.inr (12, ys)) ∧ ys.length = 54 ∧ ys[2]? = some (.int 0) ∧ ys[3]? = some (.int 0) ∧ ys[4]? = some (.int (-1)) ∧ ys[9]? = some (.ref cl) ∧ ys[14]? = some (.int n) ∧ py_at L1 f1 cl (.inl (E.2.1, 5, .inl g)))) 0 0 (va_A (va_pl L f) sz) := by
  refine Met.ofW (cc := cX12_open) (maxL := 2) (ret := none) (by decide) rfl ?_
  intro p e s m args below meth c s₁ B hml hv
  obtain ⟨rfl, rfl, hw⟩ := py_start hv
  have G : CallFix p m c cX12_open 2 s _ w_X12_open RX12 := ⟨B.exec, B.bytes, hml, findClass_of_methodNamed B.named, atoms_spec (ws := w_X12_open) B.pre⟩
  have hr := B.returns
  have hlk := B.notSynchronized
  have hl := lv_entry ([.ref h, .int n]) (n := 2) (Nat.le_of_ble_eq_true rfl)
  rw [lg_entry_eq]
  generalize (lg_sl ([.ref h, .int n]) ++ List.replicate (2 - (lg_sl ([.ref h, .int n])).length) Slot.unset).toArray = ls at hl ⊢
  have hl : lv_has ls 2 [(0, .ref h), (1, .int n)] := hl
  obtain ⟨tp, cd, cl, g1, g2, g3, xs, v32, v33, v34, hh, hxs, hp1, hp2, hp8, hp9, hp13, hp24, hp25, hp29, hp31, hp43, hp53, ⟨hp32, hp33, hp34⟩, htp, hcd, hcl⟩ := id hM
  refine lv_aload_n G.1 G.2.1 dX12_open_0 rfl (lv_at hl 0 rfl) ?_
  refine lv_iload_n G.1 G.2.1 dX12_open_1 rfl (lv_at hl 1 rfl) ?_
  refine py_put (C := RX12) (T := TX12) (N := 54) (k := 14) (v := .int n) (fs' := xs.set 14 (.int n)) (ty0 := tyX12) G hw tyX12_ok nmX12 in_X12_open_X12 rfl hh (by decide) (by decide +kernel) rfl rfl rfl rfl (py_len hxs (by decide)) rfl dX12_open_2 (fun f_1 H_2 locs h_3 x_4 hw => ?_)
  obtain ⟨xs_5, exs_5⟩ : ∃ y, y = xs.set 14 (.int n) := ⟨_, rfl⟩
  rw [← exs_5] at h_3
  have hl_6 : xs_5.length = 54 := by rw [exs_5, List.length_set]; exact hxs
  have hp_7 : xs_5[1]? = some (.ref tp) := by rw [exs_5, List.getElem?_set_ne (by decide)]; exact hp1
  have hp_8 : xs_5[2]? = some (.int 0) := by rw [exs_5, List.getElem?_set_ne (by decide)]; exact hp2
  have hp_9 : xs_5[8]? = some (.ref cd) := by rw [exs_5, List.getElem?_set_ne (by decide)]; exact hp8
  have hp_10 : xs_5[9]? = some (.ref cl) := by rw [exs_5, List.getElem?_set_ne (by decide)]; exact hp9
  have hp_11 : xs_5[13]? = some (.int 0) := by rw [exs_5, List.getElem?_set_ne (by decide)]; exact hp13
  have hp_12 : xs_5[24]? = some (.int 0) := by rw [exs_5, List.getElem?_set_ne (by decide)]; exact hp24
  have hp_13 : xs_5[25]? = some (.int 0) := by rw [exs_5, List.getElem?_set_ne (by decide)]; exact hp25
  have hp_14 : xs_5[29]? = some (.int 0) := by rw [exs_5, List.getElem?_set_ne (by decide)]; exact hp29
  have hp_15 : xs_5[31]? = some (.int (-1)) := by rw [exs_5, List.getElem?_set_ne (by decide)]; exact hp31
  have hp_16 : xs_5[43]? = some (.int 0) := by rw [exs_5, List.getElem?_set_ne (by decide)]; exact hp43
  have hp_17 : xs_5[53]? = some (.int 0) := by rw [exs_5, List.getElem?_set_ne (by decide)]; exact hp53
  have hp_18 : xs_5[32]? = some (.int v32) := by rw [exs_5, List.getElem?_set_ne (by decide)]; exact hp32
  have hp_19 : xs_5[33]? = some (.int v33) := by rw [exs_5, List.getElem?_set_ne (by decide)]; exact hp33
  have hp_20 : xs_5[34]? = some (.int v34) := by rw [exs_5, List.getElem?_set_ne (by decide)]; exact hp34
  have hp_21 : xs_5[14]? = some (.int n) := by rw [exs_5, List.getElem?_set_self (by rw [hxs]; decide)]
  have htp := htp.ext x_4 (Ne.symm (py_ne_arr hh htp))
  have hcd := hcd.ext x_4 (Ne.symm (py_ne_arr hh hcd))
  have hcl := hcl.ext x_4 (Ne.symm (py_ne_arr hh hcl))
  refine lv_aload_n G.1 G.2.1 dX12_open_5 rfl (lv_at hl 0 rfl) ?_
  refine lv_iconst (v := 0) G.1 G.2.1 dX12_open_6 (by decide) ?_
  refine py_put (C := RX12) (T := TX12) (N := 54) (k := 3) (v := .int 0) (fs' := xs_5.set 3 (.int 0)) (ty0 := tyX12) G hw tyX12_ok nmX12 in_X12_open_X12 rfl h_3 (by decide) (by decide +kernel) rfl rfl rfl rfl (py_len hl_6 (by decide)) rfl dX12_open_7 (fun f_22 H_23 locs h_24 x_25 hw => ?_)
  obtain ⟨xs_26, exs_26⟩ : ∃ y, y = xs_5.set 3 (.int 0) := ⟨_, rfl⟩
  rw [← exs_26] at h_24
  have hl_27 : xs_26.length = 54 := by rw [exs_26, List.length_set]; exact hl_6
  have hp_28 : xs_26[1]? = some (.ref tp) := by rw [exs_26, List.getElem?_set_ne (by decide)]; exact hp_7
  have hp_29 : xs_26[2]? = some (.int 0) := by rw [exs_26, List.getElem?_set_ne (by decide)]; exact hp_8
  have hp_30 : xs_26[8]? = some (.ref cd) := by rw [exs_26, List.getElem?_set_ne (by decide)]; exact hp_9
  have hp_31 : xs_26[9]? = some (.ref cl) := by rw [exs_26, List.getElem?_set_ne (by decide)]; exact hp_10
  have hp_32 : xs_26[13]? = some (.int 0) := by rw [exs_26, List.getElem?_set_ne (by decide)]; exact hp_11
  have hp_33 : xs_26[24]? = some (.int 0) := by rw [exs_26, List.getElem?_set_ne (by decide)]; exact hp_12
  have hp_34 : xs_26[25]? = some (.int 0) := by rw [exs_26, List.getElem?_set_ne (by decide)]; exact hp_13
  have hp_35 : xs_26[29]? = some (.int 0) := by rw [exs_26, List.getElem?_set_ne (by decide)]; exact hp_14
  have hp_36 : xs_26[31]? = some (.int (-1)) := by rw [exs_26, List.getElem?_set_ne (by decide)]; exact hp_15
  have hp_37 : xs_26[43]? = some (.int 0) := by rw [exs_26, List.getElem?_set_ne (by decide)]; exact hp_16
  have hp_38 : xs_26[53]? = some (.int 0) := by rw [exs_26, List.getElem?_set_ne (by decide)]; exact hp_17
  have hp_39 : xs_26[32]? = some (.int v32) := by rw [exs_26, List.getElem?_set_ne (by decide)]; exact hp_18
  have hp_40 : xs_26[33]? = some (.int v33) := by rw [exs_26, List.getElem?_set_ne (by decide)]; exact hp_19
  have hp_41 : xs_26[34]? = some (.int v34) := by rw [exs_26, List.getElem?_set_ne (by decide)]; exact hp_20
  have hp_42 : xs_26[14]? = some (.int n) := by rw [exs_26, List.getElem?_set_ne (by decide)]; exact hp_21
  have hp_43 : xs_26[3]? = some (.int 0) := by rw [exs_26, List.getElem?_set_self (by rw [hl_6]; decide)]
  have htp := htp.ext x_25 (Ne.symm (py_ne_arr h_3 htp))
  have hcd := hcd.ext x_25 (Ne.symm (py_ne_arr h_3 hcd))
  have hcl := hcl.ext x_25 (Ne.symm (py_ne_arr h_3 hcl))
  refine lv_aload_n G.1 G.2.1 dX12_open_10 rfl (lv_at hl 0 rfl) ?_
  refine lv_iconst (v := (-1)) G.1 G.2.1 dX12_open_11 (by decide) ?_
  refine py_put (C := RX12) (T := TX12) (N := 54) (k := 4) (v := .int (-1)) (fs' := xs_26.set 4 (.int (-1))) (ty0 := tyX12) G hw tyX12_ok nmX12 in_X12_open_X12 rfl h_24 (by decide) (by decide +kernel) rfl rfl rfl rfl (py_len hl_27 (by decide)) rfl dX12_open_12 (fun f_44 H_45 locs h_46 x_47 hw => ?_)
  obtain ⟨xs_48, exs_48⟩ : ∃ y, y = xs_26.set 4 (.int (-1)) := ⟨_, rfl⟩
  rw [← exs_48] at h_46
  have hl_49 : xs_48.length = 54 := by rw [exs_48, List.length_set]; exact hl_27
  have hp_50 : xs_48[1]? = some (.ref tp) := by rw [exs_48, List.getElem?_set_ne (by decide)]; exact hp_28
  have hp_51 : xs_48[2]? = some (.int 0) := by rw [exs_48, List.getElem?_set_ne (by decide)]; exact hp_29
  have hp_52 : xs_48[8]? = some (.ref cd) := by rw [exs_48, List.getElem?_set_ne (by decide)]; exact hp_30
  have hp_53 : xs_48[9]? = some (.ref cl) := by rw [exs_48, List.getElem?_set_ne (by decide)]; exact hp_31
  have hp_54 : xs_48[13]? = some (.int 0) := by rw [exs_48, List.getElem?_set_ne (by decide)]; exact hp_32
  have hp_55 : xs_48[24]? = some (.int 0) := by rw [exs_48, List.getElem?_set_ne (by decide)]; exact hp_33
  have hp_56 : xs_48[25]? = some (.int 0) := by rw [exs_48, List.getElem?_set_ne (by decide)]; exact hp_34
  have hp_57 : xs_48[29]? = some (.int 0) := by rw [exs_48, List.getElem?_set_ne (by decide)]; exact hp_35
  have hp_58 : xs_48[31]? = some (.int (-1)) := by rw [exs_48, List.getElem?_set_ne (by decide)]; exact hp_36
  have hp_59 : xs_48[43]? = some (.int 0) := by rw [exs_48, List.getElem?_set_ne (by decide)]; exact hp_37
  have hp_60 : xs_48[53]? = some (.int 0) := by rw [exs_48, List.getElem?_set_ne (by decide)]; exact hp_38
  have hp_61 : xs_48[32]? = some (.int v32) := by rw [exs_48, List.getElem?_set_ne (by decide)]; exact hp_39
  have hp_62 : xs_48[33]? = some (.int v33) := by rw [exs_48, List.getElem?_set_ne (by decide)]; exact hp_40
  have hp_63 : xs_48[34]? = some (.int v34) := by rw [exs_48, List.getElem?_set_ne (by decide)]; exact hp_41
  have hp_64 : xs_48[14]? = some (.int n) := by rw [exs_48, List.getElem?_set_ne (by decide)]; exact hp_42
  have hp_65 : xs_48[3]? = some (.int 0) := by rw [exs_48, List.getElem?_set_ne (by decide)]; exact hp_43
  have hp_66 : xs_48[4]? = some (.int (-1)) := by rw [exs_48, List.getElem?_set_self (by rw [hl_27]; decide)]
  have htp := htp.ext x_47 (Ne.symm (py_ne_arr h_24 htp))
  have hcd := hcd.ext x_47 (Ne.symm (py_ne_arr h_24 hcd))
  have hcl := hcl.ext x_47 (Ne.symm (py_ne_arr h_24 hcl))
  refine lv_aload_n G.1 G.2.1 dX12_open_15 rfl (lv_at hl 0 rfl) ?_
  refine lv_iconst (v := 0) G.1 G.2.1 dX12_open_16 (by decide) ?_
  refine py_put (C := RX12) (T := TX12) (N := 54) (k := 5) (v := .int 0) (fs' := xs_48.set 5 (.int 0)) (ty0 := tyX12) G hw tyX12_ok nmX12 in_X12_open_X12 rfl h_46 (by decide) (by decide +kernel) rfl rfl rfl rfl (py_len hl_49 (by decide)) rfl dX12_open_17 (fun f_67 H_68 locs h_69 x_70 hw => ?_)
  obtain ⟨xs_71, exs_71⟩ : ∃ y, y = xs_48.set 5 (.int 0) := ⟨_, rfl⟩
  rw [← exs_71] at h_69
  have hl_72 : xs_71.length = 54 := by rw [exs_71, List.length_set]; exact hl_49
  have hp_73 : xs_71[1]? = some (.ref tp) := by rw [exs_71, List.getElem?_set_ne (by decide)]; exact hp_50
  have hp_74 : xs_71[2]? = some (.int 0) := by rw [exs_71, List.getElem?_set_ne (by decide)]; exact hp_51
  have hp_75 : xs_71[8]? = some (.ref cd) := by rw [exs_71, List.getElem?_set_ne (by decide)]; exact hp_52
  have hp_76 : xs_71[9]? = some (.ref cl) := by rw [exs_71, List.getElem?_set_ne (by decide)]; exact hp_53
  have hp_77 : xs_71[13]? = some (.int 0) := by rw [exs_71, List.getElem?_set_ne (by decide)]; exact hp_54
  have hp_78 : xs_71[24]? = some (.int 0) := by rw [exs_71, List.getElem?_set_ne (by decide)]; exact hp_55
  have hp_79 : xs_71[25]? = some (.int 0) := by rw [exs_71, List.getElem?_set_ne (by decide)]; exact hp_56
  have hp_80 : xs_71[29]? = some (.int 0) := by rw [exs_71, List.getElem?_set_ne (by decide)]; exact hp_57
  have hp_81 : xs_71[31]? = some (.int (-1)) := by rw [exs_71, List.getElem?_set_ne (by decide)]; exact hp_58
  have hp_82 : xs_71[43]? = some (.int 0) := by rw [exs_71, List.getElem?_set_ne (by decide)]; exact hp_59
  have hp_83 : xs_71[53]? = some (.int 0) := by rw [exs_71, List.getElem?_set_ne (by decide)]; exact hp_60
  have hp_84 : xs_71[32]? = some (.int v32) := by rw [exs_71, List.getElem?_set_ne (by decide)]; exact hp_61
  have hp_85 : xs_71[33]? = some (.int v33) := by rw [exs_71, List.getElem?_set_ne (by decide)]; exact hp_62
  have hp_86 : xs_71[34]? = some (.int v34) := by rw [exs_71, List.getElem?_set_ne (by decide)]; exact hp_63
  have hp_87 : xs_71[14]? = some (.int n) := by rw [exs_71, List.getElem?_set_ne (by decide)]; exact hp_64
  have hp_88 : xs_71[3]? = some (.int 0) := by rw [exs_71, List.getElem?_set_ne (by decide)]; exact hp_65
  have hp_89 : xs_71[4]? = some (.int (-1)) := by rw [exs_71, List.getElem?_set_ne (by decide)]; exact hp_66
  have hp_90 : xs_71[5]? = some (.int 0) := by rw [exs_71, List.getElem?_set_self (by rw [hl_49]; decide)]
  have htp := htp.ext x_70 (Ne.symm (py_ne_arr h_46 htp))
  have hcd := hcd.ext x_70 (Ne.symm (py_ne_arr h_46 hcd))
  have hcl := hcl.ext x_70 (Ne.symm (py_ne_arr h_46 hcl))
  refine lv_aload_n G.1 G.2.1 dX12_open_20 rfl (lv_at hl 0 rfl) ?_
  refine py_get (C := RX12) (T := TX12) (N := 54) (k := 8) (v := .ref cd) G hw in_X12_open_X12 rfl h_69 (by decide) (by decide +kernel) hp_75 dX12_open_21 ?_
  refine lv_iload_n G.1 G.2.1 dX12_open_24 rfl (lv_at hl 1 rfl) ?_
  refine lv_iconst (v := 0) G.1 G.2.1 dX12_open_25 (by decide) ?_
  refine py_iast G hw hcd hn dX12_open_26 (fun f_91 H_92 locs h_93 x_94 hw => ?_)
  generalize upd g2 _ _ = g_95 at h_93
  have h_69 := h_69.ext x_94 (py_ne_arr h_69 hcd)
  obtain ⟨g_96, htp⟩ := py_arr htp hcd h_93 x_94
  obtain ⟨g_97, hcl⟩ := py_arr hcl hcd h_93 x_94
  refine lv_aload_n G.1 G.2.1 dX12_open_27 rfl (lv_at hl 0 rfl) ?_
  refine py_get (C := RX12) (T := TX12) (N := 54) (k := 9) (v := .ref cl) G hw in_X12_open_X12 rfl h_69 (by decide) (by decide +kernel) hp_76 dX12_open_28 ?_
  refine lv_iload_n G.1 G.2.1 dX12_open_31 rfl (lv_at hl 1 rfl) ?_
  refine lv_iconst (v := 0) G.1 G.2.1 dX12_open_32 (by decide) ?_
  refine py_iast G hw hcl hn dX12_open_33 (fun f_98 H_99 locs h_100 x_101 hw => ?_)
  generalize upd g_97 _ _ = g_102 at h_100
  have h_69 := h_69.ext x_101 (py_ne_arr h_69 hcl)
  obtain ⟨g_103, htp⟩ := py_arr htp hcl h_100 x_101
  obtain ⟨g_104, h_93⟩ := py_arr h_93 hcl h_100 x_101
  exact py_vret G hr hlk hw ⟨_, _, _, h_69, hl_72, hp_74, hp_88, hp_89, hp_76, hp_87, h_100⟩ dX12_open_34

def w_X12_clause : List Cond := .code yX12_clause cX12_clause 3 none :: ([Cond.fieldLink RX12 137 "HeadYearModel" "text" "I", Cond.fieldLink RX12 22 "HeadYearModel" "clauses" "[I", Cond.fieldLink RX12 134 "HeadYearModel" "wrong" "I", Cond.methodLink RX12 146 yX12_look, Cond.instanceMethod yX12_look, Cond.selects RX12 yX12_look yX12_look, Cond.initialized RX12, Cond.methodLink RX12 143 yX12_bad, Cond.instanceMethod yX12_bad, Cond.selects RX12 yX12_bad yX12_bad, Cond.fieldLink RX12 127 "HeadYearModel" "at" "I"] ++ (u_ws RX12 TX12 54 ++ (w_X12_look ++ (w_X12_bad ++ ([])))))
theorem in_X12_clause_X12 : ∀ w ∈ u_ws RX12 TX12 54, w ∈ w_X12_clause := fun _ h => List.mem_cons_of_mem _ (List.mem_append_right _ (List.mem_append_left _ h))
theorem gg_X12_clause_X12_look : GoodIn w_X12_clause w_X12_look := goodIn_sub (fun _ h => List.mem_cons_of_mem _ (List.mem_append_right _ (List.mem_append_right _ (List.mem_append_left _ h)))) (by decide +kernel)
theorem gg_X12_clause_X12_bad : GoodIn w_X12_clause w_X12_bad := goodIn_sub (fun _ h => List.mem_cons_of_mem _ (List.mem_append_right _ (List.mem_append_right _ (List.mem_append_right _ (List.mem_append_left _ h))))) (by decide +kernel)
theorem g_X12_clause_X12_bad_143 : GoodIn w_X12_clause (wsV RX12 143 RX12 yX12_bad w_X12_bad) := goodIn_app (goodIn_of _ (by decide +kernel)) gg_X12_clause_X12_bad
theorem g_X12_clause_X12_look_146 : GoodIn w_X12_clause (wsV RX12 146 RX12 yX12_look w_X12_look) := goodIn_app (goodIn_of _ (by decide +kernel)) gg_X12_clause_X12_look
set_option maxHeartbeats 4000000 in
set_option maxRecDepth 100000 in
theorem c_X12_clause (l : Launch) (E : py_E) (L : List Nat) (f : py_F) (sz : Nat) (h : Nat) (xs : List Value) (cl : Nat) (g : Nat → Int32) (hh : py_at L f h (.inr (12, xs))) (hxs : xs.length = 54) (hp2 : xs[2]? = some (.int 0)) (hp3 : xs[3]? = some (.int 0)) (hp4 : xs[4]? = some (.int (-1))) (hp9 : xs[9]? = some (.ref cl)) (hcl : py_at L f cl (.inl (E.2.1, 5, .inl g))) (n : Int32) (hp14 : xs[14]? = some (.int n)) (hn : vp_in n 5) : Met l yX12_clause w_X12_clause ({ frames := 2, cells := 0, slots := 0, locals := 40 }) (py_Pc E [.ref h] L f sz) (py_Qv E L f sz (fun L1 f1 => ∃ ys : List Value, py_at L1 f1 h (.inr (12, ys)) ∧ ys.length = 54 ∧ ys[4]? = some (.int 0))) 0 0 (va_A (va_pl L f) sz) := by
  refine Met.ofW (cc := cX12_clause) (maxL := 3) (ret := none) (by decide) rfl ?_
  intro p e s m args below meth c s₁ B hml hv
  obtain ⟨rfl, rfl, hw⟩ := py_start hv
  have G : CallFix p m c cX12_clause 3 s _ w_X12_clause RX12 := ⟨B.exec, B.bytes, hml, findClass_of_methodNamed B.named, atoms_spec (ws := w_X12_clause) B.pre⟩
  have hr := B.returns
  have hlk := B.notSynchronized
  have hl := lv_entry ([.ref h]) (n := 3) (Nat.le_of_ble_eq_true rfl)
  rw [lg_entry_eq]
  generalize (lg_sl ([.ref h]) ++ List.replicate (3 - (lg_sl ([.ref h])).length) Slot.unset).toArray = ls at hl ⊢
  have hl : lv_has ls 3 [(0, .ref h)] := hl
  refine lv_bipush (v := 90) G.1 G.2.1 dX12_clause_0 (by decide) ?_
  refine lv_aload_n G.1 G.2.1 dX12_clause_2 rfl (lv_at hl 0 rfl) ?_
  refine py_get (C := RX12) (T := TX12) (N := 54) (k := 14) (v := .int n) G hw in_X12_clause_X12 rfl hh (by decide) (by decide +kernel) hp14 dX12_clause_3 ?_
  refine lv_imul G.1 G.2.1 dX12_clause_6 ?_
  refine lv_topi (fun x_1 ex_1 => ?_)
  refine lv_aload_n G.1 G.2.1 dX12_clause_7 rfl (lv_at hl 0 rfl) ?_
  refine py_get (C := RX12) (T := TX12) (N := 54) (k := 9) (v := .ref cl) G hw in_X12_clause_X12 rfl hh (by decide) (by decide +kernel) hp9 dX12_clause_8 ?_
  refine lv_aload_n G.1 G.2.1 dX12_clause_11 rfl (lv_at hl 0 rfl) ?_
  refine py_get (C := RX12) (T := TX12) (N := 54) (k := 14) (v := .int n) G hw in_X12_clause_X12 rfl hh (by decide) (by decide +kernel) hp14 dX12_clause_12 ?_
  refine py_iald G hw hcl hn dX12_clause_15 ?_
  refine lv_topi (fun x_2 ex_2 => ?_)
  refine lv_iadd G.1 G.2.1 dX12_clause_16 ?_
  refine lv_topi (fun x_3 ex_3 => ?_)
  refine lv_istore_n (lv' := [(1, .int x_3), (0, .ref h)]) G.1 G.2.1 dX12_clause_17 rfl hl (by decide) rfl (fun ls hl => ?_)
  refine lv_aload_n G.1 G.2.1 dX12_clause_18 rfl (lv_at hl 1 rfl) ?_
  refine py_get (C := RX12) (T := TX12) (N := 54) (k := 4) (v := .int (-1)) G hw in_X12_clause_X12 rfl hh (by decide) (by decide +kernel) hp4 dX12_clause_19 ?_
  refine lv_iconst (v := (-1)) G.1 G.2.1 dX12_clause_22 (by decide) ?_
  refine lv_icmp_ne (tgt := 39) G.1 G.2.1 dX12_clause_23 (by decide) (fun c_4 => ?_) (fun c_4 => ?_)
  · skip
    exact absurd c_4 (by decide)
  · skip
    refine lv_aload_n G.1 G.2.1 dX12_clause_26 rfl (lv_at hl 1 rfl) ?_
    refine py_calli hw (va_runV (As := []) (rest := []) G (c_X12_look l E L f s.heap.size h xs hh hxs hp2 hp3) (cwV 0 G.2.2.2.2 g_X12_clause_X12_look_146 rfl rfl rfl (by decide +kernel) ⟨(Nat.le_of_ble_eq_true rfl), (Nat.le_of_ble_eq_true rfl)⟩) (py_preV hw (C := RX12) (T := TX12) (N := 54) rfl hh) rfl rfl hl.1 rfl (lv_room (Nat.le_of_ble_eq_true rfl)) dX12_clause_27 ⟨(Nat.le_of_ble_eq_true rfl), (Nat.le_of_ble_eq_true rfl)⟩) (fun r_9 L_5 f_6 H_7 locs hp_8 hw => ?_)
    obtain ⟨rfl, rfl, rfl⟩ := hp_8
    refine lv_bipush (v := 121) G.1 G.2.1 dX12_clause_30 (by decide) ?_
    refine lv_icmp_eq (tgt := 39) G.1 G.2.1 dX12_clause_32 (by decide) (fun c_10 => ?_) (fun c_10 => ?_)
    · skip
      exact absurd c_10 (by decide)
    · skip
      refine lv_aload_n G.1 G.2.1 dX12_clause_35 rfl (lv_at hl 1 rfl) ?_
      refine py_callv hw (va_runV (As := []) (rest := []) G (c_X12_bad l E L f H_7.size h xs hh hxs hp3 hp4) (cwV 0 G.2.2.2.2 g_X12_clause_X12_bad_143 rfl rfl rfl (by decide +kernel) ⟨(Nat.le_of_ble_eq_true rfl), (Nat.le_of_ble_eq_true rfl)⟩) (py_preV hw (C := RX12) (T := TX12) (N := 54) rfl hh) rfl rfl hl.1 rfl (lv_room (Nat.le_of_ble_eq_true rfl)) dX12_clause_36 ⟨(Nat.le_of_ble_eq_true rfl), (Nat.le_of_ble_eq_true rfl)⟩) (fun L_11 f_12 H_13 locs hp_14 hw => ?_)
      obtain ⟨xs_16, h_17, hl_18, hk_19, x_20⟩ := hp_14
      have hp_22 : xs_16[2]? = some (.int 0) := (hk_19.2 2 (by decide)).trans hp2
      have hp_23 : xs_16[3]? = some (.int 0) := (hk_19.2 3 (by decide)).trans hp3
      have hp_24 : xs_16[9]? = some (.ref cl) := (hk_19.2 9 (by decide)).trans hp9
      have hp_25 : xs_16[14]? = some (.int n) := (hk_19.2 14 (by decide)).trans hp14
      have hcl := hcl.ext x_20 (Ne.symm (py_ne_arr hh hcl))
      refine lv_aload_n G.1 G.2.1 dX12_clause_39 rfl (lv_at hl 1 rfl) ?_
      refine lv_dup G.1 G.2.1 dX12_clause_40 rfl ?_
      refine py_get (C := RX12) (T := TX12) (N := 54) (k := 3) (v := .int 0) G hw in_X12_clause_X12 rfl h_17 (by decide) (by decide +kernel) hp_23 dX12_clause_41 ?_
      refine lv_iconst (v := 1) G.1 G.2.1 dX12_clause_44 (by decide) ?_
      refine lv_iadd G.1 G.2.1 dX12_clause_45 ?_
      rw [show 0 + 1 = (1 : Int32) by decide]
      refine py_put (C := RX12) (T := TX12) (N := 54) (k := 3) (v := .int 1) (fs' := xs_16.set 3 (.int 1)) (ty0 := tyX12) G hw tyX12_ok nmX12 in_X12_clause_X12 rfl h_17 (by decide) (by decide +kernel) rfl rfl rfl rfl (py_len hl_18 (by decide)) rfl dX12_clause_46 (fun f_26 H_27 locs h_28 x_29 hw => ?_)
      obtain ⟨xs_30, exs_30⟩ : ∃ y, y = xs_16.set 3 (.int 1) := ⟨_, rfl⟩
      rw [← exs_30] at h_28
      have hl_31 : xs_30.length = 54 := by rw [exs_30, List.length_set]; exact hl_18
      have hp_32 : xs_30[2]? = some (.int 0) := by rw [exs_30, List.getElem?_set_ne (by decide)]; exact hp_22
      have hp_33 : xs_30[9]? = some (.ref cl) := by rw [exs_30, List.getElem?_set_ne (by decide)]; exact hp_24
      have hp_34 : xs_30[14]? = some (.int n) := by rw [exs_30, List.getElem?_set_ne (by decide)]; exact hp_25
      have hp_35 : xs_30[4]? = some (.int 0) := by rw [exs_30, List.getElem?_set_ne (by decide)]; exact hk_19.1
      have hp_36 : xs_30[3]? = some (.int 1) := by rw [exs_30, List.getElem?_set_self (by rw [hl_18]; decide)]
      have hcl := hcl.ext x_29 (Ne.symm (py_ne_arr h_17 hcl))
      refine lv_aload_n G.1 G.2.1 dX12_clause_49 rfl (lv_at hl 1 rfl) ?_
      refine py_get (C := RX12) (T := TX12) (N := 54) (k := 4) (v := .int 0) G hw in_X12_clause_X12 rfl h_28 (by decide) (by decide +kernel) hp_35 dX12_clause_50 ?_
      refine lv_iconst (v := (-1)) G.1 G.2.1 dX12_clause_53 (by decide) ?_
      refine lv_icmp_ne (tgt := 70) G.1 G.2.1 dX12_clause_54 (by decide) (fun c_37 => ?_) (fun c_37 => ?_)
      · skip
        refine lv_aload_n G.1 G.2.1 dX12_clause_70 rfl (lv_at hl 1 rfl) ?_
        refine lv_dup G.1 G.2.1 dX12_clause_71 rfl ?_
        refine py_get (C := RX12) (T := TX12) (N := 54) (k := 3) (v := .int 1) G hw in_X12_clause_X12 rfl h_28 (by decide) (by decide +kernel) hp_36 dX12_clause_72 ?_
        refine lv_iconst (v := 1) G.1 G.2.1 dX12_clause_75 (by decide) ?_
        refine lv_iadd G.1 G.2.1 dX12_clause_76 ?_
        rw [show 1 + 1 = (2 : Int32) by decide]
        refine py_put (C := RX12) (T := TX12) (N := 54) (k := 3) (v := .int 2) (fs' := xs_30.set 3 (.int 2)) (ty0 := tyX12) G hw tyX12_ok nmX12 in_X12_clause_X12 rfl h_28 (by decide) (by decide +kernel) rfl rfl rfl rfl (py_len hl_31 (by decide)) rfl dX12_clause_77 (fun f_38 H_39 locs h_40 x_41 hw => ?_)
        obtain ⟨xs_42, exs_42⟩ : ∃ y, y = xs_30.set 3 (.int 2) := ⟨_, rfl⟩
        rw [← exs_42] at h_40
        have hl_43 : xs_42.length = 54 := by rw [exs_42, List.length_set]; exact hl_31
        have hp_44 : xs_42[2]? = some (.int 0) := by rw [exs_42, List.getElem?_set_ne (by decide)]; exact hp_32
        have hp_45 : xs_42[9]? = some (.ref cl) := by rw [exs_42, List.getElem?_set_ne (by decide)]; exact hp_33
        have hp_46 : xs_42[14]? = some (.int n) := by rw [exs_42, List.getElem?_set_ne (by decide)]; exact hp_34
        have hp_47 : xs_42[4]? = some (.int 0) := by rw [exs_42, List.getElem?_set_ne (by decide)]; exact hp_35
        have hp_48 : xs_42[3]? = some (.int 2) := by rw [exs_42, List.getElem?_set_self (by rw [hl_31]; decide)]
        have hcl := hcl.ext x_41 (Ne.symm (py_ne_arr h_28 hcl))
        refine lv_aload_n G.1 G.2.1 dX12_clause_80 rfl (lv_at hl 1 rfl) ?_
        refine py_get (C := RX12) (T := TX12) (N := 54) (k := 4) (v := .int 0) G hw in_X12_clause_X12 rfl h_40 (by decide) (by decide +kernel) hp_47 dX12_clause_81 ?_
        refine lv_iconst (v := (-1)) G.1 G.2.1 dX12_clause_84 (by decide) ?_
        refine lv_icmp_eq (tgt := 89) G.1 G.2.1 dX12_clause_85 (by decide) (fun c_49 => ?_) (fun c_49 => ?_)
        · skip
          exact absurd c_49 (by decide)
        · skip
          exact py_vret G hr hlk hw ⟨_, h_40, hl_43, hp_47⟩ dX12_clause_88
      · skip
        exact absurd c_37 (by decide)

def w_X12_atEnd : List Cond := .code yX12_atEnd cX12_atEnd 1 (some .int) :: ([Cond.fieldLink RX12 134 "HeadYearModel" "wrong" "I"] ++ (u_ws RX12 TX12 54 ++ ([])))
theorem in_X12_atEnd_X12 : ∀ w ∈ u_ws RX12 TX12 54, w ∈ w_X12_atEnd := fun _ h => List.mem_cons_of_mem _ (List.mem_append_right _ (List.mem_append_left _ h))
set_option maxHeartbeats 4000000 in
set_option maxRecDepth 100000 in
theorem c_X12_atEnd (l : Launch) (E : py_E) (L : List Nat) (f : py_F) (sz : Nat) (h : Nat) (xs : List Value) (hh : py_at L f h (.inr (12, xs))) (hxs : xs.length = 54) (hp4 : xs[4]? = some (.int 0)) : Met l yX12_atEnd w_X12_atEnd ({ frames := 0, cells := 0, slots := 0, locals := 0 }) (py_Pc E [.ref h] L f sz) (py_Qi E L f sz (fun r _ _ => r = 0)) 0 0 (va_A (va_pl L f) sz) := by
  refine Met.ofW (cc := cX12_atEnd) (maxL := 1) (ret := (some .int)) (by decide) rfl ?_
  intro p e s m args below meth c s₁ B hml hv
  obtain ⟨rfl, rfl, hw⟩ := py_start hv
  have G : CallFix p m c cX12_atEnd 1 s _ w_X12_atEnd RX12 := ⟨B.exec, B.bytes, hml, findClass_of_methodNamed B.named, atoms_spec (ws := w_X12_atEnd) B.pre⟩
  have hr := B.returns
  have hlk := B.notSynchronized
  have hl := lv_entry ([.ref h]) (n := 1) (Nat.le_of_ble_eq_true rfl)
  rw [lg_entry_eq]
  generalize (lg_sl ([.ref h]) ++ List.replicate (1 - (lg_sl ([.ref h])).length) Slot.unset).toArray = ls at hl ⊢
  have hl : lv_has ls 1 [(0, .ref h)] := hl
  refine lv_aload_n G.1 G.2.1 dX12_atEnd_0 rfl (lv_at hl 0 rfl) ?_
  refine py_get (C := RX12) (T := TX12) (N := 54) (k := 4) (v := .int 0) G hw in_X12_atEnd_X12 rfl hh (by decide) (by decide +kernel) hp4 dX12_atEnd_1 ?_
  refine lv_iconst (v := (-1)) G.1 G.2.1 dX12_atEnd_4 (by decide) ?_
  refine lv_icmp_ne (tgt := 20) G.1 G.2.1 dX12_atEnd_5 (by decide) (fun c_1 => ?_) (fun c_1 => ?_)
  · skip
    refine lv_aload_n G.1 G.2.1 dX12_atEnd_20 rfl (lv_at hl 0 rfl) ?_
    refine py_get (C := RX12) (T := TX12) (N := 54) (k := 4) (v := .int 0) G hw in_X12_atEnd_X12 rfl hh (by decide) (by decide +kernel) hp4 dX12_atEnd_21 ?_
    exact py_iret G hr rfl hlk hw rfl dX12_atEnd_24
  · skip
    exact absurd c_1 (by decide)

def w_X12_readLaw : List Cond := .code yX12_readLaw cX12_readLaw 2 (some .int) :: ([Cond.methodLink RX12 198 yX12_open, Cond.instanceMethod yX12_open, Cond.selects RX12 yX12_open yX12_open, Cond.initialized RX12, Cond.methodLink RX12 201 yX12_clause, Cond.instanceMethod yX12_clause, Cond.selects RX12 yX12_clause yX12_clause, Cond.fieldLink RX12 134 "HeadYearModel" "wrong" "I", Cond.methodLink RX12 204 yX12_atEnd, Cond.instanceMethod yX12_atEnd, Cond.selects RX12 yX12_atEnd yX12_atEnd] ++ (u_ws RX12 TX12 54 ++ (w_X12_open ++ (w_X12_clause ++ (w_X12_atEnd ++ ([]))))))
theorem in_X12_readLaw_X12 : ∀ w ∈ u_ws RX12 TX12 54, w ∈ w_X12_readLaw := fun _ h => List.mem_cons_of_mem _ (List.mem_append_right _ (List.mem_append_left _ h))
theorem gg_X12_readLaw_X12_open : GoodIn w_X12_readLaw w_X12_open := goodIn_sub (fun _ h => List.mem_cons_of_mem _ (List.mem_append_right _ (List.mem_append_right _ (List.mem_append_left _ h)))) (by decide +kernel)
theorem gg_X12_readLaw_X12_clause : GoodIn w_X12_readLaw w_X12_clause := goodIn_sub (fun _ h => List.mem_cons_of_mem _ (List.mem_append_right _ (List.mem_append_right _ (List.mem_append_right _ (List.mem_append_left _ h))))) (by decide +kernel)
theorem gg_X12_readLaw_X12_atEnd : GoodIn w_X12_readLaw w_X12_atEnd := goodIn_sub (fun _ h => List.mem_cons_of_mem _ (List.mem_append_right _ (List.mem_append_right _ (List.mem_append_right _ (List.mem_append_right _ (List.mem_append_left _ h)))))) (by decide +kernel)
theorem g_X12_readLaw_X12_atEnd_204 : GoodIn w_X12_readLaw (wsV RX12 204 RX12 yX12_atEnd w_X12_atEnd) := goodIn_app (goodIn_of _ (by decide +kernel)) gg_X12_readLaw_X12_atEnd
theorem g_X12_readLaw_X12_clause_201 : GoodIn w_X12_readLaw (wsV RX12 201 RX12 yX12_clause w_X12_clause) := goodIn_app (goodIn_of _ (by decide +kernel)) gg_X12_readLaw_X12_clause
theorem g_X12_readLaw_X12_open_198 : GoodIn w_X12_readLaw (wsV RX12 198 RX12 yX12_open w_X12_open) := goodIn_app (goodIn_of _ (by decide +kernel)) gg_X12_readLaw_X12_open
set_option maxHeartbeats 4000000 in
set_option maxRecDepth 100000 in
theorem c_X12_readLaw (l : Launch) (E : py_E) (L : List Nat) (f : py_F) (sz : Nat) (h : Nat) (a : Int32) (hM : fr_M E L f h) (hn : vp_in a 5) : Met l yX12_readLaw w_X12_readLaw ({ frames := 3, cells := 0, slots := 0, locals := 62 }) (py_Pc E [.ref h, .int a] L f sz) (py_Qi E L f sz (fun r _ _ => r = 0)) 0 0 (va_A (va_pl L f) sz) := by
  refine Met.ofW (cc := cX12_readLaw) (maxL := 2) (ret := (some .int)) (by decide) rfl ?_
  intro p e s m args below meth c s₁ B hml hv
  obtain ⟨rfl, rfl, hw⟩ := py_start hv
  have G : CallFix p m c cX12_readLaw 2 s _ w_X12_readLaw RX12 := ⟨B.exec, B.bytes, hml, findClass_of_methodNamed B.named, atoms_spec (ws := w_X12_readLaw) B.pre⟩
  have hr := B.returns
  have hlk := B.notSynchronized
  have hl := lv_entry ([.ref h, .int a]) (n := 2) (Nat.le_of_ble_eq_true rfl)
  rw [lg_entry_eq]
  generalize (lg_sl ([.ref h, .int a]) ++ List.replicate (2 - (lg_sl ([.ref h, .int a])).length) Slot.unset).toArray = ls at hl ⊢
  have hl : lv_has ls 2 [(0, .ref h), (1, .int a)] := hl
  obtain ⟨tp, cd, cl, g1, g2, g3, xs, v32, v33, v34, hh, hxs, hp1, hp2, hp8, hp9, hp13, hp24, hp25, hp29, hp31, hp43, hp53, ⟨hp32, hp33, hp34⟩, htp, hcd, hcl⟩ := id hM
  refine lv_aload_n G.1 G.2.1 dX12_readLaw_0 rfl (lv_at hl 0 rfl) ?_
  refine lv_iload_n G.1 G.2.1 dX12_readLaw_1 rfl (lv_at hl 1 rfl) ?_
  refine py_callv hw (va_runV (As := [.int a]) (rest := []) G (c_X12_open l E L f s.heap.size h a hM hn) (cwV 1 G.2.2.2.2 g_X12_readLaw_X12_open_198 rfl rfl rfl (by decide +kernel) ⟨(Nat.le_of_ble_eq_true rfl), (Nat.le_of_ble_eq_true rfl)⟩) (py_preV hw (C := RX12) (T := TX12) (N := 54) rfl hh) rfl rfl hl.1 rfl (lv_room (Nat.le_of_ble_eq_true rfl)) dX12_readLaw_2 ⟨(Nat.le_of_ble_eq_true rfl), (Nat.le_of_ble_eq_true rfl)⟩) (fun L_1 f_2 H_3 locs hp_4 hw => ?_)
  obtain ⟨xs_6, cl_7, g_8, h_9, hl_10, hp_11, hp_12, hp_13, hp_14, hp_15, hcl_16⟩ := hp_4
  refine lv_aload_n G.1 G.2.1 dX12_readLaw_5 rfl (lv_at hl 0 rfl) ?_
  refine py_callv hw (va_runV (As := []) (rest := []) G (c_X12_clause l E L_1 f_2 H_3.size h xs_6 cl_7 g_8 h_9 hl_10 hp_11 hp_12 hp_13 hp_14 hcl_16 a hp_15 hn) (cwV 0 G.2.2.2.2 g_X12_readLaw_X12_clause_201 rfl rfl rfl (by decide +kernel) ⟨(Nat.le_of_ble_eq_true rfl), (Nat.le_of_ble_eq_true rfl)⟩) (py_preV hw (C := RX12) (T := TX12) (N := 54) rfl h_9) rfl rfl hl.1 rfl (lv_room (Nat.le_of_ble_eq_true rfl)) dX12_readLaw_6 ⟨(Nat.le_of_ble_eq_true rfl), (Nat.le_of_ble_eq_true rfl)⟩) (fun L_17 f_18 H_19 locs hp_20 hw => ?_)
  obtain ⟨xs_22, h_23, hl_24, hp_25⟩ := hp_20
  refine lv_aload_n G.1 G.2.1 dX12_readLaw_9 rfl (lv_at hl 0 rfl) ?_
  refine py_get (C := RX12) (T := TX12) (N := 54) (k := 4) (v := .int 0) G hw in_X12_readLaw_X12 rfl h_23 (by decide) (by decide +kernel) hp_25 dX12_readLaw_10 ?_
  refine lv_iconst (v := (-1)) G.1 G.2.1 dX12_readLaw_13 (by decide) ?_
  refine lv_icmp_ne (tgt := 43) G.1 G.2.1 dX12_readLaw_14 (by decide) (fun c_26 => ?_) (fun c_26 => ?_)
  · skip
    refine lv_aload_n G.1 G.2.1 dX12_readLaw_43 rfl (lv_at hl 0 rfl) ?_
    refine py_calli hw (va_runV (As := []) (rest := []) G (c_X12_atEnd l E L_17 f_18 H_19.size h xs_22 h_23 hl_24 hp_25) (cwV 0 G.2.2.2.2 g_X12_readLaw_X12_atEnd_204 rfl rfl rfl (by decide +kernel) ⟨(Nat.le_of_ble_eq_true rfl), (Nat.le_of_ble_eq_true rfl)⟩) (py_preV hw (C := RX12) (T := TX12) (N := 54) rfl h_23) rfl rfl hl.1 rfl (lv_room (Nat.le_of_ble_eq_true rfl)) dX12_readLaw_44 ⟨(Nat.le_of_ble_eq_true rfl), (Nat.le_of_ble_eq_true rfl)⟩) (fun r_31 L_27 f_28 H_29 locs hp_30 hw => ?_)
    obtain rfl := hp_30
    exact py_iret G hr rfl hlk hw rfl dX12_readLaw_47
  · skip
    exact absurd c_26 (by decide)

def w_X12_fault : List Cond := .code yX12_fault cX12_fault 2 (some .int) :: ([Cond.methodLink RX12 284 yX12_readLaw, Cond.instanceMethod yX12_readLaw, Cond.selects RX12 yX12_readLaw yX12_readLaw, Cond.initialized RX12, Cond.methodLink RX12 281 yX12_readValley, Cond.instanceMethod yX12_readValley, Cond.selects RX12 yX12_readValley yX12_readValley] ++ (w_X12_readLaw ++ (w_X12_readValley ++ ([]))))
theorem gg_X12_fault_X12_readLaw : GoodIn w_X12_fault w_X12_readLaw := goodIn_sub (fun _ h => List.mem_cons_of_mem _ (List.mem_append_right _ (List.mem_append_left _ h))) (by decide +kernel)
theorem gg_X12_fault_X12_readValley : GoodIn w_X12_fault w_X12_readValley := goodIn_sub (fun _ h => List.mem_cons_of_mem _ (List.mem_append_right _ (List.mem_append_right _ (List.mem_append_left _ h)))) (by decide +kernel)
theorem g_X12_fault_X12_readLaw_284 : GoodIn w_X12_fault (wsV RX12 284 RX12 yX12_readLaw w_X12_readLaw) := goodIn_app (goodIn_of _ (by decide +kernel)) gg_X12_fault_X12_readLaw
theorem g_X12_fault_X12_readValley_281 : GoodIn w_X12_fault (wsV RX12 281 RX12 yX12_readValley w_X12_readValley) := goodIn_app (goodIn_of _ (by decide +kernel)) gg_X12_fault_X12_readValley
set_option maxHeartbeats 4000000 in
set_option maxRecDepth 100000 in
theorem c_X12_fault (l : Launch) (E : py_E) (L : List Nat) (f : py_F) (sz : Nat) (h : Nat) (a : Int32) (hM : fr_M E L f h) : Met l yX12_fault w_X12_fault ({ frames := 4, cells := 0, slots := 0, locals := 83 }) (py_Pc E [.ref h, .int a] L f sz) (py_Qi E L f sz (fun r _ _ => r = sp_fault a)) 0 0 (va_A (va_pl L f) sz) := by
  refine Met.ofW (cc := cX12_fault) (maxL := 2) (ret := (some .int)) (by decide) rfl ?_
  intro p e s m args below meth c s₁ B hml hv
  obtain ⟨rfl, rfl, hw⟩ := py_start hv
  have G : CallFix p m c cX12_fault 2 s _ w_X12_fault RX12 := ⟨B.exec, B.bytes, hml, findClass_of_methodNamed B.named, atoms_spec (ws := w_X12_fault) B.pre⟩
  have hr := B.returns
  have hlk := B.notSynchronized
  have hl := lv_entry ([.ref h, .int a]) (n := 2) (Nat.le_of_ble_eq_true rfl)
  rw [lg_entry_eq]
  generalize (lg_sl ([.ref h, .int a]) ++ List.replicate (2 - (lg_sl ([.ref h, .int a])).length) Slot.unset).toArray = ls at hl ⊢
  have hl : lv_has ls 2 [(0, .ref h), (1, .int a)] := hl
  obtain ⟨tp, cd, cl, g1, g2, g3, xs, v32, v33, v34, hh, hxs, hp1, hp2, hp8, hp9, hp13, hp24, hp25, hp29, hp31, hp43, hp53, ⟨hp32, hp33, hp34⟩, htp, hcd, hcl⟩ := id hM
  refine lv_iload_n G.1 G.2.1 dX12_fault_0 rfl (lv_at hl 1 rfl) ?_
  refine lv_if_ne (tgt := 11) G.1 G.2.1 dX12_fault_1 (by decide) (fun c_1 => ?_) (fun c_1 => ?_)
  · skip
    refine lv_iload_n G.1 G.2.1 dX12_fault_11 rfl (lv_at hl 1 rfl) ?_
    refine lv_iconst (v := 1) G.1 G.2.1 dX12_fault_12 (by decide) ?_
    refine lv_icmp_ne (tgt := 24) G.1 G.2.1 dX12_fault_13 (by decide) (fun c_2 => ?_) (fun c_2 => ?_)
    · skip
      refine lv_bipush (v := (-2)) G.1 G.2.1 dX12_fault_24 (by decide) ?_
      exact py_iret G hr rfl hlk hw (by simp [sp_fault, c_1, c_2]) dX12_fault_26
    · skip
      subst c_2
      refine lv_aload_n G.1 G.2.1 dX12_fault_16 rfl (lv_at hl 0 rfl) ?_
      refine lv_iconst (v := 4) G.1 G.2.1 dX12_fault_17 (by decide) ?_
      refine py_calli hw (va_runV (As := [.int 4]) (rest := []) G (c_X12_readLaw l E L f s.heap.size h 4 hM (py_inr (by decide))) (cwV 1 G.2.2.2.2 g_X12_fault_X12_readLaw_284 rfl rfl rfl (by decide +kernel) ⟨(Nat.le_of_ble_eq_true rfl), (Nat.le_of_ble_eq_true rfl)⟩) (py_preV hw (C := RX12) (T := TX12) (N := 54) rfl hh) rfl rfl hl.1 rfl (lv_room (Nat.le_of_ble_eq_true rfl)) dX12_fault_18 ⟨(Nat.le_of_ble_eq_true rfl), (Nat.le_of_ble_eq_true rfl)⟩) (fun r_7 L_3 f_4 H_5 locs hp_6 hw => ?_)
      obtain rfl := hp_6
      refine lv_goto (tgt := 26) G.1 G.2.1 dX12_fault_21 (by decide) ?_
      exact py_iret G hr rfl hlk hw (by simp [sp_fault, c_1]) dX12_fault_26
  · skip
    subst c_1
    refine lv_aload_n G.1 G.2.1 dX12_fault_4 rfl (lv_at hl 0 rfl) ?_
    refine py_calli hw (va_runV (As := []) (rest := []) G (c_X12_readValley l E L f s.heap.size h hM) (cwV 0 G.2.2.2.2 g_X12_fault_X12_readValley_281 rfl rfl rfl (by decide +kernel) ⟨(Nat.le_of_ble_eq_true rfl), (Nat.le_of_ble_eq_true rfl)⟩) (py_preV hw (C := RX12) (T := TX12) (N := 54) rfl hh) rfl rfl hl.1 rfl (lv_room (Nat.le_of_ble_eq_true rfl)) dX12_fault_5 ⟨(Nat.le_of_ble_eq_true rfl), (Nat.le_of_ble_eq_true rfl)⟩) (fun r_12 L_8 f_9 H_10 locs hp_11 hw => ?_)
    obtain rfl := hp_11
    refine lv_goto (tgt := 26) G.1 G.2.1 dX12_fault_8 (by decide) ?_
    exact py_iret G hr rfl hlk hw (by simp [sp_fault]) dX12_fault_26

def w_X12_text : List Cond := .code yX12_text cX12_text 2 (some .int) :: ([Cond.fieldLink RX12 322 "HeadYearModel" "laws" "I", Cond.methodLink RX12 284 yX12_readLaw, Cond.instanceMethod yX12_readLaw, Cond.selects RX12 yX12_readLaw yX12_readLaw, Cond.initialized RX12, Cond.methodLink RX12 281 yX12_readValley, Cond.instanceMethod yX12_readValley, Cond.selects RX12 yX12_readValley yX12_readValley] ++ (u_ws RX12 TX12 54 ++ (w_X12_readLaw ++ (w_X12_readValley ++ ([])))))
theorem in_X12_text_X12 : ∀ w ∈ u_ws RX12 TX12 54, w ∈ w_X12_text := fun _ h => List.mem_cons_of_mem _ (List.mem_append_right _ (List.mem_append_left _ h))
theorem gg_X12_text_X12_readLaw : GoodIn w_X12_text w_X12_readLaw := goodIn_sub (fun _ h => List.mem_cons_of_mem _ (List.mem_append_right _ (List.mem_append_right _ (List.mem_append_left _ h)))) (by decide +kernel)
theorem gg_X12_text_X12_readValley : GoodIn w_X12_text w_X12_readValley := goodIn_sub (fun _ h => List.mem_cons_of_mem _ (List.mem_append_right _ (List.mem_append_right _ (List.mem_append_right _ (List.mem_append_left _ h))))) (by decide +kernel)
theorem g_X12_text_X12_readLaw_284 : GoodIn w_X12_text (wsV RX12 284 RX12 yX12_readLaw w_X12_readLaw) := goodIn_app (goodIn_of _ (by decide +kernel)) gg_X12_text_X12_readLaw
theorem g_X12_text_X12_readValley_281 : GoodIn w_X12_text (wsV RX12 281 RX12 yX12_readValley w_X12_readValley) := goodIn_app (goodIn_of _ (by decide +kernel)) gg_X12_text_X12_readValley
set_option maxHeartbeats 4000000 in
set_option maxRecDepth 100000 in
theorem c_X12_text (l : Launch) (E : py_E) (L : List Nat) (f : py_F) (sz : Nat) (h : Nat) (a : Int32) (hM : fr_M E L f h) : Met l yX12_text w_X12_text ({ frames := 4, cells := 0, slots := 0, locals := 83 }) (py_Pc E [.ref h, .int a] L f sz) (py_Qi E L f sz (fun r _ _ => r = -1)) 0 0 (va_A (va_pl L f) sz) := by
  refine Met.ofW (cc := cX12_text) (maxL := 2) (ret := (some .int)) (by decide) rfl ?_
  intro p e s m args below meth c s₁ B hml hv
  obtain ⟨rfl, rfl, hw⟩ := py_start hv
  have G : CallFix p m c cX12_text 2 s _ w_X12_text RX12 := ⟨B.exec, B.bytes, hml, findClass_of_methodNamed B.named, atoms_spec (ws := w_X12_text) B.pre⟩
  have hr := B.returns
  have hlk := B.notSynchronized
  have hl := lv_entry ([.ref h, .int a]) (n := 2) (Nat.le_of_ble_eq_true rfl)
  rw [lg_entry_eq]
  generalize (lg_sl ([.ref h, .int a]) ++ List.replicate (2 - (lg_sl ([.ref h, .int a])).length) Slot.unset).toArray = ls at hl ⊢
  have hl : lv_has ls 2 [(0, .ref h), (1, .int a)] := hl
  obtain ⟨tp, cd, cl, g1, g2, g3, xs, v32, v33, v34, hh, hxs, hp1, hp2, hp8, hp9, hp13, hp24, hp25, hp29, hp31, hp43, hp53, ⟨hp32, hp33, hp34⟩, htp, hcd, hcl⟩ := id hM
  refine lv_iload_n G.1 G.2.1 dX12_text_0 rfl (lv_at hl 1 rfl) ?_
  refine lv_if_ne (tgt := 22) G.1 G.2.1 dX12_text_1 (by decide) (fun c_1 => ?_) (fun c_1 => ?_)
  · skip
    refine lv_iload_n G.1 G.2.1 dX12_text_22 rfl (lv_at hl 1 rfl) ?_
    refine lv_iconst (v := 1) G.1 G.2.1 dX12_text_23 (by decide) ?_
    refine lv_icmp_ne (tgt := 69) G.1 G.2.1 dX12_text_24 (by decide) (fun c_2 => ?_) (fun c_2 => ?_)
    · skip
      refine lv_iconst (v := (-1)) G.1 G.2.1 dX12_text_69 (by decide) ?_
      exact py_iret G hr rfl hlk hw rfl dX12_text_70
    · skip
      subst c_2
      refine lv_aload_n G.1 G.2.1 dX12_text_27 rfl (lv_at hl 0 rfl) ?_
      refine py_get (C := RX12) (T := TX12) (N := 54) (k := 13) (v := .int 0) G hw in_X12_text_X12 rfl hh (by decide) (by decide +kernel) hp13 dX12_text_28 ?_
      refine lv_iconst (v := 4) G.1 G.2.1 dX12_text_31 (by decide) ?_
      refine lv_icmp_ge (tgt := 69) G.1 G.2.1 dX12_text_32 (by decide) (fun c_3 => ?_) (fun c_3 => ?_)
      · skip
        exact absurd c_3 (by decide)
      · skip
        refine lv_aload_n G.1 G.2.1 dX12_text_35 rfl (lv_at hl 0 rfl) ?_
        refine lv_aload_n G.1 G.2.1 dX12_text_36 rfl (lv_at hl 0 rfl) ?_
        refine py_get (C := RX12) (T := TX12) (N := 54) (k := 13) (v := .int 0) G hw in_X12_text_X12 rfl hh (by decide) (by decide +kernel) hp13 dX12_text_37 ?_
        refine py_calli hw (va_runV (As := [.int 0]) (rest := []) G (c_X12_readLaw l E L f s.heap.size h 0 hM (py_inr (by decide))) (cwV 1 G.2.2.2.2 g_X12_text_X12_readLaw_284 rfl rfl rfl (by decide +kernel) ⟨(Nat.le_of_ble_eq_true rfl), (Nat.le_of_ble_eq_true rfl)⟩) (py_preV hw (C := RX12) (T := TX12) (N := 54) rfl hh) rfl rfl hl.1 rfl (lv_room (Nat.le_of_ble_eq_true rfl)) dX12_text_40 ⟨(Nat.le_of_ble_eq_true rfl), (Nat.le_of_ble_eq_true rfl)⟩) (fun r_8 L_4 f_5 H_6 locs hp_7 hw => ?_)
        obtain rfl := hp_7
        refine lv_iconst (v := (-1)) G.1 G.2.1 dX12_text_43 (by decide) ?_
        refine lv_icmp_ne (tgt := 69) G.1 G.2.1 dX12_text_44 (by decide) (fun c_9 => ?_) (fun c_9 => ?_)
        · skip
          refine lv_iconst (v := (-1)) G.1 G.2.1 dX12_text_69 (by decide) ?_
          exact py_iret G hr rfl hlk hw rfl dX12_text_70
        · skip
          exact absurd c_9 (by decide)
  · skip
    subst c_1
    refine lv_aload_n G.1 G.2.1 dX12_text_4 rfl (lv_at hl 0 rfl) ?_
    refine py_calli hw (va_runV (As := []) (rest := []) G (c_X12_readValley l E L f s.heap.size h hM) (cwV 0 G.2.2.2.2 g_X12_text_X12_readValley_281 rfl rfl rfl (by decide +kernel) ⟨(Nat.le_of_ble_eq_true rfl), (Nat.le_of_ble_eq_true rfl)⟩) (py_preV hw (C := RX12) (T := TX12) (N := 54) rfl hh) rfl rfl hl.1 rfl (lv_room (Nat.le_of_ble_eq_true rfl)) dX12_text_5 ⟨(Nat.le_of_ble_eq_true rfl), (Nat.le_of_ble_eq_true rfl)⟩) (fun r_14 L_10 f_11 H_12 locs hp_13 hw => ?_)
    obtain rfl := hp_13
    refine lv_iconst (v := (-1)) G.1 G.2.1 dX12_text_8 (by decide) ?_
    refine lv_icmp_ne (tgt := 22) G.1 G.2.1 dX12_text_9 (by decide) (fun c_15 => ?_) (fun c_15 => ?_)
    · skip
      refine lv_iload_n G.1 G.2.1 dX12_text_22 rfl (lv_at hl 1 rfl) ?_
      refine lv_iconst (v := 1) G.1 G.2.1 dX12_text_23 (by decide) ?_
      refine lv_icmp_ne (tgt := 69) G.1 G.2.1 dX12_text_24 (by decide) (fun c_16 => ?_) (fun c_16 => ?_)
      · skip
        refine lv_iconst (v := (-1)) G.1 G.2.1 dX12_text_69 (by decide) ?_
        exact py_iret G hr rfl hlk hw rfl dX12_text_70
      · skip
        exact absurd c_16 (by decide)
    · skip
      exact absurd c_15 (by decide)

def w_X12_level : List Cond := .code yX12_level cX12_level 3 (some .int) :: ([Cond.methodLink RX12 330 yX12_isLevel, Cond.instanceMethod yX12_isLevel, Cond.selects RX12 yX12_isLevel yX12_isLevel, Cond.initialized RX12, Cond.fieldLink RX12 117 "HeadYearModel" "thrown" "I"] ++ (u_ws RX12 TX12 54 ++ (w_X12_isLevel ++ ([]))))
theorem in_X12_level_X12 : ∀ w ∈ u_ws RX12 TX12 54, w ∈ w_X12_level := fun _ h => List.mem_cons_of_mem _ (List.mem_append_right _ (List.mem_append_left _ h))
theorem gg_X12_level_X12_isLevel : GoodIn w_X12_level w_X12_isLevel := goodIn_sub (fun _ h => List.mem_cons_of_mem _ (List.mem_append_right _ (List.mem_append_right _ (List.mem_append_left _ h)))) (by decide +kernel)
theorem g_X12_level_X12_isLevel_330 : GoodIn w_X12_level (wsV RX12 330 RX12 yX12_isLevel w_X12_isLevel) := goodIn_app (goodIn_of _ (by decide +kernel)) gg_X12_level_X12_isLevel
set_option maxHeartbeats 4000000 in
set_option maxRecDepth 100000 in
theorem c_X12_level (l : Launch) (E : py_E) (L : List Nat) (f : py_F) (sz : Nat) (h : Nat) (a b : Int32) (hM : fr_M E L f h) : Met l yX12_level w_X12_level ({ frames := 2, cells := 0, slots := 0, locals := 43 }) (py_Pc E [.ref h, .int a, .int b] L f sz) (py_Qi E L f sz (fun r L1 f1 => r = 0 ∧ ∃ ys : List Value, py_at L1 f1 h (.inr (12, ys)) ∧ ys[0]? = some (.int 1))) 0 0 (va_A (va_pl L f) sz) := by
  refine Met.ofW (cc := cX12_level) (maxL := 3) (ret := (some .int)) (by decide) rfl ?_
  intro p e s m args below meth c s₁ B hml hv
  obtain ⟨rfl, rfl, hw⟩ := py_start hv
  have G : CallFix p m c cX12_level 3 s _ w_X12_level RX12 := ⟨B.exec, B.bytes, hml, findClass_of_methodNamed B.named, atoms_spec (ws := w_X12_level) B.pre⟩
  have hr := B.returns
  have hlk := B.notSynchronized
  have hl := lv_entry ([.ref h, .int a, .int b]) (n := 3) (Nat.le_of_ble_eq_true rfl)
  rw [lg_entry_eq]
  generalize (lg_sl ([.ref h, .int a, .int b]) ++ List.replicate (3 - (lg_sl ([.ref h, .int a, .int b])).length) Slot.unset).toArray = ls at hl ⊢
  have hl : lv_has ls 3 [(0, .ref h), (1, .int a), (2, .int b)] := hl
  obtain ⟨tp, cd, cl, g1, g2, g3, xs, v32, v33, v34, hh, hxs, hp1, hp2, hp8, hp9, hp13, hp24, hp25, hp29, hp31, hp43, hp53, ⟨hp32, hp33, hp34⟩, htp, hcd, hcl⟩ := id hM
  refine lv_aload_n G.1 G.2.1 dX12_level_0 rfl (lv_at hl 0 rfl) ?_
  refine lv_aload_n G.1 G.2.1 dX12_level_1 rfl (lv_at hl 0 rfl) ?_
  refine lv_iload_n G.1 G.2.1 dX12_level_2 rfl (lv_at hl 1 rfl) ?_
  refine py_calli hw (va_runV (As := [.int a]) (rest := [.ref h]) G (c_X12_isLevel l E L f s.heap.size h a hM) (cwV 1 G.2.2.2.2 g_X12_level_X12_isLevel_330 rfl rfl rfl (by decide +kernel) ⟨(Nat.le_of_ble_eq_true rfl), (Nat.le_of_ble_eq_true rfl)⟩) (py_preV hw (C := RX12) (T := TX12) (N := 54) rfl hh) rfl rfl hl.1 rfl (lv_room (Nat.le_of_ble_eq_true rfl)) dX12_level_3 ⟨(Nat.le_of_ble_eq_true rfl), (Nat.le_of_ble_eq_true rfl)⟩) (fun r_5 L_1 f_2 H_3 locs hp_4 hw => ?_)
  obtain ⟨rfl, rfl, rfl⟩ := hp_4
  refine lv_if_eq (tgt := 23) G.1 G.2.1 dX12_level_6 (by decide) (fun c_6 => ?_) (fun c_6 => ?_)
  · skip
    refine lv_iconst (v := 1) G.1 G.2.1 dX12_level_23 (by decide) ?_
    refine py_put (C := RX12) (T := TX12) (N := 54) (k := 0) (v := .int 1) (fs' := xs.set 0 (.int 1)) (ty0 := tyX12) G hw tyX12_ok nmX12 in_X12_level_X12 rfl hh (by decide) (by decide +kernel) rfl rfl rfl rfl (py_len hxs (by decide)) rfl dX12_level_24 (fun f_7 H_8 locs h_9 x_10 hw => ?_)
    obtain ⟨xs_11, exs_11⟩ : ∃ y, y = xs.set 0 (.int 1) := ⟨_, rfl⟩
    rw [← exs_11] at h_9
    have hl_12 : xs_11.length = 54 := by rw [exs_11, List.length_set]; exact hxs
    have hp_13 : xs_11[1]? = some (.ref tp) := by rw [exs_11, List.getElem?_set_ne (by decide)]; exact hp1
    have hp_14 : xs_11[2]? = some (.int 0) := by rw [exs_11, List.getElem?_set_ne (by decide)]; exact hp2
    have hp_15 : xs_11[8]? = some (.ref cd) := by rw [exs_11, List.getElem?_set_ne (by decide)]; exact hp8
    have hp_16 : xs_11[9]? = some (.ref cl) := by rw [exs_11, List.getElem?_set_ne (by decide)]; exact hp9
    have hp_17 : xs_11[13]? = some (.int 0) := by rw [exs_11, List.getElem?_set_ne (by decide)]; exact hp13
    have hp_18 : xs_11[24]? = some (.int 0) := by rw [exs_11, List.getElem?_set_ne (by decide)]; exact hp24
    have hp_19 : xs_11[25]? = some (.int 0) := by rw [exs_11, List.getElem?_set_ne (by decide)]; exact hp25
    have hp_20 : xs_11[29]? = some (.int 0) := by rw [exs_11, List.getElem?_set_ne (by decide)]; exact hp29
    have hp_21 : xs_11[31]? = some (.int (-1)) := by rw [exs_11, List.getElem?_set_ne (by decide)]; exact hp31
    have hp_22 : xs_11[43]? = some (.int 0) := by rw [exs_11, List.getElem?_set_ne (by decide)]; exact hp43
    have hp_23 : xs_11[53]? = some (.int 0) := by rw [exs_11, List.getElem?_set_ne (by decide)]; exact hp53
    have hp_24 : xs_11[32]? = some (.int v32) := by rw [exs_11, List.getElem?_set_ne (by decide)]; exact hp32
    have hp_25 : xs_11[33]? = some (.int v33) := by rw [exs_11, List.getElem?_set_ne (by decide)]; exact hp33
    have hp_26 : xs_11[34]? = some (.int v34) := by rw [exs_11, List.getElem?_set_ne (by decide)]; exact hp34
    have hp_27 : xs_11[0]? = some (.int 1) := by rw [exs_11, List.getElem?_set_self (by rw [hxs]; decide)]
    have htp := htp.ext x_10 (Ne.symm (py_ne_arr hh htp))
    have hcd := hcd.ext x_10 (Ne.symm (py_ne_arr hh hcd))
    have hcl := hcl.ext x_10 (Ne.symm (py_ne_arr hh hcl))
    refine lv_aload_n G.1 G.2.1 dX12_level_27 rfl (lv_at hl 0 rfl) ?_
    refine py_get (C := RX12) (T := TX12) (N := 54) (k := 0) (v := .int 1) G hw in_X12_level_X12 rfl h_9 (by decide) (by decide +kernel) hp_27 dX12_level_28 ?_
    refine lv_iconst (v := 1) G.1 G.2.1 dX12_level_31 (by decide) ?_
    refine lv_icmp_ne (tgt := 37) G.1 G.2.1 dX12_level_32 (by decide) (fun c_28 => ?_) (fun c_28 => ?_)
    · skip
      exact absurd c_28 (by decide)
    · skip
      refine lv_iconst (v := 0) G.1 G.2.1 dX12_level_35 (by decide) ?_
      exact py_iret G hr rfl hlk hw ⟨rfl, _, h_9, hp_27⟩ dX12_level_36
  · skip
    exact absurd c_6 (by decide)

def w_X12_thrown : List Cond := .code yX12_thrown cX12_thrown 1 (some .int) :: ([Cond.fieldLink RX12 117 "HeadYearModel" "thrown" "I"] ++ (u_ws RX12 TX12 54 ++ ([])))
theorem in_X12_thrown_X12 : ∀ w ∈ u_ws RX12 TX12 54, w ∈ w_X12_thrown := fun _ h => List.mem_cons_of_mem _ (List.mem_append_right _ (List.mem_append_left _ h))
set_option maxHeartbeats 4000000 in
set_option maxRecDepth 100000 in
theorem c_X12_thrown (l : Launch) (E : py_E) (L : List Nat) (f : py_F) (sz : Nat) (h : Nat) (xs : List Value) (hh : py_at L f h (.inr (12, xs))) (hp0 : xs[0]? = some (.int 1)) : Met l yX12_thrown w_X12_thrown ({ frames := 0, cells := 0, slots := 0, locals := 0 }) (py_Pc E [.ref h] L f sz) (py_Qi E L f sz (fun r _ _ => r = 1)) 0 0 (va_A (va_pl L f) sz) := by
  refine Met.ofW (cc := cX12_thrown) (maxL := 1) (ret := (some .int)) (by decide) rfl ?_
  intro p e s m args below meth c s₁ B hml hv
  obtain ⟨rfl, rfl, hw⟩ := py_start hv
  have G : CallFix p m c cX12_thrown 1 s _ w_X12_thrown RX12 := ⟨B.exec, B.bytes, hml, findClass_of_methodNamed B.named, atoms_spec (ws := w_X12_thrown) B.pre⟩
  have hr := B.returns
  have hlk := B.notSynchronized
  have hl := lv_entry ([.ref h]) (n := 1) (Nat.le_of_ble_eq_true rfl)
  rw [lg_entry_eq]
  generalize (lg_sl ([.ref h]) ++ List.replicate (1 - (lg_sl ([.ref h])).length) Slot.unset).toArray = ls at hl ⊢
  have hl : lv_has ls 1 [(0, .ref h)] := hl
  refine lv_aload_n G.1 G.2.1 dX12_thrown_0 rfl (lv_at hl 0 rfl) ?_
  refine py_get (C := RX12) (T := TX12) (N := 54) (k := 0) (v := .int 1) G hw in_X12_thrown_X12 rfl hh (by decide) (by decide +kernel) hp0 dX12_thrown_1 ?_
  exact py_iret G hr rfl hlk hw rfl dX12_thrown_4
end
